set_option maxRecDepth 20000 in
theorem ggX12_paint_X12_in : GoodIn wsX12_paint wsX12_in := goodIn_r _ [12] (by decide +kernel) (by decide +kernel)
set_option maxRecDepth 20000 in
theorem gX12_paint_X12_in : GoodIn wsX12_paint (va_wsS RX12 66 yX12_in wsX12_in) := goodIn_app (goodIn_of _ (by decide +kernel)) ggX12_paint_X12_in
set_option maxRecDepth 20000 in
theorem ggX12_paint_X12_isSheet : GoodIn wsX12_paint wsX12_isSheet := goodIn_r _ [9, 10, 11, 8, 12] (by decide +kernel) (by decide +kernel)
set_option maxRecDepth 20000 in
theorem gX12_paint_X12_isSheet : GoodIn wsX12_paint (va_wsS RX12 157 yX12_isSheet wsX12_isSheet) := goodIn_app (goodIn_of _ (by decide +kernel)) ggX12_paint_X12_isSheet
set_option maxRecDepth 20000 in
theorem ggX12_paint_X12_laysMates : GoodIn wsX12_paint wsX12_laysMates := goodIn_r _ [16, 5, 17, 18, 19, 8, 20, 21, 22, 3, 23, 24, 25, 26, 27, 28, 29, 30, 31, 32, 33, 34, 35, 36, 37, 38, 39, 40, 41, 42, 43, 44, 45, 46, 47, 48, 49, 50, 51, 52, 53, 54, 55, 56, 57, 58, 59, 60, 61] (by decide +kernel) (by decide +kernel)
set_option maxRecDepth 20000 in
theorem gX12_paint_X12_laysMates : GoodIn wsX12_paint (wsV RX12 116 RX12 yX12_laysMates wsX12_laysMates) := goodIn_app (goodIn_of _ (by decide +kernel)) ggX12_paint_X12_laysMates
theorem dX12_paint_0 : decode cX12_paint 0 = .ok (.iload_n 1, 1) := by decide +kernel
theorem dX12_paint_1 : decode cX12_paint 1 = .ok (.invokestatic 157, 3) := by decide +kernel
theorem dX12_paint_10 : decode cX12_paint 10 = .ok (.invokestatic 66, 3) := by decide +kernel
theorem dX12_paint_13 : decode cX12_paint 13 = .ok (.ifCond .ne 6, 3) := by decide +kernel
theorem dX12_paint_16 : decode cX12_paint 16 = .ok (.bipush (-2), 2) := by decide +kernel
theorem dX12_paint_18 : decode cX12_paint 18 = .ok (.ireturn, 1) := by decide +kernel
theorem dX12_paint_19 : decode cX12_paint 19 = .ok (.aload_n 0, 1) := by decide +kernel
theorem dX12_paint_20 : decode cX12_paint 20 = .ok (.invokevirtual 116, 3) := by decide +kernel
theorem dX12_paint_23 : decode cX12_paint 23 = .ok (.aload_n 0, 1) := by decide +kernel
theorem dX12_paint_24 : decode cX12_paint 24 = .ok (.getfield 38, 3) := by decide +kernel
theorem dX12_paint_27 : decode cX12_paint 27 = .ok (.iload_n 1, 1) := by decide +kernel
theorem dX12_paint_28 : decode cX12_paint 28 = .ok (.iload_n 2, 1) := by decide +kernel
theorem dX12_paint_29 : decode cX12_paint 29 = .ok (.iastore, 1) := by decide +kernel
theorem dX12_paint_30 : decode cX12_paint 30 = .ok (.aload_n 0, 1) := by decide +kernel
theorem dX12_paint_31 : decode cX12_paint 31 = .ok (.getfield 41, 3) := by decide +kernel
theorem dX12_paint_34 : decode cX12_paint 34 = .ok (.iload_n 1, 1) := by decide +kernel
theorem dX12_paint_35 : decode cX12_paint 35 = .ok (.aload_n 0, 1) := by decide +kernel
theorem dX12_paint_36 : decode cX12_paint 36 = .ok (.getfield 63, 3) := by decide +kernel
theorem dX12_paint_39 : decode cX12_paint 39 = .ok (.iastore, 1) := by decide +kernel
theorem dX12_paint_4 : decode cX12_paint 4 = .ok (.ifCond .eq 12, 3) := by decide +kernel
theorem dX12_paint_40 : decode cX12_paint 40 = .ok (.iconst 0, 1) := by decide +kernel
theorem dX12_paint_41 : decode cX12_paint 41 = .ok (.istore_n 3, 1) := by decide +kernel
theorem dX12_paint_42 : decode cX12_paint 42 = .ok (.iload_n 3, 1) := by decide +kernel
theorem dX12_paint_43 : decode cX12_paint 43 = .ok (.bipush 40, 2) := by decide +kernel
theorem dX12_paint_45 : decode cX12_paint 45 = .ok (.if_icmp .ge 38, 3) := by decide +kernel
theorem dX12_paint_48 : decode cX12_paint 48 = .ok (.aload_n 0, 1) := by decide +kernel
theorem dX12_paint_49 : decode cX12_paint 49 = .ok (.getfield 44, 3) := by decide +kernel
theorem dX12_paint_52 : decode cX12_paint 52 = .ok (.bipush 40, 2) := by decide +kernel
theorem dX12_paint_54 : decode cX12_paint 54 = .ok (.iload_n 1, 1) := by decide +kernel
theorem dX12_paint_55 : decode cX12_paint 55 = .ok (.imul, 1) := by decide +kernel
theorem dX12_paint_56 : decode cX12_paint 56 = .ok (.iload_n 3, 1) := by decide +kernel
theorem dX12_paint_57 : decode cX12_paint 57 = .ok (.iadd, 1) := by decide +kernel
theorem dX12_paint_58 : decode cX12_paint 58 = .ok (.iload_n 3, 1) := by decide +kernel
theorem dX12_paint_59 : decode cX12_paint 59 = .ok (.aload_n 0, 1) := by decide +kernel
theorem dX12_paint_60 : decode cX12_paint 60 = .ok (.getfield 63, 3) := by decide +kernel
theorem dX12_paint_63 : decode cX12_paint 63 = .ok (.if_icmp .ge 12, 3) := by decide +kernel
theorem dX12_paint_7 : decode cX12_paint 7 = .ok (.iload_n 2, 1) := by decide +kernel
theorem dX12_paint_75 : decode cX12_paint 75 = .ok (.iconst 0, 1) := by decide +kernel
theorem dX12_paint_76 : decode cX12_paint 76 = .ok (.iastore, 1) := by decide +kernel
theorem dX12_paint_77 : decode cX12_paint 77 = .ok (.iinc 3 1, 3) := by decide +kernel
theorem dX12_paint_8 : decode cX12_paint 8 = .ok (.iconst 0, 1) := by decide +kernel
theorem dX12_paint_80 : decode cX12_paint 80 = .ok (.goto (-38), 3) := by decide +kernel
theorem dX12_paint_83 : decode cX12_paint 83 = .ok (.aload_n 0, 1) := by decide +kernel
theorem dX12_paint_84 : decode cX12_paint 84 = .ok (.getfield 63, 3) := by decide +kernel
theorem dX12_paint_87 : decode cX12_paint 87 = .ok (.ireturn, 1) := by decide +kernel
theorem dX12_paint_9 : decode cX12_paint 9 = .ok (.iconst 1, 1) := by decide +kernel
set_option maxHeartbeats 4000000 in
set_option maxRecDepth 100000 in
theorem c_X12_paint_0 (l : Launch) (D : va_G) (cI cS : ClassId) (sz : Nat) (h0 h1 h2 h3 h4 h5 h6 h7 h8 h9 h10 h11 h12 h13 h14 h15 : Nat) (x0 x1 : Int32) : Met l yX12_paint wsX12_paint ({ frames := 3, cells := 0, slots := 0, locals := 120 }) (PQ D cI cS [(h0, .inr (12, [.int 0, .int 1, .ref h1, .ref h2, .ref h3, .ref h4, .ref h5, .ref h6, .ref h7, .ref h8, .int 0, .int 0, .int 0, .int 0, .int 0, .int 0, .ref h9, .ref h10, .ref h11, .ref h12, .ref h13, .ref h14, .ref h15, .int 0])), (h3, .inl (cI, 4096, .inl (fun _ => 0))), (h9, .inl (cI, 4, .inl (fun _ => -1))), (h10, .inl (cI, 4, .inl (fun _ => 0))), (h11, .inl (cI, 160, .inl (fun _ => 0)))] sz [.ref h0, .int x0, .int x1]) (QI D [(h0, .inr (12, [.int 0, .int 1, .ref h1, .ref h2, .ref h3, .ref h4, .ref h5, .ref h6, .ref h7, .ref h8, .int 0, .int 0, .int 0, .int 0, .int 0, .int 0, .ref h9, .ref h10, .ref h11, .ref h12, .ref h13, .ref h14, .ref h15, .int 0])), (h3, .inl (cI, 4096, .inl (fun _ => 0))), (h9, .inl (cI, 4, .inl (fun _ => -1))), (h10, .inl (cI, 4, .inl (fun _ => 0))), (h11, .inl (cI, 160, .inl (fun _ => 0)))] [] sz (fun r => r = if x0 < 0 then ((-2) : Int32) else (if (3 : Int32) < x0 then ((-2) : Int32) else (if x1 < 0 then ((-2) : Int32) else (if (1 : Int32) < x1 then ((-2) : Int32) else (0 : Int32)))))) 0 0 (va_A [(h0, .inr (12, [.int 0, .int 1, .ref h1, .ref h2, .ref h3, .ref h4, .ref h5, .ref h6, .ref h7, .ref h8, .int 0, .int 0, .int 0, .int 0, .int 0, .int 0, .ref h9, .ref h10, .ref h11, .ref h12, .ref h13, .ref h14, .ref h15, .int 0])), (h3, .inl (cI, 4096, .inl (fun _ => 0))), (h9, .inl (cI, 4, .inl (fun _ => -1))), (h10, .inl (cI, 4, .inl (fun _ => 0))), (h11, .inl (cI, 160, .inl (fun _ => 0)))] sz) := by
  refine Met.ofW (cc := cX12_paint) (maxL := 4) (ret := (some .int)) (by decide) rfl ?_
  intro p e s m args below meth c s₁ B hml hv
  obtain ⟨rfl, hsz, hP, hKK, hD0⟩ := hv
  have hx := B.exec
  have hb := B.bytes
  have hr := B.returns
  have hts := atoms_spec (ws := wsX12_paint) B.pre
  have hown : s.vm.findClass RX12 = some m.cls := findClass_of_methodNamed B.named
  have hlocks := B.notSynchronized
  have hK := hKK.1
  have hN := hKK.2
  have hin12 : ∀ w ∈ wsX120, w ∈ wsX12_paint := by decide +kernel
  subst hsz
  have hD := hD0.self (sz := s.heap.size)
  obtain ⟨A, hAe⟩ : ∃ A, A = va_A [(h0, .inr (12, [.int 0, .int 1, .ref h1, .ref h2, .ref h3, .ref h4, .ref h5, .ref h6, .ref h7, .ref h8, .int 0, .int 0, .int 0, .int 0, .int 0, .int 0, .ref h9, .ref h10, .ref h11, .ref h12, .ref h13, .ref h14, .ref h15, .int 0])), (h3, .inl (cI, 4096, .inl (fun _ => 0))), (h9, .inl (cI, 4, .inl (fun _ => -1))), (h10, .inl (cI, 4, .inl (fun _ => 0))), (h11, .inl (cI, 160, .inl (fun _ => 0)))] s.heap.size := ⟨_, rfl⟩
  rw [← hAe] at hD
  have hA : ∀ q : Nat, s.heap.size ≤ q → A q := fun q h => by rw [hAe]; exact Or.inr h
  have hS : va_S A s.heap s.heap [] := va_S.rf
  have hl := lv_entry ([.ref h0, .int x0, .int x1]) (n := 4) (Nat.le_of_ble_eq_true rfl)
  rw [lg_entry_eq]
  generalize (lg_sl ([.ref h0, .int x0, .int x1]) ++ List.replicate (4 - (lg_sl ([.ref h0, .int x0, .int x1])).length) Slot.unset).toArray = ls at hl ⊢
  have hl : lv_has ls 4 [(0, .ref h0), (1, .int x0), (2, .int x1)] := hl
  refine lv_iload_n hx hb dX12_paint_0 rfl (lv_at hl 1 rfl) ?_
  have hPc := hP.sub (ws' := []) [] rfl
  refine lz_ss (As := [.int x0]) (rest := []) ⟨hx, hb, hml, hown, hts⟩ (c_X12_isSheet_0 l D cI cS x0) hKK hPc (va_cwS 1 hts gX12_paint_X12_isSheet rfl rfl rfl (by decide +kernel) ⟨Nat.le_of_ble_eq_true rfl, Nat.le_of_ble_eq_true rfl⟩) rfl hl.1 rfl (Nat.le_of_ble_eq_true rfl) dX12_paint_1 ⟨Nat.le_of_ble_eq_true rfl, Nat.le_of_ble_eq_true rfl⟩ (fun r973 hw => ?_)
  by_cases k974 : x0 < 0
  · rw [if_pos k974] at hw
    subst hw
    refine lv_if_eq (tgt := 16) hx hb dX12_paint_4 (by decide) (fun c975 => ?_) (fun c975 => ?_)
    · refine lv_bipush (v := (-2)) hx hb dX12_paint_16 (by decide) ?_
      have hP9 := hP.sub (ws' := []) [] rfl
      have hD9 := hD.sub (ws' := []) [] (by decide) rfl
      subst hAe
      exact W.iret (v := (-2)) hx hb hr (fun t ht hW => ⟨⟨_, (), rfl, by rw [if_pos k974], by rw [ht]; exact hP9, hD9⟩, hS.F ht⟩) hS.2.2 dX12_paint_18
    · exact absurd c975 (by decide)
  · rw [if_neg k974] at hw
    by_cases k976 : (3 : Int32) < x0
    · rw [if_pos k976] at hw
      subst hw
      refine lv_if_eq (tgt := 16) hx hb dX12_paint_4 (by decide) (fun c977 => ?_) (fun c977 => ?_)
      · refine lv_bipush (v := (-2)) hx hb dX12_paint_16 (by decide) ?_
        have hP9 := hP.sub (ws' := []) [] rfl
        have hD9 := hD.sub (ws' := []) [] (by decide) rfl
        subst hAe
        exact W.iret (v := (-2)) hx hb hr (fun t ht hW => ⟨⟨_, (), rfl, by rw [if_neg k974, if_pos k976], by rw [ht]; exact hP9, hD9⟩, hS.F ht⟩) hS.2.2 dX12_paint_18
      · exact absurd c977 (by decide)
    · rw [if_neg k976] at hw
      subst hw
      refine lv_if_eq (tgt := 16) hx hb dX12_paint_4 (by decide) (fun c978 => ?_) (fun c978 => ?_)
      · exact absurd c978 (by decide)
      · refine lv_iload_n hx hb dX12_paint_7 rfl (lv_at hl 2 rfl) ?_
        refine lv_iconst (v := 0) hx hb dX12_paint_8 (by decide) ?_
        refine lv_iconst (v := 1) hx hb dX12_paint_9 (by decide) ?_
        have hPc := hP.sub (ws' := []) [] rfl
        refine lz_ss (As := [.int x1, .int 0, .int 1]) (rest := []) ⟨hx, hb, hml, hown, hts⟩ (c_X12_in_4 l D cI cS x1) hKK hPc (va_cwS 3 hts gX12_paint_X12_in rfl rfl rfl (by decide +kernel) ⟨Nat.le_of_ble_eq_true rfl, Nat.le_of_ble_eq_true rfl⟩) rfl hl.1 rfl (Nat.le_of_ble_eq_true rfl) dX12_paint_10 ⟨Nat.le_of_ble_eq_true rfl, Nat.le_of_ble_eq_true rfl⟩ (fun r979 hw => ?_)
        by_cases k980 : x1 < 0
        · rw [if_pos k980] at hw
          subst hw
          refine lv_if_ne (tgt := 19) hx hb dX12_paint_13 (by decide) (fun c981 => ?_) (fun c981 => ?_)
          · exact absurd c981 (by decide)
          · refine lv_bipush (v := (-2)) hx hb dX12_paint_16 (by decide) ?_
            have hP9 := hP.sub (ws' := []) [] rfl
            have hD9 := hD.sub (ws' := []) [] (by decide) rfl
            subst hAe
            exact W.iret (v := (-2)) hx hb hr (fun t ht hW => ⟨⟨_, (), rfl, by rw [if_neg k974, if_neg k976, if_pos k980], by rw [ht]; exact hP9, hD9⟩, hS.F ht⟩) hS.2.2 dX12_paint_18
        · rw [if_neg k980] at hw
          by_cases k982 : (1 : Int32) < x1
          · rw [if_pos k982] at hw
            subst hw
            refine lv_if_ne (tgt := 19) hx hb dX12_paint_13 (by decide) (fun c983 => ?_) (fun c983 => ?_)
            · exact absurd c983 (by decide)
            · refine lv_bipush (v := (-2)) hx hb dX12_paint_16 (by decide) ?_
              have hP9 := hP.sub (ws' := []) [] rfl
              have hD9 := hD.sub (ws' := []) [] (by decide) rfl
              subst hAe
              exact W.iret (v := (-2)) hx hb hr (fun t ht hW => ⟨⟨_, (), rfl, by rw [if_neg k974, if_neg k976, if_neg k980, if_pos k982], by rw [ht]; exact hP9, hD9⟩, hS.F ht⟩) hS.2.2 dX12_paint_18
          · rw [if_neg k982] at hw
            subst hw
            refine lv_if_ne (tgt := 19) hx hb dX12_paint_13 (by decide) (fun c984 => ?_) (fun c984 => ?_)
            · refine lv_aload_n hx hb dX12_paint_19 rfl (lv_at hl 0 rfl) ?_
              have hPc := hP.sub (ws' := [(h0, .inr (12, [.int 0, .int 1, .ref h1, .ref h2, .ref h3, .ref h4, .ref h5, .ref h6, .ref h7, .ref h8, .int 0, .int 0, .int 0, .int 0, .int 0, .int 0, .ref h9, .ref h10, .ref h11, .ref h12, .ref h13, .ref h14, .ref h15, .int 0])), (h3, .inl (cI, 4096, .inl (fun _ => 0)))]) [0, 1] rfl
              have hDc := hD.sub (ws' := [(h0, .inr (12, [.int 0, .int 1, .ref h1, .ref h2, .ref h3, .ref h4, .ref h5, .ref h6, .ref h7, .ref h8, .int 0, .int 0, .int 0, .int 0, .int 0, .int 0, .ref h9, .ref h10, .ref h11, .ref h12, .ref h13, .ref h14, .ref h15, .int 0])), (h3, .inl (cI, 4096, .inl (fun _ => 0)))]) [0, 1] (by decide) rfl
              refine lz_qv (wr := [(h9, .inl (cI, 4, .inl (fun _ => -1))), (h10, .inl (cI, 4, .inl (fun _ => 0))), (h11, .inl (cI, 160, .inl (fun _ => 0)))]) (w1 := [(h0, .inr (12, [.int 0, .int 1, .ref h1, .ref h2, .ref h3, .ref h4, .ref h5, .ref h6, .ref h7, .ref h8, .int 0, .int 0, .int 0, .int 0, .int 0, .int 0, .ref h9, .ref h10, .ref h11, .ref h12, .ref h13, .ref h14, .ref h15, .int 0])), (h3, .inl (cI, 4096, .inl (upd (fun _ => 0) 0 1)))]) (As := []) (rest := []) ⟨hx, hb, hml, hown, hts⟩ (c_X12_laysMates_0 l D cI cS _ h0 h1 h2 h3 h4 h5 h6 h7 h8 h9 h10 h11 h12 h13 h14 h15) hKK hP hD hS hA [0, 1] [2, 3, 4] (by decide) rfl rfl (by decide) (by decide) hPc hDc (ci := 12) rfl rfl (cwV 0 hts gX12_paint_X12_laysMates rfl rfl rfl (by decide +kernel) ⟨Nat.le_of_ble_eq_true rfl, Nat.le_of_ble_eq_true rfl⟩) rfl hl.1 rfl (Nat.le_of_ble_eq_true rfl) dX12_paint_20 ⟨Nat.le_of_ble_eq_true rfl, Nat.le_of_ble_eq_true rfl⟩ (fun H locs hP hD hS => ?_)
              have hP : va_P D cls [(h9, .inl (cI, 4, .inl (fun _ => -1))), (h10, .inl (cI, 4, .inl (fun _ => 0))), (h11, .inl (cI, 160, .inl (fun _ => 0))), (h0, .inr (12, [.int 0, .int 1, .ref h1, .ref h2, .ref h3, .ref h4, .ref h5, .ref h6, .ref h7, .ref h8, .int 0, .int 0, .int 0, .int 0, .int 0, .int 0, .ref h9, .ref h10, .ref h11, .ref h12, .ref h13, .ref h14, .ref h15, .int 0])), (h3, .inl (cI, 4096, .inl (upd (fun _ => 0) 0 1)))] H := hP
              have hD : va_D A [(h9, .inl (cI, 4, .inl (fun _ => -1))), (h10, .inl (cI, 4, .inl (fun _ => 0))), (h11, .inl (cI, 160, .inl (fun _ => 0))), (h0, .inr (12, [.int 0, .int 1, .ref h1, .ref h2, .ref h3, .ref h4, .ref h5, .ref h6, .ref h7, .ref h8, .int 0, .int 0, .int 0, .int 0, .int 0, .int 0, .ref h9, .ref h10, .ref h11, .ref h12, .ref h13, .ref h14, .ref h15, .int 0])), (h3, .inl (cI, 4096, .inl (upd (fun _ => 0) 0 1)))] := hD
              refine lv_aload_n hx hb dX12_paint_23 rfl (lv_at hl 0 rfl) ?_
              refine va_get (D := D) (ci := 12) (v := .ref h9) (C := RX12) (T := TX12) (N := 24) hx hb hts hin12 hown hK hP 3 rfl rfl 16 (by decide) (hts (.fieldLink RX12 38 "MissedPointsModel" "sort" "[I") (by decide +kernel)) (fun _ h9 => h9) rfl dX12_paint_24 ?_
              refine lv_iload_n hx hb dX12_paint_27 rfl (lv_at hl 1 rfl) ?_
              refine lv_iload_n hx hb dX12_paint_28 rfl (lv_at hl 2 rfl) ?_
              by_cases k986 : x0 = 0
              · subst k986
                refine va_iast hx hb hK hP hD hS 0 0 rfl rfl (lz_vp (x := 0) (n := 4) (by decide) (by decide)) dX12_paint_29 (fun H locs hP hD hS => ?_)
                have hP : va_P D cls [(h9, .inl (cI, 4, .inl (upd (fun _ => -1) 0 x1))), (h10, .inl (cI, 4, .inl (fun _ => 0))), (h11, .inl (cI, 160, .inl (fun _ => 0))), (h0, .inr (12, [.int 0, .int 1, .ref h1, .ref h2, .ref h3, .ref h4, .ref h5, .ref h6, .ref h7, .ref h8, .int 0, .int 0, .int 0, .int 0, .int 0, .int 0, .ref h9, .ref h10, .ref h11, .ref h12, .ref h13, .ref h14, .ref h15, .int 0])), (h3, .inl (cI, 4096, .inl (upd (fun _ => 0) 0 1)))] H := hP
                have hD : va_D A [(h9, .inl (cI, 4, .inl (upd (fun _ => -1) 0 x1))), (h10, .inl (cI, 4, .inl (fun _ => 0))), (h11, .inl (cI, 160, .inl (fun _ => 0))), (h0, .inr (12, [.int 0, .int 1, .ref h1, .ref h2, .ref h3, .ref h4, .ref h5, .ref h6, .ref h7, .ref h8, .int 0, .int 0, .int 0, .int 0, .int 0, .int 0, .ref h9, .ref h10, .ref h11, .ref h12, .ref h13, .ref h14, .ref h15, .int 0])), (h3, .inl (cI, 4096, .inl (upd (fun _ => 0) 0 1)))] := hD
                refine lv_aload_n hx hb dX12_paint_30 rfl (lv_at hl 0 rfl) ?_
                refine va_get (D := D) (ci := 12) (v := .ref h10) (C := RX12) (T := TX12) (N := 24) hx hb hts hin12 hown hK hP 3 rfl rfl 17 (by decide) (hts (.fieldLink RX12 41 "MissedPointsModel" "size" "[I") (by decide +kernel)) (fun _ h9 => h9) rfl dX12_paint_31 ?_
                refine lv_iload_n hx hb dX12_paint_34 rfl (lv_at hl 1 rfl) ?_
                refine lv_aload_n hx hb dX12_paint_35 rfl (lv_at hl 0 rfl) ?_
                refine va_get (D := D) (ci := 12) (v := .int 0) (C := RX12) (T := TX12) (N := 24) hx hb hts hin12 hown hK hP 3 rfl rfl 0 (by decide) (hts (.fieldLink RX12 63 "MissedPointsModel" "many" "I") (by decide +kernel)) (fun _ h9 => h9) rfl dX12_paint_36 ?_
                refine lz_astc hx hb hK hP hD hS 1 0 rfl rfl (lz_vp (x := 0) (n := 4) (by decide) (by decide)) dX12_paint_39 (fun H locs hP hD hS => ?_)
                refine lv_iconst (v := 0) hx hb dX12_paint_40 (by decide) ?_
                refine lv_istore_n (lv' := [(3, .int 0), (0, .ref h0), (1, .int 0), (2, .int x1)]) hx hb dX12_paint_41 rfl hl (by decide) rfl (fun ls hl => ?_)
                refine lv_iload_n hx hb dX12_paint_42 rfl (lv_at hl 0 rfl) ?_
                refine lv_bipush (v := 40) hx hb dX12_paint_43 (by decide) ?_
                refine lv_icmp_ge (tgt := 83) hx hb dX12_paint_45 (by decide) (fun c987 => ?_) (fun c987 => ?_)
                · exact absurd c987 (by decide)
                · refine lv_aload_n hx hb dX12_paint_48 rfl (lv_at hl 1 rfl) ?_
                  refine va_get (D := D) (ci := 12) (v := .ref h11) (C := RX12) (T := TX12) (N := 24) hx hb hts hin12 hown hK hP 3 rfl rfl 18 (by decide) (hts (.fieldLink RX12 44 "MissedPointsModel" "items" "[I") (by decide +kernel)) (fun _ h9 => h9) rfl dX12_paint_49 ?_
                  refine lv_bipush (v := 40) hx hb dX12_paint_52 (by decide) ?_
                  refine lv_iload_n hx hb dX12_paint_54 rfl (lv_at hl 2 rfl) ?_
                  refine lv_imul hx hb dX12_paint_55 ?_
                  refine lz_top (y := 0) (by decide) ?_
                  refine lv_iload_n hx hb dX12_paint_56 rfl (lv_at hl 0 rfl) ?_
                  refine lv_iadd hx hb dX12_paint_57 ?_
                  refine lz_top (y := 0) (by decide) ?_
                  refine lv_iload_n hx hb dX12_paint_58 rfl (lv_at hl 0 rfl) ?_
                  refine lv_aload_n hx hb dX12_paint_59 rfl (lv_at hl 1 rfl) ?_
                  refine va_get (D := D) (ci := 12) (v := .int 0) (C := RX12) (T := TX12) (N := 24) hx hb hts hin12 hown hK hP 3 rfl rfl 0 (by decide) (hts (.fieldLink RX12 63 "MissedPointsModel" "many" "I") (by decide +kernel)) (fun _ h9 => h9) rfl dX12_paint_60 ?_
                  refine lv_icmp_ge (tgt := 75) hx hb dX12_paint_63 (by decide) (fun c988 => ?_) (fun c988 => ?_)
                  · refine lv_iconst (v := 0) hx hb dX12_paint_75 (by decide) ?_
                    refine lz_astc hx hb hK hP hD hS 2 0 rfl rfl (lz_vp (x := 0) (n := 160) (by decide) (by decide)) dX12_paint_76 (fun H locs hP hD hS => ?_)
                    refine lv_iinc (v := 1) (lv' := [(3, .int 1), (0, .ref h0), (1, .int 0), (2, .int x1)]) hx hb dX12_paint_77 hl (k := 0) rfl (by decide) (by decide) rfl (fun ls hl => ?_)
                    refine lv_goto (tgt := 42) hx hb dX12_paint_80 (by decide) ?_
                    refine lv_iload_n hx hb dX12_paint_42 rfl (lv_at hl 0 rfl) ?_
                    refine lv_bipush (v := 40) hx hb dX12_paint_43 (by decide) ?_
                    refine lv_icmp_ge (tgt := 83) hx hb dX12_paint_45 (by decide) (fun c989 => ?_) (fun c989 => ?_)
                    · exact absurd c989 (by decide)
                    · refine lv_aload_n hx hb dX12_paint_48 rfl (lv_at hl 1 rfl) ?_
                      refine va_get (D := D) (ci := 12) (v := .ref h11) (C := RX12) (T := TX12) (N := 24) hx hb hts hin12 hown hK hP 3 rfl rfl 18 (by decide) (hts (.fieldLink RX12 44 "MissedPointsModel" "items" "[I") (by decide +kernel)) (fun _ h9 => h9) rfl dX12_paint_49 ?_
                      refine lv_bipush (v := 40) hx hb dX12_paint_52 (by decide) ?_
                      refine lv_iload_n hx hb dX12_paint_54 rfl (lv_at hl 2 rfl) ?_
                      refine lv_imul hx hb dX12_paint_55 ?_
                      refine lz_top (y := 0) (by decide) ?_
                      refine lv_iload_n hx hb dX12_paint_56 rfl (lv_at hl 0 rfl) ?_
                      refine lv_iadd hx hb dX12_paint_57 ?_
                      refine lz_top (y := 1) (by decide) ?_
                      refine lv_iload_n hx hb dX12_paint_58 rfl (lv_at hl 0 rfl) ?_
                      refine lv_aload_n hx hb dX12_paint_59 rfl (lv_at hl 1 rfl) ?_
                      refine va_get (D := D) (ci := 12) (v := .int 0) (C := RX12) (T := TX12) (N := 24) hx hb hts hin12 hown hK hP 3 rfl rfl 0 (by decide) (hts (.fieldLink RX12 63 "MissedPointsModel" "many" "I") (by decide +kernel)) (fun _ h9 => h9) rfl dX12_paint_60 ?_
                      refine lv_icmp_ge (tgt := 75) hx hb dX12_paint_63 (by decide) (fun c990 => ?_) (fun c990 => ?_)
                      · refine lv_iconst (v := 0) hx hb dX12_paint_75 (by decide) ?_
                        refine lz_astc hx hb hK hP hD hS 2 0 rfl rfl (lz_vp (x := 1) (n := 160) (by decide) (by decide)) dX12_paint_76 (fun H locs hP hD hS => ?_)
                        refine lv_iinc (v := 2) (lv' := [(3, .int 2), (0, .ref h0), (1, .int 0), (2, .int x1)]) hx hb dX12_paint_77 hl (k := 0) rfl (by decide) (by decide) rfl (fun ls hl => ?_)
                        refine lv_goto (tgt := 42) hx hb dX12_paint_80 (by decide) ?_
                        refine lv_iload_n hx hb dX12_paint_42 rfl (lv_at hl 0 rfl) ?_
                        refine lv_bipush (v := 40) hx hb dX12_paint_43 (by decide) ?_
                        refine lv_icmp_ge (tgt := 83) hx hb dX12_paint_45 (by decide) (fun c991 => ?_) (fun c991 => ?_)
                        · exact absurd c991 (by decide)
                        · refine lv_aload_n hx hb dX12_paint_48 rfl (lv_at hl 1 rfl) ?_
                          refine va_get (D := D) (ci := 12) (v := .ref h11) (C := RX12) (T := TX12) (N := 24) hx hb hts hin12 hown hK hP 3 rfl rfl 18 (by decide) (hts (.fieldLink RX12 44 "MissedPointsModel" "items" "[I") (by decide +kernel)) (fun _ h9 => h9) rfl dX12_paint_49 ?_
                          refine lv_bipush (v := 40) hx hb dX12_paint_52 (by decide) ?_
                          refine lv_iload_n hx hb dX12_paint_54 rfl (lv_at hl 2 rfl) ?_
                          refine lv_imul hx hb dX12_paint_55 ?_
                          refine lz_top (y := 0) (by decide) ?_
                          refine lv_iload_n hx hb dX12_paint_56 rfl (lv_at hl 0 rfl) ?_
                          refine lv_iadd hx hb dX12_paint_57 ?_
                          refine lz_top (y := 2) (by decide) ?_
                          refine lv_iload_n hx hb dX12_paint_58 rfl (lv_at hl 0 rfl) ?_
                          refine lv_aload_n hx hb dX12_paint_59 rfl (lv_at hl 1 rfl) ?_
                          refine va_get (D := D) (ci := 12) (v := .int 0) (C := RX12) (T := TX12) (N := 24) hx hb hts hin12 hown hK hP 3 rfl rfl 0 (by decide) (hts (.fieldLink RX12 63 "MissedPointsModel" "many" "I") (by decide +kernel)) (fun _ h9 => h9) rfl dX12_paint_60 ?_
                          refine lv_icmp_ge (tgt := 75) hx hb dX12_paint_63 (by decide) (fun c992 => ?_) (fun c992 => ?_)
                          · refine lv_iconst (v := 0) hx hb dX12_paint_75 (by decide) ?_
                            refine lz_astc hx hb hK hP hD hS 2 0 rfl rfl (lz_vp (x := 2) (n := 160) (by decide) (by decide)) dX12_paint_76 (fun H locs hP hD hS => ?_)
                            refine lv_iinc (v := 3) (lv' := [(3, .int 3), (0, .ref h0), (1, .int 0), (2, .int x1)]) hx hb dX12_paint_77 hl (k := 0) rfl (by decide) (by decide) rfl (fun ls hl => ?_)
                            refine lv_goto (tgt := 42) hx hb dX12_paint_80 (by decide) ?_
                            refine lv_iload_n hx hb dX12_paint_42 rfl (lv_at hl 0 rfl) ?_
                            refine lv_bipush (v := 40) hx hb dX12_paint_43 (by decide) ?_
                            refine lv_icmp_ge (tgt := 83) hx hb dX12_paint_45 (by decide) (fun c993 => ?_) (fun c993 => ?_)
                            · exact absurd c993 (by decide)
                            · refine lv_aload_n hx hb dX12_paint_48 rfl (lv_at hl 1 rfl) ?_
                              refine va_get (D := D) (ci := 12) (v := .ref h11) (C := RX12) (T := TX12) (N := 24) hx hb hts hin12 hown hK hP 3 rfl rfl 18 (by decide) (hts (.fieldLink RX12 44 "MissedPointsModel" "items" "[I") (by decide +kernel)) (fun _ h9 => h9) rfl dX12_paint_49 ?_
                              refine lv_bipush (v := 40) hx hb dX12_paint_52 (by decide) ?_
                              refine lv_iload_n hx hb dX12_paint_54 rfl (lv_at hl 2 rfl) ?_
                              refine lv_imul hx hb dX12_paint_55 ?_
                              refine lz_top (y := 0) (by decide) ?_
                              refine lv_iload_n hx hb dX12_paint_56 rfl (lv_at hl 0 rfl) ?_
                              refine lv_iadd hx hb dX12_paint_57 ?_
                              refine lz_top (y := 3) (by decide) ?_
                              refine lv_iload_n hx hb dX12_paint_58 rfl (lv_at hl 0 rfl) ?_
                              refine lv_aload_n hx hb dX12_paint_59 rfl (lv_at hl 1 rfl) ?_
                              refine va_get (D := D) (ci := 12) (v := .int 0) (C := RX12) (T := TX12) (N := 24) hx hb hts hin12 hown hK hP 3 rfl rfl 0 (by decide) (hts (.fieldLink RX12 63 "MissedPointsModel" "many" "I") (by decide +kernel)) (fun _ h9 => h9) rfl dX12_paint_60 ?_
                              refine lv_icmp_ge (tgt := 75) hx hb dX12_paint_63 (by decide) (fun c994 => ?_) (fun c994 => ?_)
                              · refine lv_iconst (v := 0) hx hb dX12_paint_75 (by decide) ?_
                                refine lz_astc hx hb hK hP hD hS 2 0 rfl rfl (lz_vp (x := 3) (n := 160) (by decide) (by decide)) dX12_paint_76 (fun H locs hP hD hS => ?_)
                                refine lv_iinc (v := 4) (lv' := [(3, .int 4), (0, .ref h0), (1, .int 0), (2, .int x1)]) hx hb dX12_paint_77 hl (k := 0) rfl (by decide) (by decide) rfl (fun ls hl => ?_)
                                refine lv_goto (tgt := 42) hx hb dX12_paint_80 (by decide) ?_
                                refine lv_iload_n hx hb dX12_paint_42 rfl (lv_at hl 0 rfl) ?_
                                refine lv_bipush (v := 40) hx hb dX12_paint_43 (by decide) ?_
                                refine lv_icmp_ge (tgt := 83) hx hb dX12_paint_45 (by decide) (fun c995 => ?_) (fun c995 => ?_)
                                · exact absurd c995 (by decide)
                                · refine lv_aload_n hx hb dX12_paint_48 rfl (lv_at hl 1 rfl) ?_
                                  refine va_get (D := D) (ci := 12) (v := .ref h11) (C := RX12) (T := TX12) (N := 24) hx hb hts hin12 hown hK hP 3 rfl rfl 18 (by decide) (hts (.fieldLink RX12 44 "MissedPointsModel" "items" "[I") (by decide +kernel)) (fun _ h9 => h9) rfl dX12_paint_49 ?_
                                  refine lv_bipush (v := 40) hx hb dX12_paint_52 (by decide) ?_
                                  refine lv_iload_n hx hb dX12_paint_54 rfl (lv_at hl 2 rfl) ?_
                                  refine lv_imul hx hb dX12_paint_55 ?_
                                  refine lz_top (y := 0) (by decide) ?_
                                  refine lv_iload_n hx hb dX12_paint_56 rfl (lv_at hl 0 rfl) ?_
                                  refine lv_iadd hx hb dX12_paint_57 ?_
                                  refine lz_top (y := 4) (by decide) ?_
                                  refine lv_iload_n hx hb dX12_paint_58 rfl (lv_at hl 0 rfl) ?_
                                  refine lv_aload_n hx hb dX12_paint_59 rfl (lv_at hl 1 rfl) ?_
                                  refine va_get (D := D) (ci := 12) (v := .int 0) (C := RX12) (T := TX12) (N := 24) hx hb hts hin12 hown hK hP 3 rfl rfl 0 (by decide) (hts (.fieldLink RX12 63 "MissedPointsModel" "many" "I") (by decide +kernel)) (fun _ h9 => h9) rfl dX12_paint_60 ?_
                                  refine lv_icmp_ge (tgt := 75) hx hb dX12_paint_63 (by decide) (fun c996 => ?_) (fun c996 => ?_)
                                  · refine lv_iconst (v := 0) hx hb dX12_paint_75 (by decide) ?_
                                    refine lz_astc hx hb hK hP hD hS 2 0 rfl rfl (lz_vp (x := 4) (n := 160) (by decide) (by decide)) dX12_paint_76 (fun H locs hP hD hS => ?_)
                                    refine lv_iinc (v := 5) (lv' := [(3, .int 5), (0, .ref h0), (1, .int 0), (2, .int x1)]) hx hb dX12_paint_77 hl (k := 0) rfl (by decide) (by decide) rfl (fun ls hl => ?_)
                                    refine lv_goto (tgt := 42) hx hb dX12_paint_80 (by decide) ?_
                                    refine lv_iload_n hx hb dX12_paint_42 rfl (lv_at hl 0 rfl) ?_
                                    refine lv_bipush (v := 40) hx hb dX12_paint_43 (by decide) ?_
                                    refine lv_icmp_ge (tgt := 83) hx hb dX12_paint_45 (by decide) (fun c997 => ?_) (fun c997 => ?_)
                                    · exact absurd c997 (by decide)
                                    · refine lv_aload_n hx hb dX12_paint_48 rfl (lv_at hl 1 rfl) ?_
                                      refine va_get (D := D) (ci := 12) (v := .ref h11) (C := RX12) (T := TX12) (N := 24) hx hb hts hin12 hown hK hP 3 rfl rfl 18 (by decide) (hts (.fieldLink RX12 44 "MissedPointsModel" "items" "[I") (by decide +kernel)) (fun _ h9 => h9) rfl dX12_paint_49 ?_
                                      refine lv_bipush (v := 40) hx hb dX12_paint_52 (by decide) ?_
                                      refine lv_iload_n hx hb dX12_paint_54 rfl (lv_at hl 2 rfl) ?_
                                      refine lv_imul hx hb dX12_paint_55 ?_
                                      refine lz_top (y := 0) (by decide) ?_
                                      refine lv_iload_n hx hb dX12_paint_56 rfl (lv_at hl 0 rfl) ?_
                                      refine lv_iadd hx hb dX12_paint_57 ?_
                                      refine lz_top (y := 5) (by decide) ?_
                                      refine lv_iload_n hx hb dX12_paint_58 rfl (lv_at hl 0 rfl) ?_
                                      refine lv_aload_n hx hb dX12_paint_59 rfl (lv_at hl 1 rfl) ?_
                                      refine va_get (D := D) (ci := 12) (v := .int 0) (C := RX12) (T := TX12) (N := 24) hx hb hts hin12 hown hK hP 3 rfl rfl 0 (by decide) (hts (.fieldLink RX12 63 "MissedPointsModel" "many" "I") (by decide +kernel)) (fun _ h9 => h9) rfl dX12_paint_60 ?_
                                      refine lv_icmp_ge (tgt := 75) hx hb dX12_paint_63 (by decide) (fun c998 => ?_) (fun c998 => ?_)
                                      · refine lv_iconst (v := 0) hx hb dX12_paint_75 (by decide) ?_
                                        refine lz_astc hx hb hK hP hD hS 2 0 rfl rfl (lz_vp (x := 5) (n := 160) (by decide) (by decide)) dX12_paint_76 (fun H locs hP hD hS => ?_)
                                        refine lv_iinc (v := 6) (lv' := [(3, .int 6), (0, .ref h0), (1, .int 0), (2, .int x1)]) hx hb dX12_paint_77 hl (k := 0) rfl (by decide) (by decide) rfl (fun ls hl => ?_)
                                        refine lv_goto (tgt := 42) hx hb dX12_paint_80 (by decide) ?_
                                        refine lv_iload_n hx hb dX12_paint_42 rfl (lv_at hl 0 rfl) ?_
                                        refine lv_bipush (v := 40) hx hb dX12_paint_43 (by decide) ?_
                                        refine lv_icmp_ge (tgt := 83) hx hb dX12_paint_45 (by decide) (fun c999 => ?_) (fun c999 => ?_)
                                        · exact absurd c999 (by decide)
                                        · refine lv_aload_n hx hb dX12_paint_48 rfl (lv_at hl 1 rfl) ?_
                                          refine va_get (D := D) (ci := 12) (v := .ref h11) (C := RX12) (T := TX12) (N := 24) hx hb hts hin12 hown hK hP 3 rfl rfl 18 (by decide) (hts (.fieldLink RX12 44 "MissedPointsModel" "items" "[I") (by decide +kernel)) (fun _ h9 => h9) rfl dX12_paint_49 ?_
                                          refine lv_bipush (v := 40) hx hb dX12_paint_52 (by decide) ?_
                                          refine lv_iload_n hx hb dX12_paint_54 rfl (lv_at hl 2 rfl) ?_
                                          refine lv_imul hx hb dX12_paint_55 ?_
                                          refine lz_top (y := 0) (by decide) ?_
                                          refine lv_iload_n hx hb dX12_paint_56 rfl (lv_at hl 0 rfl) ?_
                                          refine lv_iadd hx hb dX12_paint_57 ?_
                                          refine lz_top (y := 6) (by decide) ?_
                                          refine lv_iload_n hx hb dX12_paint_58 rfl (lv_at hl 0 rfl) ?_
                                          refine lv_aload_n hx hb dX12_paint_59 rfl (lv_at hl 1 rfl) ?_
                                          refine va_get (D := D) (ci := 12) (v := .int 0) (C := RX12) (T := TX12) (N := 24) hx hb hts hin12 hown hK hP 3 rfl rfl 0 (by decide) (hts (.fieldLink RX12 63 "MissedPointsModel" "many" "I") (by decide +kernel)) (fun _ h9 => h9) rfl dX12_paint_60 ?_
                                          refine lv_icmp_ge (tgt := 75) hx hb dX12_paint_63 (by decide) (fun c1000 => ?_) (fun c1000 => ?_)
                                          · refine lv_iconst (v := 0) hx hb dX12_paint_75 (by decide) ?_
                                            refine lz_astc hx hb hK hP hD hS 2 0 rfl rfl (lz_vp (x := 6) (n := 160) (by decide) (by decide)) dX12_paint_76 (fun H locs hP hD hS => ?_)
                                            refine lv_iinc (v := 7) (lv' := [(3, .int 7), (0, .ref h0), (1, .int 0), (2, .int x1)]) hx hb dX12_paint_77 hl (k := 0) rfl (by decide) (by decide) rfl (fun ls hl => ?_)
                                            refine lv_goto (tgt := 42) hx hb dX12_paint_80 (by decide) ?_
                                            refine lv_iload_n hx hb dX12_paint_42 rfl (lv_at hl 0 rfl) ?_
                                            refine lv_bipush (v := 40) hx hb dX12_paint_43 (by decide) ?_
                                            refine lv_icmp_ge (tgt := 83) hx hb dX12_paint_45 (by decide) (fun c1001 => ?_) (fun c1001 => ?_)
                                            · exact absurd c1001 (by decide)
                                            · refine lv_aload_n hx hb dX12_paint_48 rfl (lv_at hl 1 rfl) ?_
                                              refine va_get (D := D) (ci := 12) (v := .ref h11) (C := RX12) (T := TX12) (N := 24) hx hb hts hin12 hown hK hP 3 rfl rfl 18 (by decide) (hts (.fieldLink RX12 44 "MissedPointsModel" "items" "[I") (by decide +kernel)) (fun _ h9 => h9) rfl dX12_paint_49 ?_
                                              refine lv_bipush (v := 40) hx hb dX12_paint_52 (by decide) ?_
                                              refine lv_iload_n hx hb dX12_paint_54 rfl (lv_at hl 2 rfl) ?_
                                              refine lv_imul hx hb dX12_paint_55 ?_
                                              refine lz_top (y := 0) (by decide) ?_
                                              refine lv_iload_n hx hb dX12_paint_56 rfl (lv_at hl 0 rfl) ?_
                                              refine lv_iadd hx hb dX12_paint_57 ?_
                                              refine lz_top (y := 7) (by decide) ?_
                                              refine lv_iload_n hx hb dX12_paint_58 rfl (lv_at hl 0 rfl) ?_
                                              refine lv_aload_n hx hb dX12_paint_59 rfl (lv_at hl 1 rfl) ?_
                                              refine va_get (D := D) (ci := 12) (v := .int 0) (C := RX12) (T := TX12) (N := 24) hx hb hts hin12 hown hK hP 3 rfl rfl 0 (by decide) (hts (.fieldLink RX12 63 "MissedPointsModel" "many" "I") (by decide +kernel)) (fun _ h9 => h9) rfl dX12_paint_60 ?_
                                              refine lv_icmp_ge (tgt := 75) hx hb dX12_paint_63 (by decide) (fun c1002 => ?_) (fun c1002 => ?_)
                                              · refine lv_iconst (v := 0) hx hb dX12_paint_75 (by decide) ?_
                                                refine lz_astc hx hb hK hP hD hS 2 0 rfl rfl (lz_vp (x := 7) (n := 160) (by decide) (by decide)) dX12_paint_76 (fun H locs hP hD hS => ?_)
                                                refine lv_iinc (v := 8) (lv' := [(3, .int 8), (0, .ref h0), (1, .int 0), (2, .int x1)]) hx hb dX12_paint_77 hl (k := 0) rfl (by decide) (by decide) rfl (fun ls hl => ?_)
                                                refine lv_goto (tgt := 42) hx hb dX12_paint_80 (by decide) ?_
                                                refine lv_iload_n hx hb dX12_paint_42 rfl (lv_at hl 0 rfl) ?_
                                                refine lv_bipush (v := 40) hx hb dX12_paint_43 (by decide) ?_
                                                refine lv_icmp_ge (tgt := 83) hx hb dX12_paint_45 (by decide) (fun c1003 => ?_) (fun c1003 => ?_)
                                                · exact absurd c1003 (by decide)
                                                · refine lv_aload_n hx hb dX12_paint_48 rfl (lv_at hl 1 rfl) ?_
                                                  refine va_get (D := D) (ci := 12) (v := .ref h11) (C := RX12) (T := TX12) (N := 24) hx hb hts hin12 hown hK hP 3 rfl rfl 18 (by decide) (hts (.fieldLink RX12 44 "MissedPointsModel" "items" "[I") (by decide +kernel)) (fun _ h9 => h9) rfl dX12_paint_49 ?_
                                                  refine lv_bipush (v := 40) hx hb dX12_paint_52 (by decide) ?_
                                                  refine lv_iload_n hx hb dX12_paint_54 rfl (lv_at hl 2 rfl) ?_
                                                  refine lv_imul hx hb dX12_paint_55 ?_
                                                  refine lz_top (y := 0) (by decide) ?_
                                                  refine lv_iload_n hx hb dX12_paint_56 rfl (lv_at hl 0 rfl) ?_
                                                  refine lv_iadd hx hb dX12_paint_57 ?_
                                                  refine lz_top (y := 8) (by decide) ?_
                                                  refine lv_iload_n hx hb dX12_paint_58 rfl (lv_at hl 0 rfl) ?_
                                                  refine lv_aload_n hx hb dX12_paint_59 rfl (lv_at hl 1 rfl) ?_
                                                  refine va_get (D := D) (ci := 12) (v := .int 0) (C := RX12) (T := TX12) (N := 24) hx hb hts hin12 hown hK hP 3 rfl rfl 0 (by decide) (hts (.fieldLink RX12 63 "MissedPointsModel" "many" "I") (by decide +kernel)) (fun _ h9 => h9) rfl dX12_paint_60 ?_
                                                  refine lv_icmp_ge (tgt := 75) hx hb dX12_paint_63 (by decide) (fun c1004 => ?_) (fun c1004 => ?_)
                                                  · refine lv_iconst (v := 0) hx hb dX12_paint_75 (by decide) ?_
                                                    refine lz_astc hx hb hK hP hD hS 2 0 rfl rfl (lz_vp (x := 8) (n := 160) (by decide) (by decide)) dX12_paint_76 (fun H locs hP hD hS => ?_)
                                                    refine lv_iinc (v := 9) (lv' := [(3, .int 9), (0, .ref h0), (1, .int 0), (2, .int x1)]) hx hb dX12_paint_77 hl (k := 0) rfl (by decide) (by decide) rfl (fun ls hl => ?_)
                                                    refine lv_goto (tgt := 42) hx hb dX12_paint_80 (by decide) ?_
                                                    refine lv_iload_n hx hb dX12_paint_42 rfl (lv_at hl 0 rfl) ?_
                                                    refine lv_bipush (v := 40) hx hb dX12_paint_43 (by decide) ?_
                                                    refine lv_icmp_ge (tgt := 83) hx hb dX12_paint_45 (by decide) (fun c1005 => ?_) (fun c1005 => ?_)
                                                    · exact absurd c1005 (by decide)
                                                    · refine lv_aload_n hx hb dX12_paint_48 rfl (lv_at hl 1 rfl) ?_
                                                      refine va_get (D := D) (ci := 12) (v := .ref h11) (C := RX12) (T := TX12) (N := 24) hx hb hts hin12 hown hK hP 3 rfl rfl 18 (by decide) (hts (.fieldLink RX12 44 "MissedPointsModel" "items" "[I") (by decide +kernel)) (fun _ h9 => h9) rfl dX12_paint_49 ?_
                                                      refine lv_bipush (v := 40) hx hb dX12_paint_52 (by decide) ?_
                                                      refine lv_iload_n hx hb dX12_paint_54 rfl (lv_at hl 2 rfl) ?_
                                                      refine lv_imul hx hb dX12_paint_55 ?_
                                                      refine lz_top (y := 0) (by decide) ?_
                                                      refine lv_iload_n hx hb dX12_paint_56 rfl (lv_at hl 0 rfl) ?_
                                                      refine lv_iadd hx hb dX12_paint_57 ?_
                                                      refine lz_top (y := 9) (by decide) ?_
                                                      refine lv_iload_n hx hb dX12_paint_58 rfl (lv_at hl 0 rfl) ?_
                                                      refine lv_aload_n hx hb dX12_paint_59 rfl (lv_at hl 1 rfl) ?_
                                                      refine va_get (D := D) (ci := 12) (v := .int 0) (C := RX12) (T := TX12) (N := 24) hx hb hts hin12 hown hK hP 3 rfl rfl 0 (by decide) (hts (.fieldLink RX12 63 "MissedPointsModel" "many" "I") (by decide +kernel)) (fun _ h9 => h9) rfl dX12_paint_60 ?_
                                                      refine lv_icmp_ge (tgt := 75) hx hb dX12_paint_63 (by decide) (fun c1006 => ?_) (fun c1006 => ?_)
                                                      · refine lv_iconst (v := 0) hx hb dX12_paint_75 (by decide) ?_
                                                        refine lz_astc hx hb hK hP hD hS 2 0 rfl rfl (lz_vp (x := 9) (n := 160) (by decide) (by decide)) dX12_paint_76 (fun H locs hP hD hS => ?_)
                                                        refine lv_iinc (v := 10) (lv' := [(3, .int 10), (0, .ref h0), (1, .int 0), (2, .int x1)]) hx hb dX12_paint_77 hl (k := 0) rfl (by decide) (by decide) rfl (fun ls hl => ?_)
                                                        refine lv_goto (tgt := 42) hx hb dX12_paint_80 (by decide) ?_
                                                        refine lv_iload_n hx hb dX12_paint_42 rfl (lv_at hl 0 rfl) ?_
                                                        refine lv_bipush (v := 40) hx hb dX12_paint_43 (by decide) ?_
                                                        refine lv_icmp_ge (tgt := 83) hx hb dX12_paint_45 (by decide) (fun c1007 => ?_) (fun c1007 => ?_)
                                                        · exact absurd c1007 (by decide)
                                                        · refine lv_aload_n hx hb dX12_paint_48 rfl (lv_at hl 1 rfl) ?_
                                                          refine va_get (D := D) (ci := 12) (v := .ref h11) (C := RX12) (T := TX12) (N := 24) hx hb hts hin12 hown hK hP 3 rfl rfl 18 (by decide) (hts (.fieldLink RX12 44 "MissedPointsModel" "items" "[I") (by decide +kernel)) (fun _ h9 => h9) rfl dX12_paint_49 ?_
                                                          refine lv_bipush (v := 40) hx hb dX12_paint_52 (by decide) ?_
                                                          refine lv_iload_n hx hb dX12_paint_54 rfl (lv_at hl 2 rfl) ?_
                                                          refine lv_imul hx hb dX12_paint_55 ?_
                                                          refine lz_top (y := 0) (by decide) ?_
                                                          refine lv_iload_n hx hb dX12_paint_56 rfl (lv_at hl 0 rfl) ?_
                                                          refine lv_iadd hx hb dX12_paint_57 ?_
                                                          refine lz_top (y := 10) (by decide) ?_
                                                          refine lv_iload_n hx hb dX12_paint_58 rfl (lv_at hl 0 rfl) ?_
                                                          refine lv_aload_n hx hb dX12_paint_59 rfl (lv_at hl 1 rfl) ?_
                                                          refine va_get (D := D) (ci := 12) (v := .int 0) (C := RX12) (T := TX12) (N := 24) hx hb hts hin12 hown hK hP 3 rfl rfl 0 (by decide) (hts (.fieldLink RX12 63 "MissedPointsModel" "many" "I") (by decide +kernel)) (fun _ h9 => h9) rfl dX12_paint_60 ?_
                                                          refine lv_icmp_ge (tgt := 75) hx hb dX12_paint_63 (by decide) (fun c1008 => ?_) (fun c1008 => ?_)
                                                          · refine lv_iconst (v := 0) hx hb dX12_paint_75 (by decide) ?_
                                                            refine lz_astc hx hb hK hP hD hS 2 0 rfl rfl (lz_vp (x := 10) (n := 160) (by decide) (by decide)) dX12_paint_76 (fun H locs hP hD hS => ?_)
                                                            refine lv_iinc (v := 11) (lv' := [(3, .int 11), (0, .ref h0), (1, .int 0), (2, .int x1)]) hx hb dX12_paint_77 hl (k := 0) rfl (by decide) (by decide) rfl (fun ls hl => ?_)
                                                            refine lv_goto (tgt := 42) hx hb dX12_paint_80 (by decide) ?_
                                                            refine lv_iload_n hx hb dX12_paint_42 rfl (lv_at hl 0 rfl) ?_
                                                            refine lv_bipush (v := 40) hx hb dX12_paint_43 (by decide) ?_
                                                            refine lv_icmp_ge (tgt := 83) hx hb dX12_paint_45 (by decide) (fun c1009 => ?_) (fun c1009 => ?_)
                                                            · exact absurd c1009 (by decide)
                                                            · refine lv_aload_n hx hb dX12_paint_48 rfl (lv_at hl 1 rfl) ?_
                                                              refine va_get (D := D) (ci := 12) (v := .ref h11) (C := RX12) (T := TX12) (N := 24) hx hb hts hin12 hown hK hP 3 rfl rfl 18 (by decide) (hts (.fieldLink RX12 44 "MissedPointsModel" "items" "[I") (by decide +kernel)) (fun _ h9 => h9) rfl dX12_paint_49 ?_
                                                              refine lv_bipush (v := 40) hx hb dX12_paint_52 (by decide) ?_
                                                              refine lv_iload_n hx hb dX12_paint_54 rfl (lv_at hl 2 rfl) ?_
                                                              refine lv_imul hx hb dX12_paint_55 ?_
                                                              refine lz_top (y := 0) (by decide) ?_
                                                              refine lv_iload_n hx hb dX12_paint_56 rfl (lv_at hl 0 rfl) ?_
                                                              refine lv_iadd hx hb dX12_paint_57 ?_
                                                              refine lz_top (y := 11) (by decide) ?_
                                                              refine lv_iload_n hx hb dX12_paint_58 rfl (lv_at hl 0 rfl) ?_
                                                              refine lv_aload_n hx hb dX12_paint_59 rfl (lv_at hl 1 rfl) ?_
                                                              refine va_get (D := D) (ci := 12) (v := .int 0) (C := RX12) (T := TX12) (N := 24) hx hb hts hin12 hown hK hP 3 rfl rfl 0 (by decide) (hts (.fieldLink RX12 63 "MissedPointsModel" "many" "I") (by decide +kernel)) (fun _ h9 => h9) rfl dX12_paint_60 ?_
                                                              refine lv_icmp_ge (tgt := 75) hx hb dX12_paint_63 (by decide) (fun c1010 => ?_) (fun c1010 => ?_)
                                                              · refine lv_iconst (v := 0) hx hb dX12_paint_75 (by decide) ?_
                                                                refine lz_astc hx hb hK hP hD hS 2 0 rfl rfl (lz_vp (x := 11) (n := 160) (by decide) (by decide)) dX12_paint_76 (fun H locs hP hD hS => ?_)
                                                                refine lv_iinc (v := 12) (lv' := [(3, .int 12), (0, .ref h0), (1, .int 0), (2, .int x1)]) hx hb dX12_paint_77 hl (k := 0) rfl (by decide) (by decide) rfl (fun ls hl => ?_)
                                                                refine lv_goto (tgt := 42) hx hb dX12_paint_80 (by decide) ?_
                                                                refine lv_iload_n hx hb dX12_paint_42 rfl (lv_at hl 0 rfl) ?_
                                                                refine lv_bipush (v := 40) hx hb dX12_paint_43 (by decide) ?_
                                                                refine lv_icmp_ge (tgt := 83) hx hb dX12_paint_45 (by decide) (fun c1011 => ?_) (fun c1011 => ?_)
                                                                · exact absurd c1011 (by decide)
                                                                · refine lv_aload_n hx hb dX12_paint_48 rfl (lv_at hl 1 rfl) ?_
                                                                  refine va_get (D := D) (ci := 12) (v := .ref h11) (C := RX12) (T := TX12) (N := 24) hx hb hts hin12 hown hK hP 3 rfl rfl 18 (by decide) (hts (.fieldLink RX12 44 "MissedPointsModel" "items" "[I") (by decide +kernel)) (fun _ h9 => h9) rfl dX12_paint_49 ?_
                                                                  refine lv_bipush (v := 40) hx hb dX12_paint_52 (by decide) ?_
                                                                  refine lv_iload_n hx hb dX12_paint_54 rfl (lv_at hl 2 rfl) ?_
                                                                  refine lv_imul hx hb dX12_paint_55 ?_
                                                                  refine lz_top (y := 0) (by decide) ?_
                                                                  refine lv_iload_n hx hb dX12_paint_56 rfl (lv_at hl 0 rfl) ?_
                                                                  refine lv_iadd hx hb dX12_paint_57 ?_
                                                                  refine lz_top (y := 12) (by decide) ?_
                                                                  refine lv_iload_n hx hb dX12_paint_58 rfl (lv_at hl 0 rfl) ?_
                                                                  refine lv_aload_n hx hb dX12_paint_59 rfl (lv_at hl 1 rfl) ?_
                                                                  refine va_get (D := D) (ci := 12) (v := .int 0) (C := RX12) (T := TX12) (N := 24) hx hb hts hin12 hown hK hP 3 rfl rfl 0 (by decide) (hts (.fieldLink RX12 63 "MissedPointsModel" "many" "I") (by decide +kernel)) (fun _ h9 => h9) rfl dX12_paint_60 ?_
                                                                  refine lv_icmp_ge (tgt := 75) hx hb dX12_paint_63 (by decide) (fun c1012 => ?_) (fun c1012 => ?_)
                                                                  · refine lv_iconst (v := 0) hx hb dX12_paint_75 (by decide) ?_
                                                                    refine lz_astc hx hb hK hP hD hS 2 0 rfl rfl (lz_vp (x := 12) (n := 160) (by decide) (by decide)) dX12_paint_76 (fun H locs hP hD hS => ?_)
                                                                    refine lv_iinc (v := 13) (lv' := [(3, .int 13), (0, .ref h0), (1, .int 0), (2, .int x1)]) hx hb dX12_paint_77 hl (k := 0) rfl (by decide) (by decide) rfl (fun ls hl => ?_)
                                                                    refine lv_goto (tgt := 42) hx hb dX12_paint_80 (by decide) ?_
                                                                    refine lv_iload_n hx hb dX12_paint_42 rfl (lv_at hl 0 rfl) ?_
                                                                    refine lv_bipush (v := 40) hx hb dX12_paint_43 (by decide) ?_
                                                                    refine lv_icmp_ge (tgt := 83) hx hb dX12_paint_45 (by decide) (fun c1013 => ?_) (fun c1013 => ?_)
                                                                    · exact absurd c1013 (by decide)
                                                                    · refine lv_aload_n hx hb dX12_paint_48 rfl (lv_at hl 1 rfl) ?_
                                                                      refine va_get (D := D) (ci := 12) (v := .ref h11) (C := RX12) (T := TX12) (N := 24) hx hb hts hin12 hown hK hP 3 rfl rfl 18 (by decide) (hts (.fieldLink RX12 44 "MissedPointsModel" "items" "[I") (by decide +kernel)) (fun _ h9 => h9) rfl dX12_paint_49 ?_
                                                                      refine lv_bipush (v := 40) hx hb dX12_paint_52 (by decide) ?_
                                                                      refine lv_iload_n hx hb dX12_paint_54 rfl (lv_at hl 2 rfl) ?_
                                                                      refine lv_imul hx hb dX12_paint_55 ?_
                                                                      refine lz_top (y := 0) (by decide) ?_
                                                                      refine lv_iload_n hx hb dX12_paint_56 rfl (lv_at hl 0 rfl) ?_
                                                                      refine lv_iadd hx hb dX12_paint_57 ?_
                                                                      refine lz_top (y := 13) (by decide) ?_
                                                                      refine lv_iload_n hx hb dX12_paint_58 rfl (lv_at hl 0 rfl) ?_
                                                                      refine lv_aload_n hx hb dX12_paint_59 rfl (lv_at hl 1 rfl) ?_
                                                                      refine va_get (D := D) (ci := 12) (v := .int 0) (C := RX12) (T := TX12) (N := 24) hx hb hts hin12 hown hK hP 3 rfl rfl 0 (by decide) (hts (.fieldLink RX12 63 "MissedPointsModel" "many" "I") (by decide +kernel)) (fun _ h9 => h9) rfl dX12_paint_60 ?_
                                                                      refine lv_icmp_ge (tgt := 75) hx hb dX12_paint_63 (by decide) (fun c1014 => ?_) (fun c1014 => ?_)
                                                                      · refine lv_iconst (v := 0) hx hb dX12_paint_75 (by decide) ?_
                                                                        refine lz_astc hx hb hK hP hD hS 2 0 rfl rfl (lz_vp (x := 13) (n := 160) (by decide) (by decide)) dX12_paint_76 (fun H locs hP hD hS => ?_)
                                                                        refine lv_iinc (v := 14) (lv' := [(3, .int 14), (0, .ref h0), (1, .int 0), (2, .int x1)]) hx hb dX12_paint_77 hl (k := 0) rfl (by decide) (by decide) rfl (fun ls hl => ?_)
                                                                        refine lv_goto (tgt := 42) hx hb dX12_paint_80 (by decide) ?_
                                                                        refine lv_iload_n hx hb dX12_paint_42 rfl (lv_at hl 0 rfl) ?_
                                                                        refine lv_bipush (v := 40) hx hb dX12_paint_43 (by decide) ?_
                                                                        refine lv_icmp_ge (tgt := 83) hx hb dX12_paint_45 (by decide) (fun c1015 => ?_) (fun c1015 => ?_)
                                                                        · exact absurd c1015 (by decide)
                                                                        · refine lv_aload_n hx hb dX12_paint_48 rfl (lv_at hl 1 rfl) ?_
                                                                          refine va_get (D := D) (ci := 12) (v := .ref h11) (C := RX12) (T := TX12) (N := 24) hx hb hts hin12 hown hK hP 3 rfl rfl 18 (by decide) (hts (.fieldLink RX12 44 "MissedPointsModel" "items" "[I") (by decide +kernel)) (fun _ h9 => h9) rfl dX12_paint_49 ?_
                                                                          refine lv_bipush (v := 40) hx hb dX12_paint_52 (by decide) ?_
                                                                          refine lv_iload_n hx hb dX12_paint_54 rfl (lv_at hl 2 rfl) ?_
                                                                          refine lv_imul hx hb dX12_paint_55 ?_
                                                                          refine lz_top (y := 0) (by decide) ?_
                                                                          refine lv_iload_n hx hb dX12_paint_56 rfl (lv_at hl 0 rfl) ?_
                                                                          refine lv_iadd hx hb dX12_paint_57 ?_
                                                                          refine lz_top (y := 14) (by decide) ?_
                                                                          refine lv_iload_n hx hb dX12_paint_58 rfl (lv_at hl 0 rfl) ?_
                                                                          refine lv_aload_n hx hb dX12_paint_59 rfl (lv_at hl 1 rfl) ?_
                                                                          refine va_get (D := D) (ci := 12) (v := .int 0) (C := RX12) (T := TX12) (N := 24) hx hb hts hin12 hown hK hP 3 rfl rfl 0 (by decide) (hts (.fieldLink RX12 63 "MissedPointsModel" "many" "I") (by decide +kernel)) (fun _ h9 => h9) rfl dX12_paint_60 ?_
                                                                          refine lv_icmp_ge (tgt := 75) hx hb dX12_paint_63 (by decide) (fun c1016 => ?_) (fun c1016 => ?_)
                                                                          · refine lv_iconst (v := 0) hx hb dX12_paint_75 (by decide) ?_
                                                                            refine lz_astc hx hb hK hP hD hS 2 0 rfl rfl (lz_vp (x := 14) (n := 160) (by decide) (by decide)) dX12_paint_76 (fun H locs hP hD hS => ?_)
                                                                            refine lv_iinc (v := 15) (lv' := [(3, .int 15), (0, .ref h0), (1, .int 0), (2, .int x1)]) hx hb dX12_paint_77 hl (k := 0) rfl (by decide) (by decide) rfl (fun ls hl => ?_)
                                                                            refine lv_goto (tgt := 42) hx hb dX12_paint_80 (by decide) ?_
                                                                            refine lv_iload_n hx hb dX12_paint_42 rfl (lv_at hl 0 rfl) ?_
                                                                            refine lv_bipush (v := 40) hx hb dX12_paint_43 (by decide) ?_
                                                                            refine lv_icmp_ge (tgt := 83) hx hb dX12_paint_45 (by decide) (fun c1017 => ?_) (fun c1017 => ?_)
                                                                            · exact absurd c1017 (by decide)
                                                                            · refine lv_aload_n hx hb dX12_paint_48 rfl (lv_at hl 1 rfl) ?_
                                                                              refine va_get (D := D) (ci := 12) (v := .ref h11) (C := RX12) (T := TX12) (N := 24) hx hb hts hin12 hown hK hP 3 rfl rfl 18 (by decide) (hts (.fieldLink RX12 44 "MissedPointsModel" "items" "[I") (by decide +kernel)) (fun _ h9 => h9) rfl dX12_paint_49 ?_
                                                                              refine lv_bipush (v := 40) hx hb dX12_paint_52 (by decide) ?_
                                                                              refine lv_iload_n hx hb dX12_paint_54 rfl (lv_at hl 2 rfl) ?_
                                                                              refine lv_imul hx hb dX12_paint_55 ?_
                                                                              refine lz_top (y := 0) (by decide) ?_
                                                                              refine lv_iload_n hx hb dX12_paint_56 rfl (lv_at hl 0 rfl) ?_
                                                                              refine lv_iadd hx hb dX12_paint_57 ?_
                                                                              refine lz_top (y := 15) (by decide) ?_
                                                                              refine lv_iload_n hx hb dX12_paint_58 rfl (lv_at hl 0 rfl) ?_
                                                                              refine lv_aload_n hx hb dX12_paint_59 rfl (lv_at hl 1 rfl) ?_
                                                                              refine va_get (D := D) (ci := 12) (v := .int 0) (C := RX12) (T := TX12) (N := 24) hx hb hts hin12 hown hK hP 3 rfl rfl 0 (by decide) (hts (.fieldLink RX12 63 "MissedPointsModel" "many" "I") (by decide +kernel)) (fun _ h9 => h9) rfl dX12_paint_60 ?_
                                                                              refine lv_icmp_ge (tgt := 75) hx hb dX12_paint_63 (by decide) (fun c1018 => ?_) (fun c1018 => ?_)
                                                                              · refine lv_iconst (v := 0) hx hb dX12_paint_75 (by decide) ?_
                                                                                refine lz_astc hx hb hK hP hD hS 2 0 rfl rfl (lz_vp (x := 15) (n := 160) (by decide) (by decide)) dX12_paint_76 (fun H locs hP hD hS => ?_)
                                                                                refine lv_iinc (v := 16) (lv' := [(3, .int 16), (0, .ref h0), (1, .int 0), (2, .int x1)]) hx hb dX12_paint_77 hl (k := 0) rfl (by decide) (by decide) rfl (fun ls hl => ?_)
                                                                                refine lv_goto (tgt := 42) hx hb dX12_paint_80 (by decide) ?_
                                                                                refine lv_iload_n hx hb dX12_paint_42 rfl (lv_at hl 0 rfl) ?_
                                                                                refine lv_bipush (v := 40) hx hb dX12_paint_43 (by decide) ?_
                                                                                refine lv_icmp_ge (tgt := 83) hx hb dX12_paint_45 (by decide) (fun c1019 => ?_) (fun c1019 => ?_)
                                                                                · exact absurd c1019 (by decide)
                                                                                · refine lv_aload_n hx hb dX12_paint_48 rfl (lv_at hl 1 rfl) ?_
                                                                                  refine va_get (D := D) (ci := 12) (v := .ref h11) (C := RX12) (T := TX12) (N := 24) hx hb hts hin12 hown hK hP 3 rfl rfl 18 (by decide) (hts (.fieldLink RX12 44 "MissedPointsModel" "items" "[I") (by decide +kernel)) (fun _ h9 => h9) rfl dX12_paint_49 ?_
                                                                                  refine lv_bipush (v := 40) hx hb dX12_paint_52 (by decide) ?_
                                                                                  refine lv_iload_n hx hb dX12_paint_54 rfl (lv_at hl 2 rfl) ?_
                                                                                  refine lv_imul hx hb dX12_paint_55 ?_
                                                                                  refine lz_top (y := 0) (by decide) ?_
                                                                                  refine lv_iload_n hx hb dX12_paint_56 rfl (lv_at hl 0 rfl) ?_
                                                                                  refine lv_iadd hx hb dX12_paint_57 ?_
                                                                                  refine lz_top (y := 16) (by decide) ?_
                                                                                  refine lv_iload_n hx hb dX12_paint_58 rfl (lv_at hl 0 rfl) ?_
                                                                                  refine lv_aload_n hx hb dX12_paint_59 rfl (lv_at hl 1 rfl) ?_
                                                                                  refine va_get (D := D) (ci := 12) (v := .int 0) (C := RX12) (T := TX12) (N := 24) hx hb hts hin12 hown hK hP 3 rfl rfl 0 (by decide) (hts (.fieldLink RX12 63 "MissedPointsModel" "many" "I") (by decide +kernel)) (fun _ h9 => h9) rfl dX12_paint_60 ?_
                                                                                  refine lv_icmp_ge (tgt := 75) hx hb dX12_paint_63 (by decide) (fun c1020 => ?_) (fun c1020 => ?_)
                                                                                  · refine lv_iconst (v := 0) hx hb dX12_paint_75 (by decide) ?_
                                                                                    refine lz_astc hx hb hK hP hD hS 2 0 rfl rfl (lz_vp (x := 16) (n := 160) (by decide) (by decide)) dX12_paint_76 (fun H locs hP hD hS => ?_)
                                                                                    refine lv_iinc (v := 17) (lv' := [(3, .int 17), (0, .ref h0), (1, .int 0), (2, .int x1)]) hx hb dX12_paint_77 hl (k := 0) rfl (by decide) (by decide) rfl (fun ls hl => ?_)
                                                                                    refine lv_goto (tgt := 42) hx hb dX12_paint_80 (by decide) ?_
                                                                                    refine lv_iload_n hx hb dX12_paint_42 rfl (lv_at hl 0 rfl) ?_
                                                                                    refine lv_bipush (v := 40) hx hb dX12_paint_43 (by decide) ?_
                                                                                    refine lv_icmp_ge (tgt := 83) hx hb dX12_paint_45 (by decide) (fun c1021 => ?_) (fun c1021 => ?_)
                                                                                    · exact absurd c1021 (by decide)
                                                                                    · refine lv_aload_n hx hb dX12_paint_48 rfl (lv_at hl 1 rfl) ?_
                                                                                      refine va_get (D := D) (ci := 12) (v := .ref h11) (C := RX12) (T := TX12) (N := 24) hx hb hts hin12 hown hK hP 3 rfl rfl 18 (by decide) (hts (.fieldLink RX12 44 "MissedPointsModel" "items" "[I") (by decide +kernel)) (fun _ h9 => h9) rfl dX12_paint_49 ?_
                                                                                      refine lv_bipush (v := 40) hx hb dX12_paint_52 (by decide) ?_
                                                                                      refine lv_iload_n hx hb dX12_paint_54 rfl (lv_at hl 2 rfl) ?_
                                                                                      refine lv_imul hx hb dX12_paint_55 ?_
                                                                                      refine lz_top (y := 0) (by decide) ?_
                                                                                      refine lv_iload_n hx hb dX12_paint_56 rfl (lv_at hl 0 rfl) ?_
                                                                                      refine lv_iadd hx hb dX12_paint_57 ?_
                                                                                      refine lz_top (y := 17) (by decide) ?_
                                                                                      refine lv_iload_n hx hb dX12_paint_58 rfl (lv_at hl 0 rfl) ?_
                                                                                      refine lv_aload_n hx hb dX12_paint_59 rfl (lv_at hl 1 rfl) ?_
                                                                                      refine va_get (D := D) (ci := 12) (v := .int 0) (C := RX12) (T := TX12) (N := 24) hx hb hts hin12 hown hK hP 3 rfl rfl 0 (by decide) (hts (.fieldLink RX12 63 "MissedPointsModel" "many" "I") (by decide +kernel)) (fun _ h9 => h9) rfl dX12_paint_60 ?_
                                                                                      refine lv_icmp_ge (tgt := 75) hx hb dX12_paint_63 (by decide) (fun c1022 => ?_) (fun c1022 => ?_)
                                                                                      · refine lv_iconst (v := 0) hx hb dX12_paint_75 (by decide) ?_
                                                                                        refine lz_astc hx hb hK hP hD hS 2 0 rfl rfl (lz_vp (x := 17) (n := 160) (by decide) (by decide)) dX12_paint_76 (fun H locs hP hD hS => ?_)
                                                                                        refine lv_iinc (v := 18) (lv' := [(3, .int 18), (0, .ref h0), (1, .int 0), (2, .int x1)]) hx hb dX12_paint_77 hl (k := 0) rfl (by decide) (by decide) rfl (fun ls hl => ?_)
                                                                                        refine lv_goto (tgt := 42) hx hb dX12_paint_80 (by decide) ?_
                                                                                        refine lv_iload_n hx hb dX12_paint_42 rfl (lv_at hl 0 rfl) ?_
                                                                                        refine lv_bipush (v := 40) hx hb dX12_paint_43 (by decide) ?_
                                                                                        refine lv_icmp_ge (tgt := 83) hx hb dX12_paint_45 (by decide) (fun c1023 => ?_) (fun c1023 => ?_)
                                                                                        · exact absurd c1023 (by decide)
                                                                                        · refine lv_aload_n hx hb dX12_paint_48 rfl (lv_at hl 1 rfl) ?_
                                                                                          refine va_get (D := D) (ci := 12) (v := .ref h11) (C := RX12) (T := TX12) (N := 24) hx hb hts hin12 hown hK hP 3 rfl rfl 18 (by decide) (hts (.fieldLink RX12 44 "MissedPointsModel" "items" "[I") (by decide +kernel)) (fun _ h9 => h9) rfl dX12_paint_49 ?_
                                                                                          refine lv_bipush (v := 40) hx hb dX12_paint_52 (by decide) ?_
                                                                                          refine lv_iload_n hx hb dX12_paint_54 rfl (lv_at hl 2 rfl) ?_
                                                                                          refine lv_imul hx hb dX12_paint_55 ?_
                                                                                          refine lz_top (y := 0) (by decide) ?_
                                                                                          refine lv_iload_n hx hb dX12_paint_56 rfl (lv_at hl 0 rfl) ?_
                                                                                          refine lv_iadd hx hb dX12_paint_57 ?_
                                                                                          refine lz_top (y := 18) (by decide) ?_
                                                                                          refine lv_iload_n hx hb dX12_paint_58 rfl (lv_at hl 0 rfl) ?_
                                                                                          refine lv_aload_n hx hb dX12_paint_59 rfl (lv_at hl 1 rfl) ?_
                                                                                          refine va_get (D := D) (ci := 12) (v := .int 0) (C := RX12) (T := TX12) (N := 24) hx hb hts hin12 hown hK hP 3 rfl rfl 0 (by decide) (hts (.fieldLink RX12 63 "MissedPointsModel" "many" "I") (by decide +kernel)) (fun _ h9 => h9) rfl dX12_paint_60 ?_
                                                                                          refine lv_icmp_ge (tgt := 75) hx hb dX12_paint_63 (by decide) (fun c1024 => ?_) (fun c1024 => ?_)
                                                                                          · refine lv_iconst (v := 0) hx hb dX12_paint_75 (by decide) ?_
                                                                                            refine lz_astc hx hb hK hP hD hS 2 0 rfl rfl (lz_vp (x := 18) (n := 160) (by decide) (by decide)) dX12_paint_76 (fun H locs hP hD hS => ?_)
                                                                                            refine lv_iinc (v := 19) (lv' := [(3, .int 19), (0, .ref h0), (1, .int 0), (2, .int x1)]) hx hb dX12_paint_77 hl (k := 0) rfl (by decide) (by decide) rfl (fun ls hl => ?_)
                                                                                            refine lv_goto (tgt := 42) hx hb dX12_paint_80 (by decide) ?_
                                                                                            refine lv_iload_n hx hb dX12_paint_42 rfl (lv_at hl 0 rfl) ?_
                                                                                            refine lv_bipush (v := 40) hx hb dX12_paint_43 (by decide) ?_
                                                                                            refine lv_icmp_ge (tgt := 83) hx hb dX12_paint_45 (by decide) (fun c1025 => ?_) (fun c1025 => ?_)
                                                                                            · exact absurd c1025 (by decide)
                                                                                            · refine lv_aload_n hx hb dX12_paint_48 rfl (lv_at hl 1 rfl) ?_
                                                                                              refine va_get (D := D) (ci := 12) (v := .ref h11) (C := RX12) (T := TX12) (N := 24) hx hb hts hin12 hown hK hP 3 rfl rfl 18 (by decide) (hts (.fieldLink RX12 44 "MissedPointsModel" "items" "[I") (by decide +kernel)) (fun _ h9 => h9) rfl dX12_paint_49 ?_
                                                                                              refine lv_bipush (v := 40) hx hb dX12_paint_52 (by decide) ?_
                                                                                              refine lv_iload_n hx hb dX12_paint_54 rfl (lv_at hl 2 rfl) ?_
                                                                                              refine lv_imul hx hb dX12_paint_55 ?_
                                                                                              refine lz_top (y := 0) (by decide) ?_
                                                                                              refine lv_iload_n hx hb dX12_paint_56 rfl (lv_at hl 0 rfl) ?_
                                                                                              refine lv_iadd hx hb dX12_paint_57 ?_
                                                                                              refine lz_top (y := 19) (by decide) ?_
                                                                                              refine lv_iload_n hx hb dX12_paint_58 rfl (lv_at hl 0 rfl) ?_
                                                                                              refine lv_aload_n hx hb dX12_paint_59 rfl (lv_at hl 1 rfl) ?_
                                                                                              refine va_get (D := D) (ci := 12) (v := .int 0) (C := RX12) (T := TX12) (N := 24) hx hb hts hin12 hown hK hP 3 rfl rfl 0 (by decide) (hts (.fieldLink RX12 63 "MissedPointsModel" "many" "I") (by decide +kernel)) (fun _ h9 => h9) rfl dX12_paint_60 ?_
                                                                                              refine lv_icmp_ge (tgt := 75) hx hb dX12_paint_63 (by decide) (fun c1026 => ?_) (fun c1026 => ?_)
                                                                                              · refine lv_iconst (v := 0) hx hb dX12_paint_75 (by decide) ?_
                                                                                                refine lz_astc hx hb hK hP hD hS 2 0 rfl rfl (lz_vp (x := 19) (n := 160) (by decide) (by decide)) dX12_paint_76 (fun H locs hP hD hS => ?_)
                                                                                                refine lv_iinc (v := 20) (lv' := [(3, .int 20), (0, .ref h0), (1, .int 0), (2, .int x1)]) hx hb dX12_paint_77 hl (k := 0) rfl (by decide) (by decide) rfl (fun ls hl => ?_)
                                                                                                refine lv_goto (tgt := 42) hx hb dX12_paint_80 (by decide) ?_
                                                                                                refine lv_iload_n hx hb dX12_paint_42 rfl (lv_at hl 0 rfl) ?_
                                                                                                refine lv_bipush (v := 40) hx hb dX12_paint_43 (by decide) ?_
                                                                                                refine lv_icmp_ge (tgt := 83) hx hb dX12_paint_45 (by decide) (fun c1027 => ?_) (fun c1027 => ?_)
                                                                                                · exact absurd c1027 (by decide)
                                                                                                · refine lv_aload_n hx hb dX12_paint_48 rfl (lv_at hl 1 rfl) ?_
                                                                                                  refine va_get (D := D) (ci := 12) (v := .ref h11) (C := RX12) (T := TX12) (N := 24) hx hb hts hin12 hown hK hP 3 rfl rfl 18 (by decide) (hts (.fieldLink RX12 44 "MissedPointsModel" "items" "[I") (by decide +kernel)) (fun _ h9 => h9) rfl dX12_paint_49 ?_
                                                                                                  refine lv_bipush (v := 40) hx hb dX12_paint_52 (by decide) ?_
                                                                                                  refine lv_iload_n hx hb dX12_paint_54 rfl (lv_at hl 2 rfl) ?_
                                                                                                  refine lv_imul hx hb dX12_paint_55 ?_
                                                                                                  refine lz_top (y := 0) (by decide) ?_
                                                                                                  refine lv_iload_n hx hb dX12_paint_56 rfl (lv_at hl 0 rfl) ?_
                                                                                                  refine lv_iadd hx hb dX12_paint_57 ?_
                                                                                                  refine lz_top (y := 20) (by decide) ?_
                                                                                                  refine lv_iload_n hx hb dX12_paint_58 rfl (lv_at hl 0 rfl) ?_
                                                                                                  refine lv_aload_n hx hb dX12_paint_59 rfl (lv_at hl 1 rfl) ?_
                                                                                                  refine va_get (D := D) (ci := 12) (v := .int 0) (C := RX12) (T := TX12) (N := 24) hx hb hts hin12 hown hK hP 3 rfl rfl 0 (by decide) (hts (.fieldLink RX12 63 "MissedPointsModel" "many" "I") (by decide +kernel)) (fun _ h9 => h9) rfl dX12_paint_60 ?_
                                                                                                  refine lv_icmp_ge (tgt := 75) hx hb dX12_paint_63 (by decide) (fun c1028 => ?_) (fun c1028 => ?_)
                                                                                                  · refine lv_iconst (v := 0) hx hb dX12_paint_75 (by decide) ?_
                                                                                                    refine lz_astc hx hb hK hP hD hS 2 0 rfl rfl (lz_vp (x := 20) (n := 160) (by decide) (by decide)) dX12_paint_76 (fun H locs hP hD hS => ?_)
                                                                                                    refine lv_iinc (v := 21) (lv' := [(3, .int 21), (0, .ref h0), (1, .int 0), (2, .int x1)]) hx hb dX12_paint_77 hl (k := 0) rfl (by decide) (by decide) rfl (fun ls hl => ?_)
                                                                                                    refine lv_goto (tgt := 42) hx hb dX12_paint_80 (by decide) ?_
                                                                                                    refine lv_iload_n hx hb dX12_paint_42 rfl (lv_at hl 0 rfl) ?_
                                                                                                    refine lv_bipush (v := 40) hx hb dX12_paint_43 (by decide) ?_
                                                                                                    refine lv_icmp_ge (tgt := 83) hx hb dX12_paint_45 (by decide) (fun c1029 => ?_) (fun c1029 => ?_)
                                                                                                    · exact absurd c1029 (by decide)
                                                                                                    · refine lv_aload_n hx hb dX12_paint_48 rfl (lv_at hl 1 rfl) ?_
                                                                                                      refine va_get (D := D) (ci := 12) (v := .ref h11) (C := RX12) (T := TX12) (N := 24) hx hb hts hin12 hown hK hP 3 rfl rfl 18 (by decide) (hts (.fieldLink RX12 44 "MissedPointsModel" "items" "[I") (by decide +kernel)) (fun _ h9 => h9) rfl dX12_paint_49 ?_
                                                                                                      refine lv_bipush (v := 40) hx hb dX12_paint_52 (by decide) ?_
                                                                                                      refine lv_iload_n hx hb dX12_paint_54 rfl (lv_at hl 2 rfl) ?_
                                                                                                      refine lv_imul hx hb dX12_paint_55 ?_
                                                                                                      refine lz_top (y := 0) (by decide) ?_
                                                                                                      refine lv_iload_n hx hb dX12_paint_56 rfl (lv_at hl 0 rfl) ?_
                                                                                                      refine lv_iadd hx hb dX12_paint_57 ?_
                                                                                                      refine lz_top (y := 21) (by decide) ?_
                                                                                                      refine lv_iload_n hx hb dX12_paint_58 rfl (lv_at hl 0 rfl) ?_
                                                                                                      refine lv_aload_n hx hb dX12_paint_59 rfl (lv_at hl 1 rfl) ?_
                                                                                                      refine va_get (D := D) (ci := 12) (v := .int 0) (C := RX12) (T := TX12) (N := 24) hx hb hts hin12 hown hK hP 3 rfl rfl 0 (by decide) (hts (.fieldLink RX12 63 "MissedPointsModel" "many" "I") (by decide +kernel)) (fun _ h9 => h9) rfl dX12_paint_60 ?_
                                                                                                      refine lv_icmp_ge (tgt := 75) hx hb dX12_paint_63 (by decide) (fun c1030 => ?_) (fun c1030 => ?_)
                                                                                                      · refine lv_iconst (v := 0) hx hb dX12_paint_75 (by decide) ?_
                                                                                                        refine lz_astc hx hb hK hP hD hS 2 0 rfl rfl (lz_vp (x := 21) (n := 160) (by decide) (by decide)) dX12_paint_76 (fun H locs hP hD hS => ?_)
                                                                                                        refine lv_iinc (v := 22) (lv' := [(3, .int 22), (0, .ref h0), (1, .int 0), (2, .int x1)]) hx hb dX12_paint_77 hl (k := 0) rfl (by decide) (by decide) rfl (fun ls hl => ?_)
                                                                                                        refine lv_goto (tgt := 42) hx hb dX12_paint_80 (by decide) ?_
                                                                                                        refine lv_iload_n hx hb dX12_paint_42 rfl (lv_at hl 0 rfl) ?_
                                                                                                        refine lv_bipush (v := 40) hx hb dX12_paint_43 (by decide) ?_
                                                                                                        refine lv_icmp_ge (tgt := 83) hx hb dX12_paint_45 (by decide) (fun c1031 => ?_) (fun c1031 => ?_)
                                                                                                        · exact absurd c1031 (by decide)
                                                                                                        · refine lv_aload_n hx hb dX12_paint_48 rfl (lv_at hl 1 rfl) ?_
                                                                                                          refine va_get (D := D) (ci := 12) (v := .ref h11) (C := RX12) (T := TX12) (N := 24) hx hb hts hin12 hown hK hP 3 rfl rfl 18 (by decide) (hts (.fieldLink RX12 44 "MissedPointsModel" "items" "[I") (by decide +kernel)) (fun _ h9 => h9) rfl dX12_paint_49 ?_
                                                                                                          refine lv_bipush (v := 40) hx hb dX12_paint_52 (by decide) ?_
                                                                                                          refine lv_iload_n hx hb dX12_paint_54 rfl (lv_at hl 2 rfl) ?_
                                                                                                          refine lv_imul hx hb dX12_paint_55 ?_
                                                                                                          refine lz_top (y := 0) (by decide) ?_
                                                                                                          refine lv_iload_n hx hb dX12_paint_56 rfl (lv_at hl 0 rfl) ?_
                                                                                                          refine lv_iadd hx hb dX12_paint_57 ?_
                                                                                                          refine lz_top (y := 22) (by decide) ?_
                                                                                                          refine lv_iload_n hx hb dX12_paint_58 rfl (lv_at hl 0 rfl) ?_
                                                                                                          refine lv_aload_n hx hb dX12_paint_59 rfl (lv_at hl 1 rfl) ?_
                                                                                                          refine va_get (D := D) (ci := 12) (v := .int 0) (C := RX12) (T := TX12) (N := 24) hx hb hts hin12 hown hK hP 3 rfl rfl 0 (by decide) (hts (.fieldLink RX12 63 "MissedPointsModel" "many" "I") (by decide +kernel)) (fun _ h9 => h9) rfl dX12_paint_60 ?_
                                                                                                          refine lv_icmp_ge (tgt := 75) hx hb dX12_paint_63 (by decide) (fun c1032 => ?_) (fun c1032 => ?_)
                                                                                                          · refine lv_iconst (v := 0) hx hb dX12_paint_75 (by decide) ?_
                                                                                                            refine lz_astc hx hb hK hP hD hS 2 0 rfl rfl (lz_vp (x := 22) (n := 160) (by decide) (by decide)) dX12_paint_76 (fun H locs hP hD hS => ?_)
                                                                                                            refine lv_iinc (v := 23) (lv' := [(3, .int 23), (0, .ref h0), (1, .int 0), (2, .int x1)]) hx hb dX12_paint_77 hl (k := 0) rfl (by decide) (by decide) rfl (fun ls hl => ?_)
                                                                                                            refine lv_goto (tgt := 42) hx hb dX12_paint_80 (by decide) ?_
                                                                                                            refine lv_iload_n hx hb dX12_paint_42 rfl (lv_at hl 0 rfl) ?_
                                                                                                            refine lv_bipush (v := 40) hx hb dX12_paint_43 (by decide) ?_
                                                                                                            refine lv_icmp_ge (tgt := 83) hx hb dX12_paint_45 (by decide) (fun c1033 => ?_) (fun c1033 => ?_)
                                                                                                            · exact absurd c1033 (by decide)
                                                                                                            · refine lv_aload_n hx hb dX12_paint_48 rfl (lv_at hl 1 rfl) ?_
                                                                                                              refine va_get (D := D) (ci := 12) (v := .ref h11) (C := RX12) (T := TX12) (N := 24) hx hb hts hin12 hown hK hP 3 rfl rfl 18 (by decide) (hts (.fieldLink RX12 44 "MissedPointsModel" "items" "[I") (by decide +kernel)) (fun _ h9 => h9) rfl dX12_paint_49 ?_
                                                                                                              refine lv_bipush (v := 40) hx hb dX12_paint_52 (by decide) ?_
                                                                                                              refine lv_iload_n hx hb dX12_paint_54 rfl (lv_at hl 2 rfl) ?_
                                                                                                              refine lv_imul hx hb dX12_paint_55 ?_
                                                                                                              refine lz_top (y := 0) (by decide) ?_
                                                                                                              refine lv_iload_n hx hb dX12_paint_56 rfl (lv_at hl 0 rfl) ?_
                                                                                                              refine lv_iadd hx hb dX12_paint_57 ?_
                                                                                                              refine lz_top (y := 23) (by decide) ?_
                                                                                                              refine lv_iload_n hx hb dX12_paint_58 rfl (lv_at hl 0 rfl) ?_
                                                                                                              refine lv_aload_n hx hb dX12_paint_59 rfl (lv_at hl 1 rfl) ?_
                                                                                                              refine va_get (D := D) (ci := 12) (v := .int 0) (C := RX12) (T := TX12) (N := 24) hx hb hts hin12 hown hK hP 3 rfl rfl 0 (by decide) (hts (.fieldLink RX12 63 "MissedPointsModel" "many" "I") (by decide +kernel)) (fun _ h9 => h9) rfl dX12_paint_60 ?_
                                                                                                              refine lv_icmp_ge (tgt := 75) hx hb dX12_paint_63 (by decide) (fun c1034 => ?_) (fun c1034 => ?_)
                                                                                                              · refine lv_iconst (v := 0) hx hb dX12_paint_75 (by decide) ?_
                                                                                                                refine lz_astc hx hb hK hP hD hS 2 0 rfl rfl (lz_vp (x := 23) (n := 160) (by decide) (by decide)) dX12_paint_76 (fun H locs hP hD hS => ?_)
                                                                                                                refine lv_iinc (v := 24) (lv' := [(3, .int 24), (0, .ref h0), (1, .int 0), (2, .int x1)]) hx hb dX12_paint_77 hl (k := 0) rfl (by decide) (by decide) rfl (fun ls hl => ?_)
                                                                                                                refine lv_goto (tgt := 42) hx hb dX12_paint_80 (by decide) ?_
                                                                                                                refine lv_iload_n hx hb dX12_paint_42 rfl (lv_at hl 0 rfl) ?_
                                                                                                                refine lv_bipush (v := 40) hx hb dX12_paint_43 (by decide) ?_
                                                                                                                refine lv_icmp_ge (tgt := 83) hx hb dX12_paint_45 (by decide) (fun c1035 => ?_) (fun c1035 => ?_)
                                                                                                                · exact absurd c1035 (by decide)
                                                                                                                · refine lv_aload_n hx hb dX12_paint_48 rfl (lv_at hl 1 rfl) ?_
                                                                                                                  refine va_get (D := D) (ci := 12) (v := .ref h11) (C := RX12) (T := TX12) (N := 24) hx hb hts hin12 hown hK hP 3 rfl rfl 18 (by decide) (hts (.fieldLink RX12 44 "MissedPointsModel" "items" "[I") (by decide +kernel)) (fun _ h9 => h9) rfl dX12_paint_49 ?_
                                                                                                                  refine lv_bipush (v := 40) hx hb dX12_paint_52 (by decide) ?_
                                                                                                                  refine lv_iload_n hx hb dX12_paint_54 rfl (lv_at hl 2 rfl) ?_
                                                                                                                  refine lv_imul hx hb dX12_paint_55 ?_
                                                                                                                  refine lz_top (y := 0) (by decide) ?_
                                                                                                                  refine lv_iload_n hx hb dX12_paint_56 rfl (lv_at hl 0 rfl) ?_
                                                                                                                  refine lv_iadd hx hb dX12_paint_57 ?_
                                                                                                                  refine lz_top (y := 24) (by decide) ?_
                                                                                                                  refine lv_iload_n hx hb dX12_paint_58 rfl (lv_at hl 0 rfl) ?_
                                                                                                                  refine lv_aload_n hx hb dX12_paint_59 rfl (lv_at hl 1 rfl) ?_
                                                                                                                  refine va_get (D := D) (ci := 12) (v := .int 0) (C := RX12) (T := TX12) (N := 24) hx hb hts hin12 hown hK hP 3 rfl rfl 0 (by decide) (hts (.fieldLink RX12 63 "MissedPointsModel" "many" "I") (by decide +kernel)) (fun _ h9 => h9) rfl dX12_paint_60 ?_
                                                                                                                  refine lv_icmp_ge (tgt := 75) hx hb dX12_paint_63 (by decide) (fun c1036 => ?_) (fun c1036 => ?_)
                                                                                                                  · refine lv_iconst (v := 0) hx hb dX12_paint_75 (by decide) ?_
                                                                                                                    refine lz_astc hx hb hK hP hD hS 2 0 rfl rfl (lz_vp (x := 24) (n := 160) (by decide) (by decide)) dX12_paint_76 (fun H locs hP hD hS => ?_)
                                                                                                                    refine lv_iinc (v := 25) (lv' := [(3, .int 25), (0, .ref h0), (1, .int 0), (2, .int x1)]) hx hb dX12_paint_77 hl (k := 0) rfl (by decide) (by decide) rfl (fun ls hl => ?_)
                                                                                                                    refine lv_goto (tgt := 42) hx hb dX12_paint_80 (by decide) ?_
                                                                                                                    refine lv_iload_n hx hb dX12_paint_42 rfl (lv_at hl 0 rfl) ?_
                                                                                                                    refine lv_bipush (v := 40) hx hb dX12_paint_43 (by decide) ?_
                                                                                                                    refine lv_icmp_ge (tgt := 83) hx hb dX12_paint_45 (by decide) (fun c1037 => ?_) (fun c1037 => ?_)
                                                                                                                    · exact absurd c1037 (by decide)
                                                                                                                    · refine lv_aload_n hx hb dX12_paint_48 rfl (lv_at hl 1 rfl) ?_
                                                                                                                      refine va_get (D := D) (ci := 12) (v := .ref h11) (C := RX12) (T := TX12) (N := 24) hx hb hts hin12 hown hK hP 3 rfl rfl 18 (by decide) (hts (.fieldLink RX12 44 "MissedPointsModel" "items" "[I") (by decide +kernel)) (fun _ h9 => h9) rfl dX12_paint_49 ?_
                                                                                                                      refine lv_bipush (v := 40) hx hb dX12_paint_52 (by decide) ?_
                                                                                                                      refine lv_iload_n hx hb dX12_paint_54 rfl (lv_at hl 2 rfl) ?_
                                                                                                                      refine lv_imul hx hb dX12_paint_55 ?_
                                                                                                                      refine lz_top (y := 0) (by decide) ?_
                                                                                                                      refine lv_iload_n hx hb dX12_paint_56 rfl (lv_at hl 0 rfl) ?_
                                                                                                                      refine lv_iadd hx hb dX12_paint_57 ?_
                                                                                                                      refine lz_top (y := 25) (by decide) ?_
                                                                                                                      refine lv_iload_n hx hb dX12_paint_58 rfl (lv_at hl 0 rfl) ?_
                                                                                                                      refine lv_aload_n hx hb dX12_paint_59 rfl (lv_at hl 1 rfl) ?_
                                                                                                                      refine va_get (D := D) (ci := 12) (v := .int 0) (C := RX12) (T := TX12) (N := 24) hx hb hts hin12 hown hK hP 3 rfl rfl 0 (by decide) (hts (.fieldLink RX12 63 "MissedPointsModel" "many" "I") (by decide +kernel)) (fun _ h9 => h9) rfl dX12_paint_60 ?_
                                                                                                                      refine lv_icmp_ge (tgt := 75) hx hb dX12_paint_63 (by decide) (fun c1038 => ?_) (fun c1038 => ?_)
                                                                                                                      · refine lv_iconst (v := 0) hx hb dX12_paint_75 (by decide) ?_
                                                                                                                        refine lz_astc hx hb hK hP hD hS 2 0 rfl rfl (lz_vp (x := 25) (n := 160) (by decide) (by decide)) dX12_paint_76 (fun H locs hP hD hS => ?_)
                                                                                                                        refine lv_iinc (v := 26) (lv' := [(3, .int 26), (0, .ref h0), (1, .int 0), (2, .int x1)]) hx hb dX12_paint_77 hl (k := 0) rfl (by decide) (by decide) rfl (fun ls hl => ?_)
                                                                                                                        refine lv_goto (tgt := 42) hx hb dX12_paint_80 (by decide) ?_
                                                                                                                        refine lv_iload_n hx hb dX12_paint_42 rfl (lv_at hl 0 rfl) ?_
                                                                                                                        refine lv_bipush (v := 40) hx hb dX12_paint_43 (by decide) ?_
                                                                                                                        refine lv_icmp_ge (tgt := 83) hx hb dX12_paint_45 (by decide) (fun c1039 => ?_) (fun c1039 => ?_)
                                                                                                                        · exact absurd c1039 (by decide)
                                                                                                                        · refine lv_aload_n hx hb dX12_paint_48 rfl (lv_at hl 1 rfl) ?_
                                                                                                                          refine va_get (D := D) (ci := 12) (v := .ref h11) (C := RX12) (T := TX12) (N := 24) hx hb hts hin12 hown hK hP 3 rfl rfl 18 (by decide) (hts (.fieldLink RX12 44 "MissedPointsModel" "items" "[I") (by decide +kernel)) (fun _ h9 => h9) rfl dX12_paint_49 ?_
                                                                                                                          refine lv_bipush (v := 40) hx hb dX12_paint_52 (by decide) ?_
                                                                                                                          refine lv_iload_n hx hb dX12_paint_54 rfl (lv_at hl 2 rfl) ?_
                                                                                                                          refine lv_imul hx hb dX12_paint_55 ?_
                                                                                                                          refine lz_top (y := 0) (by decide) ?_
                                                                                                                          refine lv_iload_n hx hb dX12_paint_56 rfl (lv_at hl 0 rfl) ?_
                                                                                                                          refine lv_iadd hx hb dX12_paint_57 ?_
                                                                                                                          refine lz_top (y := 26) (by decide) ?_
                                                                                                                          refine lv_iload_n hx hb dX12_paint_58 rfl (lv_at hl 0 rfl) ?_
                                                                                                                          refine lv_aload_n hx hb dX12_paint_59 rfl (lv_at hl 1 rfl) ?_
                                                                                                                          refine va_get (D := D) (ci := 12) (v := .int 0) (C := RX12) (T := TX12) (N := 24) hx hb hts hin12 hown hK hP 3 rfl rfl 0 (by decide) (hts (.fieldLink RX12 63 "MissedPointsModel" "many" "I") (by decide +kernel)) (fun _ h9 => h9) rfl dX12_paint_60 ?_
                                                                                                                          refine lv_icmp_ge (tgt := 75) hx hb dX12_paint_63 (by decide) (fun c1040 => ?_) (fun c1040 => ?_)
                                                                                                                          · refine lv_iconst (v := 0) hx hb dX12_paint_75 (by decide) ?_
                                                                                                                            refine lz_astc hx hb hK hP hD hS 2 0 rfl rfl (lz_vp (x := 26) (n := 160) (by decide) (by decide)) dX12_paint_76 (fun H locs hP hD hS => ?_)
                                                                                                                            refine lv_iinc (v := 27) (lv' := [(3, .int 27), (0, .ref h0), (1, .int 0), (2, .int x1)]) hx hb dX12_paint_77 hl (k := 0) rfl (by decide) (by decide) rfl (fun ls hl => ?_)
                                                                                                                            refine lv_goto (tgt := 42) hx hb dX12_paint_80 (by decide) ?_
                                                                                                                            refine lv_iload_n hx hb dX12_paint_42 rfl (lv_at hl 0 rfl) ?_
                                                                                                                            refine lv_bipush (v := 40) hx hb dX12_paint_43 (by decide) ?_
                                                                                                                            refine lv_icmp_ge (tgt := 83) hx hb dX12_paint_45 (by decide) (fun c1041 => ?_) (fun c1041 => ?_)
                                                                                                                            · exact absurd c1041 (by decide)
                                                                                                                            · refine lv_aload_n hx hb dX12_paint_48 rfl (lv_at hl 1 rfl) ?_
                                                                                                                              refine va_get (D := D) (ci := 12) (v := .ref h11) (C := RX12) (T := TX12) (N := 24) hx hb hts hin12 hown hK hP 3 rfl rfl 18 (by decide) (hts (.fieldLink RX12 44 "MissedPointsModel" "items" "[I") (by decide +kernel)) (fun _ h9 => h9) rfl dX12_paint_49 ?_
                                                                                                                              refine lv_bipush (v := 40) hx hb dX12_paint_52 (by decide) ?_
                                                                                                                              refine lv_iload_n hx hb dX12_paint_54 rfl (lv_at hl 2 rfl) ?_
                                                                                                                              refine lv_imul hx hb dX12_paint_55 ?_
                                                                                                                              refine lz_top (y := 0) (by decide) ?_
                                                                                                                              refine lv_iload_n hx hb dX12_paint_56 rfl (lv_at hl 0 rfl) ?_
                                                                                                                              refine lv_iadd hx hb dX12_paint_57 ?_
                                                                                                                              refine lz_top (y := 27) (by decide) ?_
                                                                                                                              refine lv_iload_n hx hb dX12_paint_58 rfl (lv_at hl 0 rfl) ?_
                                                                                                                              refine lv_aload_n hx hb dX12_paint_59 rfl (lv_at hl 1 rfl) ?_
                                                                                                                              refine va_get (D := D) (ci := 12) (v := .int 0) (C := RX12) (T := TX12) (N := 24) hx hb hts hin12 hown hK hP 3 rfl rfl 0 (by decide) (hts (.fieldLink RX12 63 "MissedPointsModel" "many" "I") (by decide +kernel)) (fun _ h9 => h9) rfl dX12_paint_60 ?_
                                                                                                                              refine lv_icmp_ge (tgt := 75) hx hb dX12_paint_63 (by decide) (fun c1042 => ?_) (fun c1042 => ?_)
                                                                                                                              · refine lv_iconst (v := 0) hx hb dX12_paint_75 (by decide) ?_
                                                                                                                                refine lz_astc hx hb hK hP hD hS 2 0 rfl rfl (lz_vp (x := 27) (n := 160) (by decide) (by decide)) dX12_paint_76 (fun H locs hP hD hS => ?_)
                                                                                                                                refine lv_iinc (v := 28) (lv' := [(3, .int 28), (0, .ref h0), (1, .int 0), (2, .int x1)]) hx hb dX12_paint_77 hl (k := 0) rfl (by decide) (by decide) rfl (fun ls hl => ?_)
                                                                                                                                refine lv_goto (tgt := 42) hx hb dX12_paint_80 (by decide) ?_
                                                                                                                                refine lv_iload_n hx hb dX12_paint_42 rfl (lv_at hl 0 rfl) ?_
                                                                                                                                refine lv_bipush (v := 40) hx hb dX12_paint_43 (by decide) ?_
                                                                                                                                refine lv_icmp_ge (tgt := 83) hx hb dX12_paint_45 (by decide) (fun c1043 => ?_) (fun c1043 => ?_)
                                                                                                                                · exact absurd c1043 (by decide)
                                                                                                                                · refine lv_aload_n hx hb dX12_paint_48 rfl (lv_at hl 1 rfl) ?_
                                                                                                                                  refine va_get (D := D) (ci := 12) (v := .ref h11) (C := RX12) (T := TX12) (N := 24) hx hb hts hin12 hown hK hP 3 rfl rfl 18 (by decide) (hts (.fieldLink RX12 44 "MissedPointsModel" "items" "[I") (by decide +kernel)) (fun _ h9 => h9) rfl dX12_paint_49 ?_
                                                                                                                                  refine lv_bipush (v := 40) hx hb dX12_paint_52 (by decide) ?_
                                                                                                                                  refine lv_iload_n hx hb dX12_paint_54 rfl (lv_at hl 2 rfl) ?_
                                                                                                                                  refine lv_imul hx hb dX12_paint_55 ?_
                                                                                                                                  refine lz_top (y := 0) (by decide) ?_
                                                                                                                                  refine lv_iload_n hx hb dX12_paint_56 rfl (lv_at hl 0 rfl) ?_
                                                                                                                                  refine lv_iadd hx hb dX12_paint_57 ?_
                                                                                                                                  refine lz_top (y := 28) (by decide) ?_
                                                                                                                                  refine lv_iload_n hx hb dX12_paint_58 rfl (lv_at hl 0 rfl) ?_
                                                                                                                                  refine lv_aload_n hx hb dX12_paint_59 rfl (lv_at hl 1 rfl) ?_
                                                                                                                                  refine va_get (D := D) (ci := 12) (v := .int 0) (C := RX12) (T := TX12) (N := 24) hx hb hts hin12 hown hK hP 3 rfl rfl 0 (by decide) (hts (.fieldLink RX12 63 "MissedPointsModel" "many" "I") (by decide +kernel)) (fun _ h9 => h9) rfl dX12_paint_60 ?_
                                                                                                                                  refine lv_icmp_ge (tgt := 75) hx hb dX12_paint_63 (by decide) (fun c1044 => ?_) (fun c1044 => ?_)
                                                                                                                                  · refine lv_iconst (v := 0) hx hb dX12_paint_75 (by decide) ?_
                                                                                                                                    refine lz_astc hx hb hK hP hD hS 2 0 rfl rfl (lz_vp (x := 28) (n := 160) (by decide) (by decide)) dX12_paint_76 (fun H locs hP hD hS => ?_)
                                                                                                                                    refine lv_iinc (v := 29) (lv' := [(3, .int 29), (0, .ref h0), (1, .int 0), (2, .int x1)]) hx hb dX12_paint_77 hl (k := 0) rfl (by decide) (by decide) rfl (fun ls hl => ?_)
                                                                                                                                    refine lv_goto (tgt := 42) hx hb dX12_paint_80 (by decide) ?_
                                                                                                                                    refine lv_iload_n hx hb dX12_paint_42 rfl (lv_at hl 0 rfl) ?_
                                                                                                                                    refine lv_bipush (v := 40) hx hb dX12_paint_43 (by decide) ?_
                                                                                                                                    refine lv_icmp_ge (tgt := 83) hx hb dX12_paint_45 (by decide) (fun c1045 => ?_) (fun c1045 => ?_)
                                                                                                                                    · exact absurd c1045 (by decide)
                                                                                                                                    · refine lv_aload_n hx hb dX12_paint_48 rfl (lv_at hl 1 rfl) ?_
                                                                                                                                      refine va_get (D := D) (ci := 12) (v := .ref h11) (C := RX12) (T := TX12) (N := 24) hx hb hts hin12 hown hK hP 3 rfl rfl 18 (by decide) (hts (.fieldLink RX12 44 "MissedPointsModel" "items" "[I") (by decide +kernel)) (fun _ h9 => h9) rfl dX12_paint_49 ?_
                                                                                                                                      refine lv_bipush (v := 40) hx hb dX12_paint_52 (by decide) ?_
                                                                                                                                      refine lv_iload_n hx hb dX12_paint_54 rfl (lv_at hl 2 rfl) ?_
                                                                                                                                      refine lv_imul hx hb dX12_paint_55 ?_
                                                                                                                                      refine lz_top (y := 0) (by decide) ?_
                                                                                                                                      refine lv_iload_n hx hb dX12_paint_56 rfl (lv_at hl 0 rfl) ?_
                                                                                                                                      refine lv_iadd hx hb dX12_paint_57 ?_
                                                                                                                                      refine lz_top (y := 29) (by decide) ?_
                                                                                                                                      refine lv_iload_n hx hb dX12_paint_58 rfl (lv_at hl 0 rfl) ?_
                                                                                                                                      refine lv_aload_n hx hb dX12_paint_59 rfl (lv_at hl 1 rfl) ?_
                                                                                                                                      refine va_get (D := D) (ci := 12) (v := .int 0) (C := RX12) (T := TX12) (N := 24) hx hb hts hin12 hown hK hP 3 rfl rfl 0 (by decide) (hts (.fieldLink RX12 63 "MissedPointsModel" "many" "I") (by decide +kernel)) (fun _ h9 => h9) rfl dX12_paint_60 ?_
                                                                                                                                      refine lv_icmp_ge (tgt := 75) hx hb dX12_paint_63 (by decide) (fun c1046 => ?_) (fun c1046 => ?_)
                                                                                                                                      · refine lv_iconst (v := 0) hx hb dX12_paint_75 (by decide) ?_
                                                                                                                                        refine lz_astc hx hb hK hP hD hS 2 0 rfl rfl (lz_vp (x := 29) (n := 160) (by decide) (by decide)) dX12_paint_76 (fun H locs hP hD hS => ?_)
                                                                                                                                        refine lv_iinc (v := 30) (lv' := [(3, .int 30), (0, .ref h0), (1, .int 0), (2, .int x1)]) hx hb dX12_paint_77 hl (k := 0) rfl (by decide) (by decide) rfl (fun ls hl => ?_)
                                                                                                                                        refine lv_goto (tgt := 42) hx hb dX12_paint_80 (by decide) ?_
                                                                                                                                        refine lv_iload_n hx hb dX12_paint_42 rfl (lv_at hl 0 rfl) ?_
                                                                                                                                        refine lv_bipush (v := 40) hx hb dX12_paint_43 (by decide) ?_
                                                                                                                                        refine lv_icmp_ge (tgt := 83) hx hb dX12_paint_45 (by decide) (fun c1047 => ?_) (fun c1047 => ?_)
                                                                                                                                        · exact absurd c1047 (by decide)
                                                                                                                                        · refine lv_aload_n hx hb dX12_paint_48 rfl (lv_at hl 1 rfl) ?_
                                                                                                                                          refine va_get (D := D) (ci := 12) (v := .ref h11) (C := RX12) (T := TX12) (N := 24) hx hb hts hin12 hown hK hP 3 rfl rfl 18 (by decide) (hts (.fieldLink RX12 44 "MissedPointsModel" "items" "[I") (by decide +kernel)) (fun _ h9 => h9) rfl dX12_paint_49 ?_
                                                                                                                                          refine lv_bipush (v := 40) hx hb dX12_paint_52 (by decide) ?_
                                                                                                                                          refine lv_iload_n hx hb dX12_paint_54 rfl (lv_at hl 2 rfl) ?_
                                                                                                                                          refine lv_imul hx hb dX12_paint_55 ?_
                                                                                                                                          refine lz_top (y := 0) (by decide) ?_
                                                                                                                                          refine lv_iload_n hx hb dX12_paint_56 rfl (lv_at hl 0 rfl) ?_
                                                                                                                                          refine lv_iadd hx hb dX12_paint_57 ?_
                                                                                                                                          refine lz_top (y := 30) (by decide) ?_
                                                                                                                                          refine lv_iload_n hx hb dX12_paint_58 rfl (lv_at hl 0 rfl) ?_
                                                                                                                                          refine lv_aload_n hx hb dX12_paint_59 rfl (lv_at hl 1 rfl) ?_
                                                                                                                                          refine va_get (D := D) (ci := 12) (v := .int 0) (C := RX12) (T := TX12) (N := 24) hx hb hts hin12 hown hK hP 3 rfl rfl 0 (by decide) (hts (.fieldLink RX12 63 "MissedPointsModel" "many" "I") (by decide +kernel)) (fun _ h9 => h9) rfl dX12_paint_60 ?_
                                                                                                                                          refine lv_icmp_ge (tgt := 75) hx hb dX12_paint_63 (by decide) (fun c1048 => ?_) (fun c1048 => ?_)
                                                                                                                                          · refine lv_iconst (v := 0) hx hb dX12_paint_75 (by decide) ?_
                                                                                                                                            refine lz_astc hx hb hK hP hD hS 2 0 rfl rfl (lz_vp (x := 30) (n := 160) (by decide) (by decide)) dX12_paint_76 (fun H locs hP hD hS => ?_)
                                                                                                                                            refine lv_iinc (v := 31) (lv' := [(3, .int 31), (0, .ref h0), (1, .int 0), (2, .int x1)]) hx hb dX12_paint_77 hl (k := 0) rfl (by decide) (by decide) rfl (fun ls hl => ?_)
                                                                                                                                            refine lv_goto (tgt := 42) hx hb dX12_paint_80 (by decide) ?_
                                                                                                                                            refine lv_iload_n hx hb dX12_paint_42 rfl (lv_at hl 0 rfl) ?_
                                                                                                                                            refine lv_bipush (v := 40) hx hb dX12_paint_43 (by decide) ?_
                                                                                                                                            refine lv_icmp_ge (tgt := 83) hx hb dX12_paint_45 (by decide) (fun c1049 => ?_) (fun c1049 => ?_)
                                                                                                                                            · exact absurd c1049 (by decide)
                                                                                                                                            · refine lv_aload_n hx hb dX12_paint_48 rfl (lv_at hl 1 rfl) ?_
                                                                                                                                              refine va_get (D := D) (ci := 12) (v := .ref h11) (C := RX12) (T := TX12) (N := 24) hx hb hts hin12 hown hK hP 3 rfl rfl 18 (by decide) (hts (.fieldLink RX12 44 "MissedPointsModel" "items" "[I") (by decide +kernel)) (fun _ h9 => h9) rfl dX12_paint_49 ?_
                                                                                                                                              refine lv_bipush (v := 40) hx hb dX12_paint_52 (by decide) ?_
                                                                                                                                              refine lv_iload_n hx hb dX12_paint_54 rfl (lv_at hl 2 rfl) ?_
                                                                                                                                              refine lv_imul hx hb dX12_paint_55 ?_
                                                                                                                                              refine lz_top (y := 0) (by decide) ?_
                                                                                                                                              refine lv_iload_n hx hb dX12_paint_56 rfl (lv_at hl 0 rfl) ?_
                                                                                                                                              refine lv_iadd hx hb dX12_paint_57 ?_
                                                                                                                                              refine lz_top (y := 31) (by decide) ?_
                                                                                                                                              refine lv_iload_n hx hb dX12_paint_58 rfl (lv_at hl 0 rfl) ?_
                                                                                                                                              refine lv_aload_n hx hb dX12_paint_59 rfl (lv_at hl 1 rfl) ?_
                                                                                                                                              refine va_get (D := D) (ci := 12) (v := .int 0) (C := RX12) (T := TX12) (N := 24) hx hb hts hin12 hown hK hP 3 rfl rfl 0 (by decide) (hts (.fieldLink RX12 63 "MissedPointsModel" "many" "I") (by decide +kernel)) (fun _ h9 => h9) rfl dX12_paint_60 ?_
                                                                                                                                              refine lv_icmp_ge (tgt := 75) hx hb dX12_paint_63 (by decide) (fun c1050 => ?_) (fun c1050 => ?_)
                                                                                                                                              · refine lv_iconst (v := 0) hx hb dX12_paint_75 (by decide) ?_
                                                                                                                                                refine lz_astc hx hb hK hP hD hS 2 0 rfl rfl (lz_vp (x := 31) (n := 160) (by decide) (by decide)) dX12_paint_76 (fun H locs hP hD hS => ?_)
                                                                                                                                                refine lv_iinc (v := 32) (lv' := [(3, .int 32), (0, .ref h0), (1, .int 0), (2, .int x1)]) hx hb dX12_paint_77 hl (k := 0) rfl (by decide) (by decide) rfl (fun ls hl => ?_)
                                                                                                                                                refine lv_goto (tgt := 42) hx hb dX12_paint_80 (by decide) ?_
                                                                                                                                                refine lv_iload_n hx hb dX12_paint_42 rfl (lv_at hl 0 rfl) ?_
                                                                                                                                                refine lv_bipush (v := 40) hx hb dX12_paint_43 (by decide) ?_
                                                                                                                                                refine lv_icmp_ge (tgt := 83) hx hb dX12_paint_45 (by decide) (fun c1051 => ?_) (fun c1051 => ?_)
                                                                                                                                                · exact absurd c1051 (by decide)
                                                                                                                                                · refine lv_aload_n hx hb dX12_paint_48 rfl (lv_at hl 1 rfl) ?_
                                                                                                                                                  refine va_get (D := D) (ci := 12) (v := .ref h11) (C := RX12) (T := TX12) (N := 24) hx hb hts hin12 hown hK hP 3 rfl rfl 18 (by decide) (hts (.fieldLink RX12 44 "MissedPointsModel" "items" "[I") (by decide +kernel)) (fun _ h9 => h9) rfl dX12_paint_49 ?_
                                                                                                                                                  refine lv_bipush (v := 40) hx hb dX12_paint_52 (by decide) ?_
                                                                                                                                                  refine lv_iload_n hx hb dX12_paint_54 rfl (lv_at hl 2 rfl) ?_
                                                                                                                                                  refine lv_imul hx hb dX12_paint_55 ?_
                                                                                                                                                  refine lz_top (y := 0) (by decide) ?_
                                                                                                                                                  refine lv_iload_n hx hb dX12_paint_56 rfl (lv_at hl 0 rfl) ?_
                                                                                                                                                  refine lv_iadd hx hb dX12_paint_57 ?_
                                                                                                                                                  refine lz_top (y := 32) (by decide) ?_
                                                                                                                                                  refine lv_iload_n hx hb dX12_paint_58 rfl (lv_at hl 0 rfl) ?_
                                                                                                                                                  refine lv_aload_n hx hb dX12_paint_59 rfl (lv_at hl 1 rfl) ?_
                                                                                                                                                  refine va_get (D := D) (ci := 12) (v := .int 0) (C := RX12) (T := TX12) (N := 24) hx hb hts hin12 hown hK hP 3 rfl rfl 0 (by decide) (hts (.fieldLink RX12 63 "MissedPointsModel" "many" "I") (by decide +kernel)) (fun _ h9 => h9) rfl dX12_paint_60 ?_
                                                                                                                                                  refine lv_icmp_ge (tgt := 75) hx hb dX12_paint_63 (by decide) (fun c1052 => ?_) (fun c1052 => ?_)
                                                                                                                                                  · refine lv_iconst (v := 0) hx hb dX12_paint_75 (by decide) ?_
                                                                                                                                                    refine lz_astc hx hb hK hP hD hS 2 0 rfl rfl (lz_vp (x := 32) (n := 160) (by decide) (by decide)) dX12_paint_76 (fun H locs hP hD hS => ?_)
                                                                                                                                                    refine lv_iinc (v := 33) (lv' := [(3, .int 33), (0, .ref h0), (1, .int 0), (2, .int x1)]) hx hb dX12_paint_77 hl (k := 0) rfl (by decide) (by decide) rfl (fun ls hl => ?_)
                                                                                                                                                    refine lv_goto (tgt := 42) hx hb dX12_paint_80 (by decide) ?_
                                                                                                                                                    refine lv_iload_n hx hb dX12_paint_42 rfl (lv_at hl 0 rfl) ?_
                                                                                                                                                    refine lv_bipush (v := 40) hx hb dX12_paint_43 (by decide) ?_
                                                                                                                                                    refine lv_icmp_ge (tgt := 83) hx hb dX12_paint_45 (by decide) (fun c1053 => ?_) (fun c1053 => ?_)
                                                                                                                                                    · exact absurd c1053 (by decide)
                                                                                                                                                    · refine lv_aload_n hx hb dX12_paint_48 rfl (lv_at hl 1 rfl) ?_
                                                                                                                                                      refine va_get (D := D) (ci := 12) (v := .ref h11) (C := RX12) (T := TX12) (N := 24) hx hb hts hin12 hown hK hP 3 rfl rfl 18 (by decide) (hts (.fieldLink RX12 44 "MissedPointsModel" "items" "[I") (by decide +kernel)) (fun _ h9 => h9) rfl dX12_paint_49 ?_
                                                                                                                                                      refine lv_bipush (v := 40) hx hb dX12_paint_52 (by decide) ?_
                                                                                                                                                      refine lv_iload_n hx hb dX12_paint_54 rfl (lv_at hl 2 rfl) ?_
                                                                                                                                                      refine lv_imul hx hb dX12_paint_55 ?_
                                                                                                                                                      refine lz_top (y := 0) (by decide) ?_
                                                                                                                                                      refine lv_iload_n hx hb dX12_paint_56 rfl (lv_at hl 0 rfl) ?_
                                                                                                                                                      refine lv_iadd hx hb dX12_paint_57 ?_
                                                                                                                                                      refine lz_top (y := 33) (by decide) ?_
                                                                                                                                                      refine lv_iload_n hx hb dX12_paint_58 rfl (lv_at hl 0 rfl) ?_
                                                                                                                                                      refine lv_aload_n hx hb dX12_paint_59 rfl (lv_at hl 1 rfl) ?_
                                                                                                                                                      refine va_get (D := D) (ci := 12) (v := .int 0) (C := RX12) (T := TX12) (N := 24) hx hb hts hin12 hown hK hP 3 rfl rfl 0 (by decide) (hts (.fieldLink RX12 63 "MissedPointsModel" "many" "I") (by decide +kernel)) (fun _ h9 => h9) rfl dX12_paint_60 ?_
                                                                                                                                                      refine lv_icmp_ge (tgt := 75) hx hb dX12_paint_63 (by decide) (fun c1054 => ?_) (fun c1054 => ?_)
                                                                                                                                                      · refine lv_iconst (v := 0) hx hb dX12_paint_75 (by decide) ?_
                                                                                                                                                        refine lz_astc hx hb hK hP hD hS 2 0 rfl rfl (lz_vp (x := 33) (n := 160) (by decide) (by decide)) dX12_paint_76 (fun H locs hP hD hS => ?_)
                                                                                                                                                        refine lv_iinc (v := 34) (lv' := [(3, .int 34), (0, .ref h0), (1, .int 0), (2, .int x1)]) hx hb dX12_paint_77 hl (k := 0) rfl (by decide) (by decide) rfl (fun ls hl => ?_)
                                                                                                                                                        refine lv_goto (tgt := 42) hx hb dX12_paint_80 (by decide) ?_
                                                                                                                                                        refine lv_iload_n hx hb dX12_paint_42 rfl (lv_at hl 0 rfl) ?_
                                                                                                                                                        refine lv_bipush (v := 40) hx hb dX12_paint_43 (by decide) ?_
                                                                                                                                                        refine lv_icmp_ge (tgt := 83) hx hb dX12_paint_45 (by decide) (fun c1055 => ?_) (fun c1055 => ?_)
                                                                                                                                                        · exact absurd c1055 (by decide)
                                                                                                                                                        · refine lv_aload_n hx hb dX12_paint_48 rfl (lv_at hl 1 rfl) ?_
                                                                                                                                                          refine va_get (D := D) (ci := 12) (v := .ref h11) (C := RX12) (T := TX12) (N := 24) hx hb hts hin12 hown hK hP 3 rfl rfl 18 (by decide) (hts (.fieldLink RX12 44 "MissedPointsModel" "items" "[I") (by decide +kernel)) (fun _ h9 => h9) rfl dX12_paint_49 ?_
                                                                                                                                                          refine lv_bipush (v := 40) hx hb dX12_paint_52 (by decide) ?_
                                                                                                                                                          refine lv_iload_n hx hb dX12_paint_54 rfl (lv_at hl 2 rfl) ?_
                                                                                                                                                          refine lv_imul hx hb dX12_paint_55 ?_
                                                                                                                                                          refine lz_top (y := 0) (by decide) ?_
                                                                                                                                                          refine lv_iload_n hx hb dX12_paint_56 rfl (lv_at hl 0 rfl) ?_
                                                                                                                                                          refine lv_iadd hx hb dX12_paint_57 ?_
                                                                                                                                                          refine lz_top (y := 34) (by decide) ?_
                                                                                                                                                          refine lv_iload_n hx hb dX12_paint_58 rfl (lv_at hl 0 rfl) ?_
                                                                                                                                                          refine lv_aload_n hx hb dX12_paint_59 rfl (lv_at hl 1 rfl) ?_
                                                                                                                                                          refine va_get (D := D) (ci := 12) (v := .int 0) (C := RX12) (T := TX12) (N := 24) hx hb hts hin12 hown hK hP 3 rfl rfl 0 (by decide) (hts (.fieldLink RX12 63 "MissedPointsModel" "many" "I") (by decide +kernel)) (fun _ h9 => h9) rfl dX12_paint_60 ?_
                                                                                                                                                          refine lv_icmp_ge (tgt := 75) hx hb dX12_paint_63 (by decide) (fun c1056 => ?_) (fun c1056 => ?_)
                                                                                                                                                          · refine lv_iconst (v := 0) hx hb dX12_paint_75 (by decide) ?_
                                                                                                                                                            refine lz_astc hx hb hK hP hD hS 2 0 rfl rfl (lz_vp (x := 34) (n := 160) (by decide) (by decide)) dX12_paint_76 (fun H locs hP hD hS => ?_)
                                                                                                                                                            refine lv_iinc (v := 35) (lv' := [(3, .int 35), (0, .ref h0), (1, .int 0), (2, .int x1)]) hx hb dX12_paint_77 hl (k := 0) rfl (by decide) (by decide) rfl (fun ls hl => ?_)
                                                                                                                                                            refine lv_goto (tgt := 42) hx hb dX12_paint_80 (by decide) ?_
                                                                                                                                                            refine lv_iload_n hx hb dX12_paint_42 rfl (lv_at hl 0 rfl) ?_
                                                                                                                                                            refine lv_bipush (v := 40) hx hb dX12_paint_43 (by decide) ?_
                                                                                                                                                            refine lv_icmp_ge (tgt := 83) hx hb dX12_paint_45 (by decide) (fun c1057 => ?_) (fun c1057 => ?_)
                                                                                                                                                            · exact absurd c1057 (by decide)
                                                                                                                                                            · refine lv_aload_n hx hb dX12_paint_48 rfl (lv_at hl 1 rfl) ?_
                                                                                                                                                              refine va_get (D := D) (ci := 12) (v := .ref h11) (C := RX12) (T := TX12) (N := 24) hx hb hts hin12 hown hK hP 3 rfl rfl 18 (by decide) (hts (.fieldLink RX12 44 "MissedPointsModel" "items" "[I") (by decide +kernel)) (fun _ h9 => h9) rfl dX12_paint_49 ?_
                                                                                                                                                              refine lv_bipush (v := 40) hx hb dX12_paint_52 (by decide) ?_
                                                                                                                                                              refine lv_iload_n hx hb dX12_paint_54 rfl (lv_at hl 2 rfl) ?_
                                                                                                                                                              refine lv_imul hx hb dX12_paint_55 ?_
                                                                                                                                                              refine lz_top (y := 0) (by decide) ?_
                                                                                                                                                              refine lv_iload_n hx hb dX12_paint_56 rfl (lv_at hl 0 rfl) ?_
                                                                                                                                                              refine lv_iadd hx hb dX12_paint_57 ?_
                                                                                                                                                              refine lz_top (y := 35) (by decide) ?_
                                                                                                                                                              refine lv_iload_n hx hb dX12_paint_58 rfl (lv_at hl 0 rfl) ?_
                                                                                                                                                              refine lv_aload_n hx hb dX12_paint_59 rfl (lv_at hl 1 rfl) ?_
                                                                                                                                                              refine va_get (D := D) (ci := 12) (v := .int 0) (C := RX12) (T := TX12) (N := 24) hx hb hts hin12 hown hK hP 3 rfl rfl 0 (by decide) (hts (.fieldLink RX12 63 "MissedPointsModel" "many" "I") (by decide +kernel)) (fun _ h9 => h9) rfl dX12_paint_60 ?_
                                                                                                                                                              refine lv_icmp_ge (tgt := 75) hx hb dX12_paint_63 (by decide) (fun c1058 => ?_) (fun c1058 => ?_)
                                                                                                                                                              · refine lv_iconst (v := 0) hx hb dX12_paint_75 (by decide) ?_
                                                                                                                                                                refine lz_astc hx hb hK hP hD hS 2 0 rfl rfl (lz_vp (x := 35) (n := 160) (by decide) (by decide)) dX12_paint_76 (fun H locs hP hD hS => ?_)
                                                                                                                                                                refine lv_iinc (v := 36) (lv' := [(3, .int 36), (0, .ref h0), (1, .int 0), (2, .int x1)]) hx hb dX12_paint_77 hl (k := 0) rfl (by decide) (by decide) rfl (fun ls hl => ?_)
                                                                                                                                                                refine lv_goto (tgt := 42) hx hb dX12_paint_80 (by decide) ?_
                                                                                                                                                                refine lv_iload_n hx hb dX12_paint_42 rfl (lv_at hl 0 rfl) ?_
                                                                                                                                                                refine lv_bipush (v := 40) hx hb dX12_paint_43 (by decide) ?_
                                                                                                                                                                refine lv_icmp_ge (tgt := 83) hx hb dX12_paint_45 (by decide) (fun c1059 => ?_) (fun c1059 => ?_)
                                                                                                                                                                · exact absurd c1059 (by decide)
                                                                                                                                                                · refine lv_aload_n hx hb dX12_paint_48 rfl (lv_at hl 1 rfl) ?_
                                                                                                                                                                  refine va_get (D := D) (ci := 12) (v := .ref h11) (C := RX12) (T := TX12) (N := 24) hx hb hts hin12 hown hK hP 3 rfl rfl 18 (by decide) (hts (.fieldLink RX12 44 "MissedPointsModel" "items" "[I") (by decide +kernel)) (fun _ h9 => h9) rfl dX12_paint_49 ?_
                                                                                                                                                                  refine lv_bipush (v := 40) hx hb dX12_paint_52 (by decide) ?_
                                                                                                                                                                  refine lv_iload_n hx hb dX12_paint_54 rfl (lv_at hl 2 rfl) ?_
                                                                                                                                                                  refine lv_imul hx hb dX12_paint_55 ?_
                                                                                                                                                                  refine lz_top (y := 0) (by decide) ?_
                                                                                                                                                                  refine lv_iload_n hx hb dX12_paint_56 rfl (lv_at hl 0 rfl) ?_
                                                                                                                                                                  refine lv_iadd hx hb dX12_paint_57 ?_
                                                                                                                                                                  refine lz_top (y := 36) (by decide) ?_
                                                                                                                                                                  refine lv_iload_n hx hb dX12_paint_58 rfl (lv_at hl 0 rfl) ?_
                                                                                                                                                                  refine lv_aload_n hx hb dX12_paint_59 rfl (lv_at hl 1 rfl) ?_
                                                                                                                                                                  refine va_get (D := D) (ci := 12) (v := .int 0) (C := RX12) (T := TX12) (N := 24) hx hb hts hin12 hown hK hP 3 rfl rfl 0 (by decide) (hts (.fieldLink RX12 63 "MissedPointsModel" "many" "I") (by decide +kernel)) (fun _ h9 => h9) rfl dX12_paint_60 ?_
                                                                                                                                                                  refine lv_icmp_ge (tgt := 75) hx hb dX12_paint_63 (by decide) (fun c1060 => ?_) (fun c1060 => ?_)
                                                                                                                                                                  · refine lv_iconst (v := 0) hx hb dX12_paint_75 (by decide) ?_
                                                                                                                                                                    refine lz_astc hx hb hK hP hD hS 2 0 rfl rfl (lz_vp (x := 36) (n := 160) (by decide) (by decide)) dX12_paint_76 (fun H locs hP hD hS => ?_)
                                                                                                                                                                    refine lv_iinc (v := 37) (lv' := [(3, .int 37), (0, .ref h0), (1, .int 0), (2, .int x1)]) hx hb dX12_paint_77 hl (k := 0) rfl (by decide) (by decide) rfl (fun ls hl => ?_)
                                                                                                                                                                    refine lv_goto (tgt := 42) hx hb dX12_paint_80 (by decide) ?_
                                                                                                                                                                    refine lv_iload_n hx hb dX12_paint_42 rfl (lv_at hl 0 rfl) ?_
                                                                                                                                                                    refine lv_bipush (v := 40) hx hb dX12_paint_43 (by decide) ?_
                                                                                                                                                                    refine lv_icmp_ge (tgt := 83) hx hb dX12_paint_45 (by decide) (fun c1061 => ?_) (fun c1061 => ?_)
                                                                                                                                                                    · exact absurd c1061 (by decide)
                                                                                                                                                                    · refine lv_aload_n hx hb dX12_paint_48 rfl (lv_at hl 1 rfl) ?_
                                                                                                                                                                      refine va_get (D := D) (ci := 12) (v := .ref h11) (C := RX12) (T := TX12) (N := 24) hx hb hts hin12 hown hK hP 3 rfl rfl 18 (by decide) (hts (.fieldLink RX12 44 "MissedPointsModel" "items" "[I") (by decide +kernel)) (fun _ h9 => h9) rfl dX12_paint_49 ?_
                                                                                                                                                                      refine lv_bipush (v := 40) hx hb dX12_paint_52 (by decide) ?_
                                                                                                                                                                      refine lv_iload_n hx hb dX12_paint_54 rfl (lv_at hl 2 rfl) ?_
                                                                                                                                                                      refine lv_imul hx hb dX12_paint_55 ?_
                                                                                                                                                                      refine lz_top (y := 0) (by decide) ?_
                                                                                                                                                                      refine lv_iload_n hx hb dX12_paint_56 rfl (lv_at hl 0 rfl) ?_
                                                                                                                                                                      refine lv_iadd hx hb dX12_paint_57 ?_
                                                                                                                                                                      refine lz_top (y := 37) (by decide) ?_
                                                                                                                                                                      refine lv_iload_n hx hb dX12_paint_58 rfl (lv_at hl 0 rfl) ?_
                                                                                                                                                                      refine lv_aload_n hx hb dX12_paint_59 rfl (lv_at hl 1 rfl) ?_
                                                                                                                                                                      refine va_get (D := D) (ci := 12) (v := .int 0) (C := RX12) (T := TX12) (N := 24) hx hb hts hin12 hown hK hP 3 rfl rfl 0 (by decide) (hts (.fieldLink RX12 63 "MissedPointsModel" "many" "I") (by decide +kernel)) (fun _ h9 => h9) rfl dX12_paint_60 ?_
                                                                                                                                                                      refine lv_icmp_ge (tgt := 75) hx hb dX12_paint_63 (by decide) (fun c1062 => ?_) (fun c1062 => ?_)
                                                                                                                                                                      · refine lv_iconst (v := 0) hx hb dX12_paint_75 (by decide) ?_
                                                                                                                                                                        refine lz_astc hx hb hK hP hD hS 2 0 rfl rfl (lz_vp (x := 37) (n := 160) (by decide) (by decide)) dX12_paint_76 (fun H locs hP hD hS => ?_)
                                                                                                                                                                        refine lv_iinc (v := 38) (lv' := [(3, .int 38), (0, .ref h0), (1, .int 0), (2, .int x1)]) hx hb dX12_paint_77 hl (k := 0) rfl (by decide) (by decide) rfl (fun ls hl => ?_)
                                                                                                                                                                        refine lv_goto (tgt := 42) hx hb dX12_paint_80 (by decide) ?_
                                                                                                                                                                        refine lv_iload_n hx hb dX12_paint_42 rfl (lv_at hl 0 rfl) ?_
                                                                                                                                                                        refine lv_bipush (v := 40) hx hb dX12_paint_43 (by decide) ?_
                                                                                                                                                                        refine lv_icmp_ge (tgt := 83) hx hb dX12_paint_45 (by decide) (fun c1063 => ?_) (fun c1063 => ?_)
                                                                                                                                                                        · exact absurd c1063 (by decide)
                                                                                                                                                                        · refine lv_aload_n hx hb dX12_paint_48 rfl (lv_at hl 1 rfl) ?_
                                                                                                                                                                          refine va_get (D := D) (ci := 12) (v := .ref h11) (C := RX12) (T := TX12) (N := 24) hx hb hts hin12 hown hK hP 3 rfl rfl 18 (by decide) (hts (.fieldLink RX12 44 "MissedPointsModel" "items" "[I") (by decide +kernel)) (fun _ h9 => h9) rfl dX12_paint_49 ?_
                                                                                                                                                                          refine lv_bipush (v := 40) hx hb dX12_paint_52 (by decide) ?_
                                                                                                                                                                          refine lv_iload_n hx hb dX12_paint_54 rfl (lv_at hl 2 rfl) ?_
                                                                                                                                                                          refine lv_imul hx hb dX12_paint_55 ?_
                                                                                                                                                                          refine lz_top (y := 0) (by decide) ?_
                                                                                                                                                                          refine lv_iload_n hx hb dX12_paint_56 rfl (lv_at hl 0 rfl) ?_
                                                                                                                                                                          refine lv_iadd hx hb dX12_paint_57 ?_
                                                                                                                                                                          refine lz_top (y := 38) (by decide) ?_
                                                                                                                                                                          refine lv_iload_n hx hb dX12_paint_58 rfl (lv_at hl 0 rfl) ?_
                                                                                                                                                                          refine lv_aload_n hx hb dX12_paint_59 rfl (lv_at hl 1 rfl) ?_
                                                                                                                                                                          refine va_get (D := D) (ci := 12) (v := .int 0) (C := RX12) (T := TX12) (N := 24) hx hb hts hin12 hown hK hP 3 rfl rfl 0 (by decide) (hts (.fieldLink RX12 63 "MissedPointsModel" "many" "I") (by decide +kernel)) (fun _ h9 => h9) rfl dX12_paint_60 ?_
                                                                                                                                                                          refine lv_icmp_ge (tgt := 75) hx hb dX12_paint_63 (by decide) (fun c1064 => ?_) (fun c1064 => ?_)
                                                                                                                                                                          · refine lv_iconst (v := 0) hx hb dX12_paint_75 (by decide) ?_
                                                                                                                                                                            refine lz_astc hx hb hK hP hD hS 2 0 rfl rfl (lz_vp (x := 38) (n := 160) (by decide) (by decide)) dX12_paint_76 (fun H locs hP hD hS => ?_)
                                                                                                                                                                            refine lv_iinc (v := 39) (lv' := [(3, .int 39), (0, .ref h0), (1, .int 0), (2, .int x1)]) hx hb dX12_paint_77 hl (k := 0) rfl (by decide) (by decide) rfl (fun ls hl => ?_)
                                                                                                                                                                            refine lv_goto (tgt := 42) hx hb dX12_paint_80 (by decide) ?_
                                                                                                                                                                            refine lv_iload_n hx hb dX12_paint_42 rfl (lv_at hl 0 rfl) ?_
                                                                                                                                                                            refine lv_bipush (v := 40) hx hb dX12_paint_43 (by decide) ?_
                                                                                                                                                                            refine lv_icmp_ge (tgt := 83) hx hb dX12_paint_45 (by decide) (fun c1065 => ?_) (fun c1065 => ?_)
                                                                                                                                                                            · exact absurd c1065 (by decide)
                                                                                                                                                                            · refine lv_aload_n hx hb dX12_paint_48 rfl (lv_at hl 1 rfl) ?_
                                                                                                                                                                              refine va_get (D := D) (ci := 12) (v := .ref h11) (C := RX12) (T := TX12) (N := 24) hx hb hts hin12 hown hK hP 3 rfl rfl 18 (by decide) (hts (.fieldLink RX12 44 "MissedPointsModel" "items" "[I") (by decide +kernel)) (fun _ h9 => h9) rfl dX12_paint_49 ?_
                                                                                                                                                                              refine lv_bipush (v := 40) hx hb dX12_paint_52 (by decide) ?_
                                                                                                                                                                              refine lv_iload_n hx hb dX12_paint_54 rfl (lv_at hl 2 rfl) ?_
                                                                                                                                                                              refine lv_imul hx hb dX12_paint_55 ?_
                                                                                                                                                                              refine lz_top (y := 0) (by decide) ?_
                                                                                                                                                                              refine lv_iload_n hx hb dX12_paint_56 rfl (lv_at hl 0 rfl) ?_
                                                                                                                                                                              refine lv_iadd hx hb dX12_paint_57 ?_
                                                                                                                                                                              refine lz_top (y := 39) (by decide) ?_
                                                                                                                                                                              refine lv_iload_n hx hb dX12_paint_58 rfl (lv_at hl 0 rfl) ?_
                                                                                                                                                                              refine lv_aload_n hx hb dX12_paint_59 rfl (lv_at hl 1 rfl) ?_
                                                                                                                                                                              refine va_get (D := D) (ci := 12) (v := .int 0) (C := RX12) (T := TX12) (N := 24) hx hb hts hin12 hown hK hP 3 rfl rfl 0 (by decide) (hts (.fieldLink RX12 63 "MissedPointsModel" "many" "I") (by decide +kernel)) (fun _ h9 => h9) rfl dX12_paint_60 ?_
                                                                                                                                                                              refine lv_icmp_ge (tgt := 75) hx hb dX12_paint_63 (by decide) (fun c1066 => ?_) (fun c1066 => ?_)
                                                                                                                                                                              · refine lv_iconst (v := 0) hx hb dX12_paint_75 (by decide) ?_
                                                                                                                                                                                refine lz_astc hx hb hK hP hD hS 2 0 rfl rfl (lz_vp (x := 39) (n := 160) (by decide) (by decide)) dX12_paint_76 (fun H locs hP hD hS => ?_)
                                                                                                                                                                                refine lv_iinc (v := 40) (lv' := [(3, .int 40), (0, .ref h0), (1, .int 0), (2, .int x1)]) hx hb dX12_paint_77 hl (k := 0) rfl (by decide) (by decide) rfl (fun ls hl => ?_)
                                                                                                                                                                                refine lv_goto (tgt := 42) hx hb dX12_paint_80 (by decide) ?_
                                                                                                                                                                                refine lv_iload_n hx hb dX12_paint_42 rfl (lv_at hl 0 rfl) ?_
                                                                                                                                                                                refine lv_bipush (v := 40) hx hb dX12_paint_43 (by decide) ?_
                                                                                                                                                                                refine lv_icmp_ge (tgt := 83) hx hb dX12_paint_45 (by decide) (fun c1067 => ?_) (fun c1067 => ?_)
                                                                                                                                                                                · refine lv_aload_n hx hb dX12_paint_83 rfl (lv_at hl 1 rfl) ?_
                                                                                                                                                                                  refine va_get (D := D) (ci := 12) (v := .int 0) (C := RX12) (T := TX12) (N := 24) hx hb hts hin12 hown hK hP 3 rfl rfl 0 (by decide) (hts (.fieldLink RX12 63 "MissedPointsModel" "many" "I") (by decide +kernel)) (fun _ h9 => h9) rfl dX12_paint_84 ?_
                                                                                                                                                                                  have hP9 := hP.sub (ws' := []) [] rfl
                                                                                                                                                                                  have hD9 := hD.sub (ws' := []) [] (by decide) rfl
                                                                                                                                                                                  subst hAe
                                                                                                                                                                                  exact W.iret (v := 0) hx hb hr (fun t ht hW => ⟨⟨_, (), rfl, by rw [if_neg k974, if_neg k976, if_neg k980, if_neg k982], by rw [ht]; exact hP9, hD9⟩, hS.F ht⟩) hS.2.2 dX12_paint_87
                                                                                                                                                                                · exact absurd c1067 (by decide)
                                                                                                                                                                              · exact absurd c1066 (by decide)
                                                                                                                                                                          · exact absurd c1064 (by decide)
                                                                                                                                                                      · exact absurd c1062 (by decide)
                                                                                                                                                                  · exact absurd c1060 (by decide)
                                                                                                                                                              · exact absurd c1058 (by decide)
                                                                                                                                                          · exact absurd c1056 (by decide)
                                                                                                                                                      · exact absurd c1054 (by decide)
                                                                                                                                                  · exact absurd c1052 (by decide)
                                                                                                                                              · exact absurd c1050 (by decide)
                                                                                                                                          · exact absurd c1048 (by decide)
                                                                                                                                      · exact absurd c1046 (by decide)
                                                                                                                                  · exact absurd c1044 (by decide)
                                                                                                                              · exact absurd c1042 (by decide)
                                                                                                                          · exact absurd c1040 (by decide)
                                                                                                                      · exact absurd c1038 (by decide)
                                                                                                                  · exact absurd c1036 (by decide)
                                                                                                              · exact absurd c1034 (by decide)
                                                                                                          · exact absurd c1032 (by decide)
                                                                                                      · exact absurd c1030 (by decide)
                                                                                                  · exact absurd c1028 (by decide)
                                                                                              · exact absurd c1026 (by decide)
                                                                                          · exact absurd c1024 (by decide)
                                                                                      · exact absurd c1022 (by decide)
                                                                                  · exact absurd c1020 (by decide)
                                                                              · exact absurd c1018 (by decide)
                                                                          · exact absurd c1016 (by decide)
                                                                      · exact absurd c1014 (by decide)
                                                                  · exact absurd c1012 (by decide)
                                                              · exact absurd c1010 (by decide)
                                                          · exact absurd c1008 (by decide)
                                                      · exact absurd c1006 (by decide)
                                                  · exact absurd c1004 (by decide)
                                              · exact absurd c1002 (by decide)
                                          · exact absurd c1000 (by decide)
                                      · exact absurd c998 (by decide)
                                  · exact absurd c996 (by decide)
                              · exact absurd c994 (by decide)
                          · exact absurd c992 (by decide)
                      · exact absurd c990 (by decide)
                  · exact absurd c988 (by decide)
              · by_cases k1068 : x0 = 1
                · subst k1068
                  refine va_iast hx hb hK hP hD hS 0 0 rfl rfl (lz_vp (x := 1) (n := 4) (by decide) (by decide)) dX12_paint_29 (fun H locs hP hD hS => ?_)
                  have hP : va_P D cls [(h9, .inl (cI, 4, .inl (upd (fun _ => -1) 1 x1))), (h10, .inl (cI, 4, .inl (fun _ => 0))), (h11, .inl (cI, 160, .inl (fun _ => 0))), (h0, .inr (12, [.int 0, .int 1, .ref h1, .ref h2, .ref h3, .ref h4, .ref h5, .ref h6, .ref h7, .ref h8, .int 0, .int 0, .int 0, .int 0, .int 0, .int 0, .ref h9, .ref h10, .ref h11, .ref h12, .ref h13, .ref h14, .ref h15, .int 0])), (h3, .inl (cI, 4096, .inl (upd (fun _ => 0) 0 1)))] H := hP
                  have hD : va_D A [(h9, .inl (cI, 4, .inl (upd (fun _ => -1) 1 x1))), (h10, .inl (cI, 4, .inl (fun _ => 0))), (h11, .inl (cI, 160, .inl (fun _ => 0))), (h0, .inr (12, [.int 0, .int 1, .ref h1, .ref h2, .ref h3, .ref h4, .ref h5, .ref h6, .ref h7, .ref h8, .int 0, .int 0, .int 0, .int 0, .int 0, .int 0, .ref h9, .ref h10, .ref h11, .ref h12, .ref h13, .ref h14, .ref h15, .int 0])), (h3, .inl (cI, 4096, .inl (upd (fun _ => 0) 0 1)))] := hD
                  refine lv_aload_n hx hb dX12_paint_30 rfl (lv_at hl 0 rfl) ?_
                  refine va_get (D := D) (ci := 12) (v := .ref h10) (C := RX12) (T := TX12) (N := 24) hx hb hts hin12 hown hK hP 3 rfl rfl 17 (by decide) (hts (.fieldLink RX12 41 "MissedPointsModel" "size" "[I") (by decide +kernel)) (fun _ h9 => h9) rfl dX12_paint_31 ?_
                  refine lv_iload_n hx hb dX12_paint_34 rfl (lv_at hl 1 rfl) ?_
                  refine lv_aload_n hx hb dX12_paint_35 rfl (lv_at hl 0 rfl) ?_
                  refine va_get (D := D) (ci := 12) (v := .int 0) (C := RX12) (T := TX12) (N := 24) hx hb hts hin12 hown hK hP 3 rfl rfl 0 (by decide) (hts (.fieldLink RX12 63 "MissedPointsModel" "many" "I") (by decide +kernel)) (fun _ h9 => h9) rfl dX12_paint_36 ?_
                  refine lz_astc hx hb hK hP hD hS 1 0 rfl rfl (lz_vp (x := 1) (n := 4) (by decide) (by decide)) dX12_paint_39 (fun H locs hP hD hS => ?_)
                  refine lv_iconst (v := 0) hx hb dX12_paint_40 (by decide) ?_
                  refine lv_istore_n (lv' := [(3, .int 0), (0, .ref h0), (1, .int 1), (2, .int x1)]) hx hb dX12_paint_41 rfl hl (by decide) rfl (fun ls hl => ?_)
                  refine lv_iload_n hx hb dX12_paint_42 rfl (lv_at hl 0 rfl) ?_
                  refine lv_bipush (v := 40) hx hb dX12_paint_43 (by decide) ?_
                  refine lv_icmp_ge (tgt := 83) hx hb dX12_paint_45 (by decide) (fun c1069 => ?_) (fun c1069 => ?_)
                  · exact absurd c1069 (by decide)
                  · refine lv_aload_n hx hb dX12_paint_48 rfl (lv_at hl 1 rfl) ?_
                    refine va_get (D := D) (ci := 12) (v := .ref h11) (C := RX12) (T := TX12) (N := 24) hx hb hts hin12 hown hK hP 3 rfl rfl 18 (by decide) (hts (.fieldLink RX12 44 "MissedPointsModel" "items" "[I") (by decide +kernel)) (fun _ h9 => h9) rfl dX12_paint_49 ?_
                    refine lv_bipush (v := 40) hx hb dX12_paint_52 (by decide) ?_
                    refine lv_iload_n hx hb dX12_paint_54 rfl (lv_at hl 2 rfl) ?_
                    refine lv_imul hx hb dX12_paint_55 ?_
                    refine lz_top (y := 40) (by decide) ?_
                    refine lv_iload_n hx hb dX12_paint_56 rfl (lv_at hl 0 rfl) ?_
                    refine lv_iadd hx hb dX12_paint_57 ?_
                    refine lz_top (y := 40) (by decide) ?_
                    refine lv_iload_n hx hb dX12_paint_58 rfl (lv_at hl 0 rfl) ?_
                    refine lv_aload_n hx hb dX12_paint_59 rfl (lv_at hl 1 rfl) ?_
                    refine va_get (D := D) (ci := 12) (v := .int 0) (C := RX12) (T := TX12) (N := 24) hx hb hts hin12 hown hK hP 3 rfl rfl 0 (by decide) (hts (.fieldLink RX12 63 "MissedPointsModel" "many" "I") (by decide +kernel)) (fun _ h9 => h9) rfl dX12_paint_60 ?_
                    refine lv_icmp_ge (tgt := 75) hx hb dX12_paint_63 (by decide) (fun c1070 => ?_) (fun c1070 => ?_)
                    · refine lv_iconst (v := 0) hx hb dX12_paint_75 (by decide) ?_
                      refine lz_astc hx hb hK hP hD hS 2 0 rfl rfl (lz_vp (x := 40) (n := 160) (by decide) (by decide)) dX12_paint_76 (fun H locs hP hD hS => ?_)
                      refine lv_iinc (v := 1) (lv' := [(3, .int 1), (0, .ref h0), (1, .int 1), (2, .int x1)]) hx hb dX12_paint_77 hl (k := 0) rfl (by decide) (by decide) rfl (fun ls hl => ?_)
                      refine lv_goto (tgt := 42) hx hb dX12_paint_80 (by decide) ?_
                      refine lv_iload_n hx hb dX12_paint_42 rfl (lv_at hl 0 rfl) ?_
                      refine lv_bipush (v := 40) hx hb dX12_paint_43 (by decide) ?_
                      refine lv_icmp_ge (tgt := 83) hx hb dX12_paint_45 (by decide) (fun c1071 => ?_) (fun c1071 => ?_)
                      · exact absurd c1071 (by decide)
                      · refine lv_aload_n hx hb dX12_paint_48 rfl (lv_at hl 1 rfl) ?_
                        refine va_get (D := D) (ci := 12) (v := .ref h11) (C := RX12) (T := TX12) (N := 24) hx hb hts hin12 hown hK hP 3 rfl rfl 18 (by decide) (hts (.fieldLink RX12 44 "MissedPointsModel" "items" "[I") (by decide +kernel)) (fun _ h9 => h9) rfl dX12_paint_49 ?_
                        refine lv_bipush (v := 40) hx hb dX12_paint_52 (by decide) ?_
                        refine lv_iload_n hx hb dX12_paint_54 rfl (lv_at hl 2 rfl) ?_
                        refine lv_imul hx hb dX12_paint_55 ?_
                        refine lz_top (y := 40) (by decide) ?_
                        refine lv_iload_n hx hb dX12_paint_56 rfl (lv_at hl 0 rfl) ?_
                        refine lv_iadd hx hb dX12_paint_57 ?_
                        refine lz_top (y := 41) (by decide) ?_
                        refine lv_iload_n hx hb dX12_paint_58 rfl (lv_at hl 0 rfl) ?_
                        refine lv_aload_n hx hb dX12_paint_59 rfl (lv_at hl 1 rfl) ?_
                        refine va_get (D := D) (ci := 12) (v := .int 0) (C := RX12) (T := TX12) (N := 24) hx hb hts hin12 hown hK hP 3 rfl rfl 0 (by decide) (hts (.fieldLink RX12 63 "MissedPointsModel" "many" "I") (by decide +kernel)) (fun _ h9 => h9) rfl dX12_paint_60 ?_
                        refine lv_icmp_ge (tgt := 75) hx hb dX12_paint_63 (by decide) (fun c1072 => ?_) (fun c1072 => ?_)
                        · refine lv_iconst (v := 0) hx hb dX12_paint_75 (by decide) ?_
                          refine lz_astc hx hb hK hP hD hS 2 0 rfl rfl (lz_vp (x := 41) (n := 160) (by decide) (by decide)) dX12_paint_76 (fun H locs hP hD hS => ?_)
                          refine lv_iinc (v := 2) (lv' := [(3, .int 2), (0, .ref h0), (1, .int 1), (2, .int x1)]) hx hb dX12_paint_77 hl (k := 0) rfl (by decide) (by decide) rfl (fun ls hl => ?_)
                          refine lv_goto (tgt := 42) hx hb dX12_paint_80 (by decide) ?_
                          refine lv_iload_n hx hb dX12_paint_42 rfl (lv_at hl 0 rfl) ?_
                          refine lv_bipush (v := 40) hx hb dX12_paint_43 (by decide) ?_
                          refine lv_icmp_ge (tgt := 83) hx hb dX12_paint_45 (by decide) (fun c1073 => ?_) (fun c1073 => ?_)
                          · exact absurd c1073 (by decide)
                          · refine lv_aload_n hx hb dX12_paint_48 rfl (lv_at hl 1 rfl) ?_
                            refine va_get (D := D) (ci := 12) (v := .ref h11) (C := RX12) (T := TX12) (N := 24) hx hb hts hin12 hown hK hP 3 rfl rfl 18 (by decide) (hts (.fieldLink RX12 44 "MissedPointsModel" "items" "[I") (by decide +kernel)) (fun _ h9 => h9) rfl dX12_paint_49 ?_
                            refine lv_bipush (v := 40) hx hb dX12_paint_52 (by decide) ?_
                            refine lv_iload_n hx hb dX12_paint_54 rfl (lv_at hl 2 rfl) ?_
                            refine lv_imul hx hb dX12_paint_55 ?_
                            refine lz_top (y := 40) (by decide) ?_
                            refine lv_iload_n hx hb dX12_paint_56 rfl (lv_at hl 0 rfl) ?_
                            refine lv_iadd hx hb dX12_paint_57 ?_
                            refine lz_top (y := 42) (by decide) ?_
                            refine lv_iload_n hx hb dX12_paint_58 rfl (lv_at hl 0 rfl) ?_
                            refine lv_aload_n hx hb dX12_paint_59 rfl (lv_at hl 1 rfl) ?_
                            refine va_get (D := D) (ci := 12) (v := .int 0) (C := RX12) (T := TX12) (N := 24) hx hb hts hin12 hown hK hP 3 rfl rfl 0 (by decide) (hts (.fieldLink RX12 63 "MissedPointsModel" "many" "I") (by decide +kernel)) (fun _ h9 => h9) rfl dX12_paint_60 ?_
                            refine lv_icmp_ge (tgt := 75) hx hb dX12_paint_63 (by decide) (fun c1074 => ?_) (fun c1074 => ?_)
                            · refine lv_iconst (v := 0) hx hb dX12_paint_75 (by decide) ?_
                              refine lz_astc hx hb hK hP hD hS 2 0 rfl rfl (lz_vp (x := 42) (n := 160) (by decide) (by decide)) dX12_paint_76 (fun H locs hP hD hS => ?_)
                              refine lv_iinc (v := 3) (lv' := [(3, .int 3), (0, .ref h0), (1, .int 1), (2, .int x1)]) hx hb dX12_paint_77 hl (k := 0) rfl (by decide) (by decide) rfl (fun ls hl => ?_)
                              refine lv_goto (tgt := 42) hx hb dX12_paint_80 (by decide) ?_
                              refine lv_iload_n hx hb dX12_paint_42 rfl (lv_at hl 0 rfl) ?_
                              refine lv_bipush (v := 40) hx hb dX12_paint_43 (by decide) ?_
                              refine lv_icmp_ge (tgt := 83) hx hb dX12_paint_45 (by decide) (fun c1075 => ?_) (fun c1075 => ?_)
                              · exact absurd c1075 (by decide)
                              · refine lv_aload_n hx hb dX12_paint_48 rfl (lv_at hl 1 rfl) ?_
                                refine va_get (D := D) (ci := 12) (v := .ref h11) (C := RX12) (T := TX12) (N := 24) hx hb hts hin12 hown hK hP 3 rfl rfl 18 (by decide) (hts (.fieldLink RX12 44 "MissedPointsModel" "items" "[I") (by decide +kernel)) (fun _ h9 => h9) rfl dX12_paint_49 ?_
                                refine lv_bipush (v := 40) hx hb dX12_paint_52 (by decide) ?_
                                refine lv_iload_n hx hb dX12_paint_54 rfl (lv_at hl 2 rfl) ?_
                                refine lv_imul hx hb dX12_paint_55 ?_
                                refine lz_top (y := 40) (by decide) ?_
                                refine lv_iload_n hx hb dX12_paint_56 rfl (lv_at hl 0 rfl) ?_
                                refine lv_iadd hx hb dX12_paint_57 ?_
                                refine lz_top (y := 43) (by decide) ?_
                                refine lv_iload_n hx hb dX12_paint_58 rfl (lv_at hl 0 rfl) ?_
                                refine lv_aload_n hx hb dX12_paint_59 rfl (lv_at hl 1 rfl) ?_
                                refine va_get (D := D) (ci := 12) (v := .int 0) (C := RX12) (T := TX12) (N := 24) hx hb hts hin12 hown hK hP 3 rfl rfl 0 (by decide) (hts (.fieldLink RX12 63 "MissedPointsModel" "many" "I") (by decide +kernel)) (fun _ h9 => h9) rfl dX12_paint_60 ?_
                                refine lv_icmp_ge (tgt := 75) hx hb dX12_paint_63 (by decide) (fun c1076 => ?_) (fun c1076 => ?_)
                                · refine lv_iconst (v := 0) hx hb dX12_paint_75 (by decide) ?_
                                  refine lz_astc hx hb hK hP hD hS 2 0 rfl rfl (lz_vp (x := 43) (n := 160) (by decide) (by decide)) dX12_paint_76 (fun H locs hP hD hS => ?_)
                                  refine lv_iinc (v := 4) (lv' := [(3, .int 4), (0, .ref h0), (1, .int 1), (2, .int x1)]) hx hb dX12_paint_77 hl (k := 0) rfl (by decide) (by decide) rfl (fun ls hl => ?_)
                                  refine lv_goto (tgt := 42) hx hb dX12_paint_80 (by decide) ?_
                                  refine lv_iload_n hx hb dX12_paint_42 rfl (lv_at hl 0 rfl) ?_
                                  refine lv_bipush (v := 40) hx hb dX12_paint_43 (by decide) ?_
                                  refine lv_icmp_ge (tgt := 83) hx hb dX12_paint_45 (by decide) (fun c1077 => ?_) (fun c1077 => ?_)
                                  · exact absurd c1077 (by decide)
                                  · refine lv_aload_n hx hb dX12_paint_48 rfl (lv_at hl 1 rfl) ?_
                                    refine va_get (D := D) (ci := 12) (v := .ref h11) (C := RX12) (T := TX12) (N := 24) hx hb hts hin12 hown hK hP 3 rfl rfl 18 (by decide) (hts (.fieldLink RX12 44 "MissedPointsModel" "items" "[I") (by decide +kernel)) (fun _ h9 => h9) rfl dX12_paint_49 ?_
                                    refine lv_bipush (v := 40) hx hb dX12_paint_52 (by decide) ?_
                                    refine lv_iload_n hx hb dX12_paint_54 rfl (lv_at hl 2 rfl) ?_
                                    refine lv_imul hx hb dX12_paint_55 ?_
                                    refine lz_top (y := 40) (by decide) ?_
                                    refine lv_iload_n hx hb dX12_paint_56 rfl (lv_at hl 0 rfl) ?_
                                    refine lv_iadd hx hb dX12_paint_57 ?_
                                    refine lz_top (y := 44) (by decide) ?_
                                    refine lv_iload_n hx hb dX12_paint_58 rfl (lv_at hl 0 rfl) ?_
                                    refine lv_aload_n hx hb dX12_paint_59 rfl (lv_at hl 1 rfl) ?_
                                    refine va_get (D := D) (ci := 12) (v := .int 0) (C := RX12) (T := TX12) (N := 24) hx hb hts hin12 hown hK hP 3 rfl rfl 0 (by decide) (hts (.fieldLink RX12 63 "MissedPointsModel" "many" "I") (by decide +kernel)) (fun _ h9 => h9) rfl dX12_paint_60 ?_
                                    refine lv_icmp_ge (tgt := 75) hx hb dX12_paint_63 (by decide) (fun c1078 => ?_) (fun c1078 => ?_)
                                    · refine lv_iconst (v := 0) hx hb dX12_paint_75 (by decide) ?_
                                      refine lz_astc hx hb hK hP hD hS 2 0 rfl rfl (lz_vp (x := 44) (n := 160) (by decide) (by decide)) dX12_paint_76 (fun H locs hP hD hS => ?_)
                                      refine lv_iinc (v := 5) (lv' := [(3, .int 5), (0, .ref h0), (1, .int 1), (2, .int x1)]) hx hb dX12_paint_77 hl (k := 0) rfl (by decide) (by decide) rfl (fun ls hl => ?_)
                                      refine lv_goto (tgt := 42) hx hb dX12_paint_80 (by decide) ?_
                                      refine lv_iload_n hx hb dX12_paint_42 rfl (lv_at hl 0 rfl) ?_
                                      refine lv_bipush (v := 40) hx hb dX12_paint_43 (by decide) ?_
                                      refine lv_icmp_ge (tgt := 83) hx hb dX12_paint_45 (by decide) (fun c1079 => ?_) (fun c1079 => ?_)
                                      · exact absurd c1079 (by decide)
                                      · refine lv_aload_n hx hb dX12_paint_48 rfl (lv_at hl 1 rfl) ?_
                                        refine va_get (D := D) (ci := 12) (v := .ref h11) (C := RX12) (T := TX12) (N := 24) hx hb hts hin12 hown hK hP 3 rfl rfl 18 (by decide) (hts (.fieldLink RX12 44 "MissedPointsModel" "items" "[I") (by decide +kernel)) (fun _ h9 => h9) rfl dX12_paint_49 ?_
                                        refine lv_bipush (v := 40) hx hb dX12_paint_52 (by decide) ?_
                                        refine lv_iload_n hx hb dX12_paint_54 rfl (lv_at hl 2 rfl) ?_
                                        refine lv_imul hx hb dX12_paint_55 ?_
                                        refine lz_top (y := 40) (by decide) ?_
                                        refine lv_iload_n hx hb dX12_paint_56 rfl (lv_at hl 0 rfl) ?_
                                        refine lv_iadd hx hb dX12_paint_57 ?_
                                        refine lz_top (y := 45) (by decide) ?_
                                        refine lv_iload_n hx hb dX12_paint_58 rfl (lv_at hl 0 rfl) ?_
                                        refine lv_aload_n hx hb dX12_paint_59 rfl (lv_at hl 1 rfl) ?_
                                        refine va_get (D := D) (ci := 12) (v := .int 0) (C := RX12) (T := TX12) (N := 24) hx hb hts hin12 hown hK hP 3 rfl rfl 0 (by decide) (hts (.fieldLink RX12 63 "MissedPointsModel" "many" "I") (by decide +kernel)) (fun _ h9 => h9) rfl dX12_paint_60 ?_
                                        refine lv_icmp_ge (tgt := 75) hx hb dX12_paint_63 (by decide) (fun c1080 => ?_) (fun c1080 => ?_)
                                        · refine lv_iconst (v := 0) hx hb dX12_paint_75 (by decide) ?_
                                          refine lz_astc hx hb hK hP hD hS 2 0 rfl rfl (lz_vp (x := 45) (n := 160) (by decide) (by decide)) dX12_paint_76 (fun H locs hP hD hS => ?_)
                                          refine lv_iinc (v := 6) (lv' := [(3, .int 6), (0, .ref h0), (1, .int 1), (2, .int x1)]) hx hb dX12_paint_77 hl (k := 0) rfl (by decide) (by decide) rfl (fun ls hl => ?_)
                                          refine lv_goto (tgt := 42) hx hb dX12_paint_80 (by decide) ?_
                                          refine lv_iload_n hx hb dX12_paint_42 rfl (lv_at hl 0 rfl) ?_
                                          refine lv_bipush (v := 40) hx hb dX12_paint_43 (by decide) ?_
                                          refine lv_icmp_ge (tgt := 83) hx hb dX12_paint_45 (by decide) (fun c1081 => ?_) (fun c1081 => ?_)
                                          · exact absurd c1081 (by decide)
                                          · refine lv_aload_n hx hb dX12_paint_48 rfl (lv_at hl 1 rfl) ?_
                                            refine va_get (D := D) (ci := 12) (v := .ref h11) (C := RX12) (T := TX12) (N := 24) hx hb hts hin12 hown hK hP 3 rfl rfl 18 (by decide) (hts (.fieldLink RX12 44 "MissedPointsModel" "items" "[I") (by decide +kernel)) (fun _ h9 => h9) rfl dX12_paint_49 ?_
                                            refine lv_bipush (v := 40) hx hb dX12_paint_52 (by decide) ?_
                                            refine lv_iload_n hx hb dX12_paint_54 rfl (lv_at hl 2 rfl) ?_
                                            refine lv_imul hx hb dX12_paint_55 ?_
                                            refine lz_top (y := 40) (by decide) ?_
                                            refine lv_iload_n hx hb dX12_paint_56 rfl (lv_at hl 0 rfl) ?_
                                            refine lv_iadd hx hb dX12_paint_57 ?_
                                            refine lz_top (y := 46) (by decide) ?_
                                            refine lv_iload_n hx hb dX12_paint_58 rfl (lv_at hl 0 rfl) ?_
                                            refine lv_aload_n hx hb dX12_paint_59 rfl (lv_at hl 1 rfl) ?_
                                            refine va_get (D := D) (ci := 12) (v := .int 0) (C := RX12) (T := TX12) (N := 24) hx hb hts hin12 hown hK hP 3 rfl rfl 0 (by decide) (hts (.fieldLink RX12 63 "MissedPointsModel" "many" "I") (by decide +kernel)) (fun _ h9 => h9) rfl dX12_paint_60 ?_
                                            refine lv_icmp_ge (tgt := 75) hx hb dX12_paint_63 (by decide) (fun c1082 => ?_) (fun c1082 => ?_)
                                            · refine lv_iconst (v := 0) hx hb dX12_paint_75 (by decide) ?_
                                              refine lz_astc hx hb hK hP hD hS 2 0 rfl rfl (lz_vp (x := 46) (n := 160) (by decide) (by decide)) dX12_paint_76 (fun H locs hP hD hS => ?_)
                                              refine lv_iinc (v := 7) (lv' := [(3, .int 7), (0, .ref h0), (1, .int 1), (2, .int x1)]) hx hb dX12_paint_77 hl (k := 0) rfl (by decide) (by decide) rfl (fun ls hl => ?_)
                                              refine lv_goto (tgt := 42) hx hb dX12_paint_80 (by decide) ?_
                                              refine lv_iload_n hx hb dX12_paint_42 rfl (lv_at hl 0 rfl) ?_
                                              refine lv_bipush (v := 40) hx hb dX12_paint_43 (by decide) ?_
                                              refine lv_icmp_ge (tgt := 83) hx hb dX12_paint_45 (by decide) (fun c1083 => ?_) (fun c1083 => ?_)
                                              · exact absurd c1083 (by decide)
                                              · refine lv_aload_n hx hb dX12_paint_48 rfl (lv_at hl 1 rfl) ?_
                                                refine va_get (D := D) (ci := 12) (v := .ref h11) (C := RX12) (T := TX12) (N := 24) hx hb hts hin12 hown hK hP 3 rfl rfl 18 (by decide) (hts (.fieldLink RX12 44 "MissedPointsModel" "items" "[I") (by decide +kernel)) (fun _ h9 => h9) rfl dX12_paint_49 ?_
                                                refine lv_bipush (v := 40) hx hb dX12_paint_52 (by decide) ?_
                                                refine lv_iload_n hx hb dX12_paint_54 rfl (lv_at hl 2 rfl) ?_
                                                refine lv_imul hx hb dX12_paint_55 ?_
                                                refine lz_top (y := 40) (by decide) ?_
                                                refine lv_iload_n hx hb dX12_paint_56 rfl (lv_at hl 0 rfl) ?_
                                                refine lv_iadd hx hb dX12_paint_57 ?_
                                                refine lz_top (y := 47) (by decide) ?_
                                                refine lv_iload_n hx hb dX12_paint_58 rfl (lv_at hl 0 rfl) ?_
                                                refine lv_aload_n hx hb dX12_paint_59 rfl (lv_at hl 1 rfl) ?_
                                                refine va_get (D := D) (ci := 12) (v := .int 0) (C := RX12) (T := TX12) (N := 24) hx hb hts hin12 hown hK hP 3 rfl rfl 0 (by decide) (hts (.fieldLink RX12 63 "MissedPointsModel" "many" "I") (by decide +kernel)) (fun _ h9 => h9) rfl dX12_paint_60 ?_
                                                refine lv_icmp_ge (tgt := 75) hx hb dX12_paint_63 (by decide) (fun c1084 => ?_) (fun c1084 => ?_)
                                                · refine lv_iconst (v := 0) hx hb dX12_paint_75 (by decide) ?_
                                                  refine lz_astc hx hb hK hP hD hS 2 0 rfl rfl (lz_vp (x := 47) (n := 160) (by decide) (by decide)) dX12_paint_76 (fun H locs hP hD hS => ?_)
                                                  refine lv_iinc (v := 8) (lv' := [(3, .int 8), (0, .ref h0), (1, .int 1), (2, .int x1)]) hx hb dX12_paint_77 hl (k := 0) rfl (by decide) (by decide) rfl (fun ls hl => ?_)
                                                  refine lv_goto (tgt := 42) hx hb dX12_paint_80 (by decide) ?_
                                                  refine lv_iload_n hx hb dX12_paint_42 rfl (lv_at hl 0 rfl) ?_
                                                  refine lv_bipush (v := 40) hx hb dX12_paint_43 (by decide) ?_
                                                  refine lv_icmp_ge (tgt := 83) hx hb dX12_paint_45 (by decide) (fun c1085 => ?_) (fun c1085 => ?_)
                                                  · exact absurd c1085 (by decide)
                                                  · refine lv_aload_n hx hb dX12_paint_48 rfl (lv_at hl 1 rfl) ?_
                                                    refine va_get (D := D) (ci := 12) (v := .ref h11) (C := RX12) (T := TX12) (N := 24) hx hb hts hin12 hown hK hP 3 rfl rfl 18 (by decide) (hts (.fieldLink RX12 44 "MissedPointsModel" "items" "[I") (by decide +kernel)) (fun _ h9 => h9) rfl dX12_paint_49 ?_
                                                    refine lv_bipush (v := 40) hx hb dX12_paint_52 (by decide) ?_
                                                    refine lv_iload_n hx hb dX12_paint_54 rfl (lv_at hl 2 rfl) ?_
                                                    refine lv_imul hx hb dX12_paint_55 ?_
                                                    refine lz_top (y := 40) (by decide) ?_
                                                    refine lv_iload_n hx hb dX12_paint_56 rfl (lv_at hl 0 rfl) ?_
                                                    refine lv_iadd hx hb dX12_paint_57 ?_
                                                    refine lz_top (y := 48) (by decide) ?_
                                                    refine lv_iload_n hx hb dX12_paint_58 rfl (lv_at hl 0 rfl) ?_
                                                    refine lv_aload_n hx hb dX12_paint_59 rfl (lv_at hl 1 rfl) ?_
                                                    refine va_get (D := D) (ci := 12) (v := .int 0) (C := RX12) (T := TX12) (N := 24) hx hb hts hin12 hown hK hP 3 rfl rfl 0 (by decide) (hts (.fieldLink RX12 63 "MissedPointsModel" "many" "I") (by decide +kernel)) (fun _ h9 => h9) rfl dX12_paint_60 ?_
                                                    refine lv_icmp_ge (tgt := 75) hx hb dX12_paint_63 (by decide) (fun c1086 => ?_) (fun c1086 => ?_)
                                                    · refine lv_iconst (v := 0) hx hb dX12_paint_75 (by decide) ?_
                                                      refine lz_astc hx hb hK hP hD hS 2 0 rfl rfl (lz_vp (x := 48) (n := 160) (by decide) (by decide)) dX12_paint_76 (fun H locs hP hD hS => ?_)
                                                      refine lv_iinc (v := 9) (lv' := [(3, .int 9), (0, .ref h0), (1, .int 1), (2, .int x1)]) hx hb dX12_paint_77 hl (k := 0) rfl (by decide) (by decide) rfl (fun ls hl => ?_)
                                                      refine lv_goto (tgt := 42) hx hb dX12_paint_80 (by decide) ?_
                                                      refine lv_iload_n hx hb dX12_paint_42 rfl (lv_at hl 0 rfl) ?_
                                                      refine lv_bipush (v := 40) hx hb dX12_paint_43 (by decide) ?_
                                                      refine lv_icmp_ge (tgt := 83) hx hb dX12_paint_45 (by decide) (fun c1087 => ?_) (fun c1087 => ?_)
                                                      · exact absurd c1087 (by decide)
                                                      · refine lv_aload_n hx hb dX12_paint_48 rfl (lv_at hl 1 rfl) ?_
                                                        refine va_get (D := D) (ci := 12) (v := .ref h11) (C := RX12) (T := TX12) (N := 24) hx hb hts hin12 hown hK hP 3 rfl rfl 18 (by decide) (hts (.fieldLink RX12 44 "MissedPointsModel" "items" "[I") (by decide +kernel)) (fun _ h9 => h9) rfl dX12_paint_49 ?_
                                                        refine lv_bipush (v := 40) hx hb dX12_paint_52 (by decide) ?_
                                                        refine lv_iload_n hx hb dX12_paint_54 rfl (lv_at hl 2 rfl) ?_
                                                        refine lv_imul hx hb dX12_paint_55 ?_
                                                        refine lz_top (y := 40) (by decide) ?_
                                                        refine lv_iload_n hx hb dX12_paint_56 rfl (lv_at hl 0 rfl) ?_
                                                        refine lv_iadd hx hb dX12_paint_57 ?_
                                                        refine lz_top (y := 49) (by decide) ?_
                                                        refine lv_iload_n hx hb dX12_paint_58 rfl (lv_at hl 0 rfl) ?_
                                                        refine lv_aload_n hx hb dX12_paint_59 rfl (lv_at hl 1 rfl) ?_
                                                        refine va_get (D := D) (ci := 12) (v := .int 0) (C := RX12) (T := TX12) (N := 24) hx hb hts hin12 hown hK hP 3 rfl rfl 0 (by decide) (hts (.fieldLink RX12 63 "MissedPointsModel" "many" "I") (by decide +kernel)) (fun _ h9 => h9) rfl dX12_paint_60 ?_
                                                        refine lv_icmp_ge (tgt := 75) hx hb dX12_paint_63 (by decide) (fun c1088 => ?_) (fun c1088 => ?_)
                                                        · refine lv_iconst (v := 0) hx hb dX12_paint_75 (by decide) ?_
                                                          refine lz_astc hx hb hK hP hD hS 2 0 rfl rfl (lz_vp (x := 49) (n := 160) (by decide) (by decide)) dX12_paint_76 (fun H locs hP hD hS => ?_)
                                                          refine lv_iinc (v := 10) (lv' := [(3, .int 10), (0, .ref h0), (1, .int 1), (2, .int x1)]) hx hb dX12_paint_77 hl (k := 0) rfl (by decide) (by decide) rfl (fun ls hl => ?_)
                                                          refine lv_goto (tgt := 42) hx hb dX12_paint_80 (by decide) ?_
                                                          refine lv_iload_n hx hb dX12_paint_42 rfl (lv_at hl 0 rfl) ?_
                                                          refine lv_bipush (v := 40) hx hb dX12_paint_43 (by decide) ?_
                                                          refine lv_icmp_ge (tgt := 83) hx hb dX12_paint_45 (by decide) (fun c1089 => ?_) (fun c1089 => ?_)
                                                          · exact absurd c1089 (by decide)
                                                          · refine lv_aload_n hx hb dX12_paint_48 rfl (lv_at hl 1 rfl) ?_
                                                            refine va_get (D := D) (ci := 12) (v := .ref h11) (C := RX12) (T := TX12) (N := 24) hx hb hts hin12 hown hK hP 3 rfl rfl 18 (by decide) (hts (.fieldLink RX12 44 "MissedPointsModel" "items" "[I") (by decide +kernel)) (fun _ h9 => h9) rfl dX12_paint_49 ?_
                                                            refine lv_bipush (v := 40) hx hb dX12_paint_52 (by decide) ?_
                                                            refine lv_iload_n hx hb dX12_paint_54 rfl (lv_at hl 2 rfl) ?_
                                                            refine lv_imul hx hb dX12_paint_55 ?_
                                                            refine lz_top (y := 40) (by decide) ?_
                                                            refine lv_iload_n hx hb dX12_paint_56 rfl (lv_at hl 0 rfl) ?_
                                                            refine lv_iadd hx hb dX12_paint_57 ?_
                                                            refine lz_top (y := 50) (by decide) ?_
                                                            refine lv_iload_n hx hb dX12_paint_58 rfl (lv_at hl 0 rfl) ?_
                                                            refine lv_aload_n hx hb dX12_paint_59 rfl (lv_at hl 1 rfl) ?_
                                                            refine va_get (D := D) (ci := 12) (v := .int 0) (C := RX12) (T := TX12) (N := 24) hx hb hts hin12 hown hK hP 3 rfl rfl 0 (by decide) (hts (.fieldLink RX12 63 "MissedPointsModel" "many" "I") (by decide +kernel)) (fun _ h9 => h9) rfl dX12_paint_60 ?_
                                                            refine lv_icmp_ge (tgt := 75) hx hb dX12_paint_63 (by decide) (fun c1090 => ?_) (fun c1090 => ?_)
                                                            · refine lv_iconst (v := 0) hx hb dX12_paint_75 (by decide) ?_
                                                              refine lz_astc hx hb hK hP hD hS 2 0 rfl rfl (lz_vp (x := 50) (n := 160) (by decide) (by decide)) dX12_paint_76 (fun H locs hP hD hS => ?_)
                                                              refine lv_iinc (v := 11) (lv' := [(3, .int 11), (0, .ref h0), (1, .int 1), (2, .int x1)]) hx hb dX12_paint_77 hl (k := 0) rfl (by decide) (by decide) rfl (fun ls hl => ?_)
                                                              refine lv_goto (tgt := 42) hx hb dX12_paint_80 (by decide) ?_
                                                              refine lv_iload_n hx hb dX12_paint_42 rfl (lv_at hl 0 rfl) ?_
                                                              refine lv_bipush (v := 40) hx hb dX12_paint_43 (by decide) ?_
                                                              refine lv_icmp_ge (tgt := 83) hx hb dX12_paint_45 (by decide) (fun c1091 => ?_) (fun c1091 => ?_)
                                                              · exact absurd c1091 (by decide)
                                                              · refine lv_aload_n hx hb dX12_paint_48 rfl (lv_at hl 1 rfl) ?_
                                                                refine va_get (D := D) (ci := 12) (v := .ref h11) (C := RX12) (T := TX12) (N := 24) hx hb hts hin12 hown hK hP 3 rfl rfl 18 (by decide) (hts (.fieldLink RX12 44 "MissedPointsModel" "items" "[I") (by decide +kernel)) (fun _ h9 => h9) rfl dX12_paint_49 ?_
                                                                refine lv_bipush (v := 40) hx hb dX12_paint_52 (by decide) ?_
                                                                refine lv_iload_n hx hb dX12_paint_54 rfl (lv_at hl 2 rfl) ?_
                                                                refine lv_imul hx hb dX12_paint_55 ?_
                                                                refine lz_top (y := 40) (by decide) ?_
                                                                refine lv_iload_n hx hb dX12_paint_56 rfl (lv_at hl 0 rfl) ?_
                                                                refine lv_iadd hx hb dX12_paint_57 ?_
                                                                refine lz_top (y := 51) (by decide) ?_
                                                                refine lv_iload_n hx hb dX12_paint_58 rfl (lv_at hl 0 rfl) ?_
                                                                refine lv_aload_n hx hb dX12_paint_59 rfl (lv_at hl 1 rfl) ?_
                                                                refine va_get (D := D) (ci := 12) (v := .int 0) (C := RX12) (T := TX12) (N := 24) hx hb hts hin12 hown hK hP 3 rfl rfl 0 (by decide) (hts (.fieldLink RX12 63 "MissedPointsModel" "many" "I") (by decide +kernel)) (fun _ h9 => h9) rfl dX12_paint_60 ?_
                                                                refine lv_icmp_ge (tgt := 75) hx hb dX12_paint_63 (by decide) (fun c1092 => ?_) (fun c1092 => ?_)
                                                                · refine lv_iconst (v := 0) hx hb dX12_paint_75 (by decide) ?_
                                                                  refine lz_astc hx hb hK hP hD hS 2 0 rfl rfl (lz_vp (x := 51) (n := 160) (by decide) (by decide)) dX12_paint_76 (fun H locs hP hD hS => ?_)
                                                                  refine lv_iinc (v := 12) (lv' := [(3, .int 12), (0, .ref h0), (1, .int 1), (2, .int x1)]) hx hb dX12_paint_77 hl (k := 0) rfl (by decide) (by decide) rfl (fun ls hl => ?_)
                                                                  refine lv_goto (tgt := 42) hx hb dX12_paint_80 (by decide) ?_
                                                                  refine lv_iload_n hx hb dX12_paint_42 rfl (lv_at hl 0 rfl) ?_
                                                                  refine lv_bipush (v := 40) hx hb dX12_paint_43 (by decide) ?_
                                                                  refine lv_icmp_ge (tgt := 83) hx hb dX12_paint_45 (by decide) (fun c1093 => ?_) (fun c1093 => ?_)
                                                                  · exact absurd c1093 (by decide)
                                                                  · refine lv_aload_n hx hb dX12_paint_48 rfl (lv_at hl 1 rfl) ?_
                                                                    refine va_get (D := D) (ci := 12) (v := .ref h11) (C := RX12) (T := TX12) (N := 24) hx hb hts hin12 hown hK hP 3 rfl rfl 18 (by decide) (hts (.fieldLink RX12 44 "MissedPointsModel" "items" "[I") (by decide +kernel)) (fun _ h9 => h9) rfl dX12_paint_49 ?_
                                                                    refine lv_bipush (v := 40) hx hb dX12_paint_52 (by decide) ?_
                                                                    refine lv_iload_n hx hb dX12_paint_54 rfl (lv_at hl 2 rfl) ?_
                                                                    refine lv_imul hx hb dX12_paint_55 ?_
                                                                    refine lz_top (y := 40) (by decide) ?_
                                                                    refine lv_iload_n hx hb dX12_paint_56 rfl (lv_at hl 0 rfl) ?_
                                                                    refine lv_iadd hx hb dX12_paint_57 ?_
                                                                    refine lz_top (y := 52) (by decide) ?_
                                                                    refine lv_iload_n hx hb dX12_paint_58 rfl (lv_at hl 0 rfl) ?_
                                                                    refine lv_aload_n hx hb dX12_paint_59 rfl (lv_at hl 1 rfl) ?_
                                                                    refine va_get (D := D) (ci := 12) (v := .int 0) (C := RX12) (T := TX12) (N := 24) hx hb hts hin12 hown hK hP 3 rfl rfl 0 (by decide) (hts (.fieldLink RX12 63 "MissedPointsModel" "many" "I") (by decide +kernel)) (fun _ h9 => h9) rfl dX12_paint_60 ?_
                                                                    refine lv_icmp_ge (tgt := 75) hx hb dX12_paint_63 (by decide) (fun c1094 => ?_) (fun c1094 => ?_)
                                                                    · refine lv_iconst (v := 0) hx hb dX12_paint_75 (by decide) ?_
                                                                      refine lz_astc hx hb hK hP hD hS 2 0 rfl rfl (lz_vp (x := 52) (n := 160) (by decide) (by decide)) dX12_paint_76 (fun H locs hP hD hS => ?_)
                                                                      refine lv_iinc (v := 13) (lv' := [(3, .int 13), (0, .ref h0), (1, .int 1), (2, .int x1)]) hx hb dX12_paint_77 hl (k := 0) rfl (by decide) (by decide) rfl (fun ls hl => ?_)
                                                                      refine lv_goto (tgt := 42) hx hb dX12_paint_80 (by decide) ?_
                                                                      refine lv_iload_n hx hb dX12_paint_42 rfl (lv_at hl 0 rfl) ?_
                                                                      refine lv_bipush (v := 40) hx hb dX12_paint_43 (by decide) ?_
                                                                      refine lv_icmp_ge (tgt := 83) hx hb dX12_paint_45 (by decide) (fun c1095 => ?_) (fun c1095 => ?_)
                                                                      · exact absurd c1095 (by decide)
                                                                      · refine lv_aload_n hx hb dX12_paint_48 rfl (lv_at hl 1 rfl) ?_
                                                                        refine va_get (D := D) (ci := 12) (v := .ref h11) (C := RX12) (T := TX12) (N := 24) hx hb hts hin12 hown hK hP 3 rfl rfl 18 (by decide) (hts (.fieldLink RX12 44 "MissedPointsModel" "items" "[I") (by decide +kernel)) (fun _ h9 => h9) rfl dX12_paint_49 ?_
                                                                        refine lv_bipush (v := 40) hx hb dX12_paint_52 (by decide) ?_
                                                                        refine lv_iload_n hx hb dX12_paint_54 rfl (lv_at hl 2 rfl) ?_
                                                                        refine lv_imul hx hb dX12_paint_55 ?_
                                                                        refine lz_top (y := 40) (by decide) ?_
                                                                        refine lv_iload_n hx hb dX12_paint_56 rfl (lv_at hl 0 rfl) ?_
                                                                        refine lv_iadd hx hb dX12_paint_57 ?_
                                                                        refine lz_top (y := 53) (by decide) ?_
                                                                        refine lv_iload_n hx hb dX12_paint_58 rfl (lv_at hl 0 rfl) ?_
                                                                        refine lv_aload_n hx hb dX12_paint_59 rfl (lv_at hl 1 rfl) ?_
                                                                        refine va_get (D := D) (ci := 12) (v := .int 0) (C := RX12) (T := TX12) (N := 24) hx hb hts hin12 hown hK hP 3 rfl rfl 0 (by decide) (hts (.fieldLink RX12 63 "MissedPointsModel" "many" "I") (by decide +kernel)) (fun _ h9 => h9) rfl dX12_paint_60 ?_
                                                                        refine lv_icmp_ge (tgt := 75) hx hb dX12_paint_63 (by decide) (fun c1096 => ?_) (fun c1096 => ?_)
                                                                        · refine lv_iconst (v := 0) hx hb dX12_paint_75 (by decide) ?_
                                                                          refine lz_astc hx hb hK hP hD hS 2 0 rfl rfl (lz_vp (x := 53) (n := 160) (by decide) (by decide)) dX12_paint_76 (fun H locs hP hD hS => ?_)
                                                                          refine lv_iinc (v := 14) (lv' := [(3, .int 14), (0, .ref h0), (1, .int 1), (2, .int x1)]) hx hb dX12_paint_77 hl (k := 0) rfl (by decide) (by decide) rfl (fun ls hl => ?_)
                                                                          refine lv_goto (tgt := 42) hx hb dX12_paint_80 (by decide) ?_
                                                                          refine lv_iload_n hx hb dX12_paint_42 rfl (lv_at hl 0 rfl) ?_
                                                                          refine lv_bipush (v := 40) hx hb dX12_paint_43 (by decide) ?_
                                                                          refine lv_icmp_ge (tgt := 83) hx hb dX12_paint_45 (by decide) (fun c1097 => ?_) (fun c1097 => ?_)
                                                                          · exact absurd c1097 (by decide)
                                                                          · refine lv_aload_n hx hb dX12_paint_48 rfl (lv_at hl 1 rfl) ?_
                                                                            refine va_get (D := D) (ci := 12) (v := .ref h11) (C := RX12) (T := TX12) (N := 24) hx hb hts hin12 hown hK hP 3 rfl rfl 18 (by decide) (hts (.fieldLink RX12 44 "MissedPointsModel" "items" "[I") (by decide +kernel)) (fun _ h9 => h9) rfl dX12_paint_49 ?_
                                                                            refine lv_bipush (v := 40) hx hb dX12_paint_52 (by decide) ?_
                                                                            refine lv_iload_n hx hb dX12_paint_54 rfl (lv_at hl 2 rfl) ?_
                                                                            refine lv_imul hx hb dX12_paint_55 ?_
                                                                            refine lz_top (y := 40) (by decide) ?_
                                                                            refine lv_iload_n hx hb dX12_paint_56 rfl (lv_at hl 0 rfl) ?_
                                                                            refine lv_iadd hx hb dX12_paint_57 ?_
                                                                            refine lz_top (y := 54) (by decide) ?_
                                                                            refine lv_iload_n hx hb dX12_paint_58 rfl (lv_at hl 0 rfl) ?_
                                                                            refine lv_aload_n hx hb dX12_paint_59 rfl (lv_at hl 1 rfl) ?_
                                                                            refine va_get (D := D) (ci := 12) (v := .int 0) (C := RX12) (T := TX12) (N := 24) hx hb hts hin12 hown hK hP 3 rfl rfl 0 (by decide) (hts (.fieldLink RX12 63 "MissedPointsModel" "many" "I") (by decide +kernel)) (fun _ h9 => h9) rfl dX12_paint_60 ?_
                                                                            refine lv_icmp_ge (tgt := 75) hx hb dX12_paint_63 (by decide) (fun c1098 => ?_) (fun c1098 => ?_)
                                                                            · refine lv_iconst (v := 0) hx hb dX12_paint_75 (by decide) ?_
                                                                              refine lz_astc hx hb hK hP hD hS 2 0 rfl rfl (lz_vp (x := 54) (n := 160) (by decide) (by decide)) dX12_paint_76 (fun H locs hP hD hS => ?_)
                                                                              refine lv_iinc (v := 15) (lv' := [(3, .int 15), (0, .ref h0), (1, .int 1), (2, .int x1)]) hx hb dX12_paint_77 hl (k := 0) rfl (by decide) (by decide) rfl (fun ls hl => ?_)
                                                                              refine lv_goto (tgt := 42) hx hb dX12_paint_80 (by decide) ?_
                                                                              refine lv_iload_n hx hb dX12_paint_42 rfl (lv_at hl 0 rfl) ?_
                                                                              refine lv_bipush (v := 40) hx hb dX12_paint_43 (by decide) ?_
                                                                              refine lv_icmp_ge (tgt := 83) hx hb dX12_paint_45 (by decide) (fun c1099 => ?_) (fun c1099 => ?_)
                                                                              · exact absurd c1099 (by decide)
                                                                              · refine lv_aload_n hx hb dX12_paint_48 rfl (lv_at hl 1 rfl) ?_
                                                                                refine va_get (D := D) (ci := 12) (v := .ref h11) (C := RX12) (T := TX12) (N := 24) hx hb hts hin12 hown hK hP 3 rfl rfl 18 (by decide) (hts (.fieldLink RX12 44 "MissedPointsModel" "items" "[I") (by decide +kernel)) (fun _ h9 => h9) rfl dX12_paint_49 ?_
                                                                                refine lv_bipush (v := 40) hx hb dX12_paint_52 (by decide) ?_
                                                                                refine lv_iload_n hx hb dX12_paint_54 rfl (lv_at hl 2 rfl) ?_
                                                                                refine lv_imul hx hb dX12_paint_55 ?_
                                                                                refine lz_top (y := 40) (by decide) ?_
                                                                                refine lv_iload_n hx hb dX12_paint_56 rfl (lv_at hl 0 rfl) ?_
                                                                                refine lv_iadd hx hb dX12_paint_57 ?_
                                                                                refine lz_top (y := 55) (by decide) ?_
                                                                                refine lv_iload_n hx hb dX12_paint_58 rfl (lv_at hl 0 rfl) ?_
                                                                                refine lv_aload_n hx hb dX12_paint_59 rfl (lv_at hl 1 rfl) ?_
                                                                                refine va_get (D := D) (ci := 12) (v := .int 0) (C := RX12) (T := TX12) (N := 24) hx hb hts hin12 hown hK hP 3 rfl rfl 0 (by decide) (hts (.fieldLink RX12 63 "MissedPointsModel" "many" "I") (by decide +kernel)) (fun _ h9 => h9) rfl dX12_paint_60 ?_
                                                                                refine lv_icmp_ge (tgt := 75) hx hb dX12_paint_63 (by decide) (fun c1100 => ?_) (fun c1100 => ?_)
                                                                                · refine lv_iconst (v := 0) hx hb dX12_paint_75 (by decide) ?_
                                                                                  refine lz_astc hx hb hK hP hD hS 2 0 rfl rfl (lz_vp (x := 55) (n := 160) (by decide) (by decide)) dX12_paint_76 (fun H locs hP hD hS => ?_)
                                                                                  refine lv_iinc (v := 16) (lv' := [(3, .int 16), (0, .ref h0), (1, .int 1), (2, .int x1)]) hx hb dX12_paint_77 hl (k := 0) rfl (by decide) (by decide) rfl (fun ls hl => ?_)
                                                                                  refine lv_goto (tgt := 42) hx hb dX12_paint_80 (by decide) ?_
                                                                                  refine lv_iload_n hx hb dX12_paint_42 rfl (lv_at hl 0 rfl) ?_
                                                                                  refine lv_bipush (v := 40) hx hb dX12_paint_43 (by decide) ?_
                                                                                  refine lv_icmp_ge (tgt := 83) hx hb dX12_paint_45 (by decide) (fun c1101 => ?_) (fun c1101 => ?_)
                                                                                  · exact absurd c1101 (by decide)
                                                                                  · refine lv_aload_n hx hb dX12_paint_48 rfl (lv_at hl 1 rfl) ?_
                                                                                    refine va_get (D := D) (ci := 12) (v := .ref h11) (C := RX12) (T := TX12) (N := 24) hx hb hts hin12 hown hK hP 3 rfl rfl 18 (by decide) (hts (.fieldLink RX12 44 "MissedPointsModel" "items" "[I") (by decide +kernel)) (fun _ h9 => h9) rfl dX12_paint_49 ?_
                                                                                    refine lv_bipush (v := 40) hx hb dX12_paint_52 (by decide) ?_
                                                                                    refine lv_iload_n hx hb dX12_paint_54 rfl (lv_at hl 2 rfl) ?_
                                                                                    refine lv_imul hx hb dX12_paint_55 ?_
                                                                                    refine lz_top (y := 40) (by decide) ?_
                                                                                    refine lv_iload_n hx hb dX12_paint_56 rfl (lv_at hl 0 rfl) ?_
                                                                                    refine lv_iadd hx hb dX12_paint_57 ?_
                                                                                    refine lz_top (y := 56) (by decide) ?_
                                                                                    refine lv_iload_n hx hb dX12_paint_58 rfl (lv_at hl 0 rfl) ?_
                                                                                    refine lv_aload_n hx hb dX12_paint_59 rfl (lv_at hl 1 rfl) ?_
                                                                                    refine va_get (D := D) (ci := 12) (v := .int 0) (C := RX12) (T := TX12) (N := 24) hx hb hts hin12 hown hK hP 3 rfl rfl 0 (by decide) (hts (.fieldLink RX12 63 "MissedPointsModel" "many" "I") (by decide +kernel)) (fun _ h9 => h9) rfl dX12_paint_60 ?_
                                                                                    refine lv_icmp_ge (tgt := 75) hx hb dX12_paint_63 (by decide) (fun c1102 => ?_) (fun c1102 => ?_)
                                                                                    · refine lv_iconst (v := 0) hx hb dX12_paint_75 (by decide) ?_
                                                                                      refine lz_astc hx hb hK hP hD hS 2 0 rfl rfl (lz_vp (x := 56) (n := 160) (by decide) (by decide)) dX12_paint_76 (fun H locs hP hD hS => ?_)
                                                                                      refine lv_iinc (v := 17) (lv' := [(3, .int 17), (0, .ref h0), (1, .int 1), (2, .int x1)]) hx hb dX12_paint_77 hl (k := 0) rfl (by decide) (by decide) rfl (fun ls hl => ?_)
                                                                                      refine lv_goto (tgt := 42) hx hb dX12_paint_80 (by decide) ?_
                                                                                      refine lv_iload_n hx hb dX12_paint_42 rfl (lv_at hl 0 rfl) ?_
                                                                                      refine lv_bipush (v := 40) hx hb dX12_paint_43 (by decide) ?_
                                                                                      refine lv_icmp_ge (tgt := 83) hx hb dX12_paint_45 (by decide) (fun c1103 => ?_) (fun c1103 => ?_)
                                                                                      · exact absurd c1103 (by decide)
                                                                                      · refine lv_aload_n hx hb dX12_paint_48 rfl (lv_at hl 1 rfl) ?_
                                                                                        refine va_get (D := D) (ci := 12) (v := .ref h11) (C := RX12) (T := TX12) (N := 24) hx hb hts hin12 hown hK hP 3 rfl rfl 18 (by decide) (hts (.fieldLink RX12 44 "MissedPointsModel" "items" "[I") (by decide +kernel)) (fun _ h9 => h9) rfl dX12_paint_49 ?_
                                                                                        refine lv_bipush (v := 40) hx hb dX12_paint_52 (by decide) ?_
                                                                                        refine lv_iload_n hx hb dX12_paint_54 rfl (lv_at hl 2 rfl) ?_
                                                                                        refine lv_imul hx hb dX12_paint_55 ?_
                                                                                        refine lz_top (y := 40) (by decide) ?_
                                                                                        refine lv_iload_n hx hb dX12_paint_56 rfl (lv_at hl 0 rfl) ?_
                                                                                        refine lv_iadd hx hb dX12_paint_57 ?_
                                                                                        refine lz_top (y := 57) (by decide) ?_
                                                                                        refine lv_iload_n hx hb dX12_paint_58 rfl (lv_at hl 0 rfl) ?_
                                                                                        refine lv_aload_n hx hb dX12_paint_59 rfl (lv_at hl 1 rfl) ?_
                                                                                        refine va_get (D := D) (ci := 12) (v := .int 0) (C := RX12) (T := TX12) (N := 24) hx hb hts hin12 hown hK hP 3 rfl rfl 0 (by decide) (hts (.fieldLink RX12 63 "MissedPointsModel" "many" "I") (by decide +kernel)) (fun _ h9 => h9) rfl dX12_paint_60 ?_
                                                                                        refine lv_icmp_ge (tgt := 75) hx hb dX12_paint_63 (by decide) (fun c1104 => ?_) (fun c1104 => ?_)
                                                                                        · refine lv_iconst (v := 0) hx hb dX12_paint_75 (by decide) ?_
                                                                                          refine lz_astc hx hb hK hP hD hS 2 0 rfl rfl (lz_vp (x := 57) (n := 160) (by decide) (by decide)) dX12_paint_76 (fun H locs hP hD hS => ?_)
                                                                                          refine lv_iinc (v := 18) (lv' := [(3, .int 18), (0, .ref h0), (1, .int 1), (2, .int x1)]) hx hb dX12_paint_77 hl (k := 0) rfl (by decide) (by decide) rfl (fun ls hl => ?_)
                                                                                          refine lv_goto (tgt := 42) hx hb dX12_paint_80 (by decide) ?_
                                                                                          refine lv_iload_n hx hb dX12_paint_42 rfl (lv_at hl 0 rfl) ?_
                                                                                          refine lv_bipush (v := 40) hx hb dX12_paint_43 (by decide) ?_
                                                                                          refine lv_icmp_ge (tgt := 83) hx hb dX12_paint_45 (by decide) (fun c1105 => ?_) (fun c1105 => ?_)
                                                                                          · exact absurd c1105 (by decide)
                                                                                          · refine lv_aload_n hx hb dX12_paint_48 rfl (lv_at hl 1 rfl) ?_
                                                                                            refine va_get (D := D) (ci := 12) (v := .ref h11) (C := RX12) (T := TX12) (N := 24) hx hb hts hin12 hown hK hP 3 rfl rfl 18 (by decide) (hts (.fieldLink RX12 44 "MissedPointsModel" "items" "[I") (by decide +kernel)) (fun _ h9 => h9) rfl dX12_paint_49 ?_
                                                                                            refine lv_bipush (v := 40) hx hb dX12_paint_52 (by decide) ?_
                                                                                            refine lv_iload_n hx hb dX12_paint_54 rfl (lv_at hl 2 rfl) ?_
                                                                                            refine lv_imul hx hb dX12_paint_55 ?_
                                                                                            refine lz_top (y := 40) (by decide) ?_
                                                                                            refine lv_iload_n hx hb dX12_paint_56 rfl (lv_at hl 0 rfl) ?_
                                                                                            refine lv_iadd hx hb dX12_paint_57 ?_
                                                                                            refine lz_top (y := 58) (by decide) ?_
                                                                                            refine lv_iload_n hx hb dX12_paint_58 rfl (lv_at hl 0 rfl) ?_
                                                                                            refine lv_aload_n hx hb dX12_paint_59 rfl (lv_at hl 1 rfl) ?_
                                                                                            refine va_get (D := D) (ci := 12) (v := .int 0) (C := RX12) (T := TX12) (N := 24) hx hb hts hin12 hown hK hP 3 rfl rfl 0 (by decide) (hts (.fieldLink RX12 63 "MissedPointsModel" "many" "I") (by decide +kernel)) (fun _ h9 => h9) rfl dX12_paint_60 ?_
                                                                                            refine lv_icmp_ge (tgt := 75) hx hb dX12_paint_63 (by decide) (fun c1106 => ?_) (fun c1106 => ?_)
                                                                                            · refine lv_iconst (v := 0) hx hb dX12_paint_75 (by decide) ?_
                                                                                              refine lz_astc hx hb hK hP hD hS 2 0 rfl rfl (lz_vp (x := 58) (n := 160) (by decide) (by decide)) dX12_paint_76 (fun H locs hP hD hS => ?_)
                                                                                              refine lv_iinc (v := 19) (lv' := [(3, .int 19), (0, .ref h0), (1, .int 1), (2, .int x1)]) hx hb dX12_paint_77 hl (k := 0) rfl (by decide) (by decide) rfl (fun ls hl => ?_)
                                                                                              refine lv_goto (tgt := 42) hx hb dX12_paint_80 (by decide) ?_
                                                                                              refine lv_iload_n hx hb dX12_paint_42 rfl (lv_at hl 0 rfl) ?_
                                                                                              refine lv_bipush (v := 40) hx hb dX12_paint_43 (by decide) ?_
                                                                                              refine lv_icmp_ge (tgt := 83) hx hb dX12_paint_45 (by decide) (fun c1107 => ?_) (fun c1107 => ?_)
                                                                                              · exact absurd c1107 (by decide)
                                                                                              · refine lv_aload_n hx hb dX12_paint_48 rfl (lv_at hl 1 rfl) ?_
                                                                                                refine va_get (D := D) (ci := 12) (v := .ref h11) (C := RX12) (T := TX12) (N := 24) hx hb hts hin12 hown hK hP 3 rfl rfl 18 (by decide) (hts (.fieldLink RX12 44 "MissedPointsModel" "items" "[I") (by decide +kernel)) (fun _ h9 => h9) rfl dX12_paint_49 ?_
                                                                                                refine lv_bipush (v := 40) hx hb dX12_paint_52 (by decide) ?_
                                                                                                refine lv_iload_n hx hb dX12_paint_54 rfl (lv_at hl 2 rfl) ?_
                                                                                                refine lv_imul hx hb dX12_paint_55 ?_
                                                                                                refine lz_top (y := 40) (by decide) ?_
                                                                                                refine lv_iload_n hx hb dX12_paint_56 rfl (lv_at hl 0 rfl) ?_
                                                                                                refine lv_iadd hx hb dX12_paint_57 ?_
                                                                                                refine lz_top (y := 59) (by decide) ?_
                                                                                                refine lv_iload_n hx hb dX12_paint_58 rfl (lv_at hl 0 rfl) ?_
                                                                                                refine lv_aload_n hx hb dX12_paint_59 rfl (lv_at hl 1 rfl) ?_
                                                                                                refine va_get (D := D) (ci := 12) (v := .int 0) (C := RX12) (T := TX12) (N := 24) hx hb hts hin12 hown hK hP 3 rfl rfl 0 (by decide) (hts (.fieldLink RX12 63 "MissedPointsModel" "many" "I") (by decide +kernel)) (fun _ h9 => h9) rfl dX12_paint_60 ?_
                                                                                                refine lv_icmp_ge (tgt := 75) hx hb dX12_paint_63 (by decide) (fun c1108 => ?_) (fun c1108 => ?_)
                                                                                                · refine lv_iconst (v := 0) hx hb dX12_paint_75 (by decide) ?_
                                                                                                  refine lz_astc hx hb hK hP hD hS 2 0 rfl rfl (lz_vp (x := 59) (n := 160) (by decide) (by decide)) dX12_paint_76 (fun H locs hP hD hS => ?_)
                                                                                                  refine lv_iinc (v := 20) (lv' := [(3, .int 20), (0, .ref h0), (1, .int 1), (2, .int x1)]) hx hb dX12_paint_77 hl (k := 0) rfl (by decide) (by decide) rfl (fun ls hl => ?_)
                                                                                                  refine lv_goto (tgt := 42) hx hb dX12_paint_80 (by decide) ?_
                                                                                                  refine lv_iload_n hx hb dX12_paint_42 rfl (lv_at hl 0 rfl) ?_
                                                                                                  refine lv_bipush (v := 40) hx hb dX12_paint_43 (by decide) ?_
                                                                                                  refine lv_icmp_ge (tgt := 83) hx hb dX12_paint_45 (by decide) (fun c1109 => ?_) (fun c1109 => ?_)
                                                                                                  · exact absurd c1109 (by decide)
                                                                                                  · refine lv_aload_n hx hb dX12_paint_48 rfl (lv_at hl 1 rfl) ?_
                                                                                                    refine va_get (D := D) (ci := 12) (v := .ref h11) (C := RX12) (T := TX12) (N := 24) hx hb hts hin12 hown hK hP 3 rfl rfl 18 (by decide) (hts (.fieldLink RX12 44 "MissedPointsModel" "items" "[I") (by decide +kernel)) (fun _ h9 => h9) rfl dX12_paint_49 ?_
                                                                                                    refine lv_bipush (v := 40) hx hb dX12_paint_52 (by decide) ?_
                                                                                                    refine lv_iload_n hx hb dX12_paint_54 rfl (lv_at hl 2 rfl) ?_
                                                                                                    refine lv_imul hx hb dX12_paint_55 ?_
                                                                                                    refine lz_top (y := 40) (by decide) ?_
                                                                                                    refine lv_iload_n hx hb dX12_paint_56 rfl (lv_at hl 0 rfl) ?_
                                                                                                    refine lv_iadd hx hb dX12_paint_57 ?_
                                                                                                    refine lz_top (y := 60) (by decide) ?_
                                                                                                    refine lv_iload_n hx hb dX12_paint_58 rfl (lv_at hl 0 rfl) ?_
                                                                                                    refine lv_aload_n hx hb dX12_paint_59 rfl (lv_at hl 1 rfl) ?_
                                                                                                    refine va_get (D := D) (ci := 12) (v := .int 0) (C := RX12) (T := TX12) (N := 24) hx hb hts hin12 hown hK hP 3 rfl rfl 0 (by decide) (hts (.fieldLink RX12 63 "MissedPointsModel" "many" "I") (by decide +kernel)) (fun _ h9 => h9) rfl dX12_paint_60 ?_
                                                                                                    refine lv_icmp_ge (tgt := 75) hx hb dX12_paint_63 (by decide) (fun c1110 => ?_) (fun c1110 => ?_)
                                                                                                    · refine lv_iconst (v := 0) hx hb dX12_paint_75 (by decide) ?_
                                                                                                      refine lz_astc hx hb hK hP hD hS 2 0 rfl rfl (lz_vp (x := 60) (n := 160) (by decide) (by decide)) dX12_paint_76 (fun H locs hP hD hS => ?_)
                                                                                                      refine lv_iinc (v := 21) (lv' := [(3, .int 21), (0, .ref h0), (1, .int 1), (2, .int x1)]) hx hb dX12_paint_77 hl (k := 0) rfl (by decide) (by decide) rfl (fun ls hl => ?_)
                                                                                                      refine lv_goto (tgt := 42) hx hb dX12_paint_80 (by decide) ?_
                                                                                                      refine lv_iload_n hx hb dX12_paint_42 rfl (lv_at hl 0 rfl) ?_
                                                                                                      refine lv_bipush (v := 40) hx hb dX12_paint_43 (by decide) ?_
                                                                                                      refine lv_icmp_ge (tgt := 83) hx hb dX12_paint_45 (by decide) (fun c1111 => ?_) (fun c1111 => ?_)
                                                                                                      · exact absurd c1111 (by decide)
                                                                                                      · refine lv_aload_n hx hb dX12_paint_48 rfl (lv_at hl 1 rfl) ?_
                                                                                                        refine va_get (D := D) (ci := 12) (v := .ref h11) (C := RX12) (T := TX12) (N := 24) hx hb hts hin12 hown hK hP 3 rfl rfl 18 (by decide) (hts (.fieldLink RX12 44 "MissedPointsModel" "items" "[I") (by decide +kernel)) (fun _ h9 => h9) rfl dX12_paint_49 ?_
                                                                                                        refine lv_bipush (v := 40) hx hb dX12_paint_52 (by decide) ?_
                                                                                                        refine lv_iload_n hx hb dX12_paint_54 rfl (lv_at hl 2 rfl) ?_
                                                                                                        refine lv_imul hx hb dX12_paint_55 ?_
                                                                                                        refine lz_top (y := 40) (by decide) ?_
                                                                                                        refine lv_iload_n hx hb dX12_paint_56 rfl (lv_at hl 0 rfl) ?_
                                                                                                        refine lv_iadd hx hb dX12_paint_57 ?_
                                                                                                        refine lz_top (y := 61) (by decide) ?_
                                                                                                        refine lv_iload_n hx hb dX12_paint_58 rfl (lv_at hl 0 rfl) ?_
                                                                                                        refine lv_aload_n hx hb dX12_paint_59 rfl (lv_at hl 1 rfl) ?_
                                                                                                        refine va_get (D := D) (ci := 12) (v := .int 0) (C := RX12) (T := TX12) (N := 24) hx hb hts hin12 hown hK hP 3 rfl rfl 0 (by decide) (hts (.fieldLink RX12 63 "MissedPointsModel" "many" "I") (by decide +kernel)) (fun _ h9 => h9) rfl dX12_paint_60 ?_
                                                                                                        refine lv_icmp_ge (tgt := 75) hx hb dX12_paint_63 (by decide) (fun c1112 => ?_) (fun c1112 => ?_)
                                                                                                        · refine lv_iconst (v := 0) hx hb dX12_paint_75 (by decide) ?_
                                                                                                          refine lz_astc hx hb hK hP hD hS 2 0 rfl rfl (lz_vp (x := 61) (n := 160) (by decide) (by decide)) dX12_paint_76 (fun H locs hP hD hS => ?_)
                                                                                                          refine lv_iinc (v := 22) (lv' := [(3, .int 22), (0, .ref h0), (1, .int 1), (2, .int x1)]) hx hb dX12_paint_77 hl (k := 0) rfl (by decide) (by decide) rfl (fun ls hl => ?_)
                                                                                                          refine lv_goto (tgt := 42) hx hb dX12_paint_80 (by decide) ?_
                                                                                                          refine lv_iload_n hx hb dX12_paint_42 rfl (lv_at hl 0 rfl) ?_
                                                                                                          refine lv_bipush (v := 40) hx hb dX12_paint_43 (by decide) ?_
                                                                                                          refine lv_icmp_ge (tgt := 83) hx hb dX12_paint_45 (by decide) (fun c1113 => ?_) (fun c1113 => ?_)
                                                                                                          · exact absurd c1113 (by decide)
                                                                                                          · refine lv_aload_n hx hb dX12_paint_48 rfl (lv_at hl 1 rfl) ?_
                                                                                                            refine va_get (D := D) (ci := 12) (v := .ref h11) (C := RX12) (T := TX12) (N := 24) hx hb hts hin12 hown hK hP 3 rfl rfl 18 (by decide) (hts (.fieldLink RX12 44 "MissedPointsModel" "items" "[I") (by decide +kernel)) (fun _ h9 => h9) rfl dX12_paint_49 ?_
                                                                                                            refine lv_bipush (v := 40) hx hb dX12_paint_52 (by decide) ?_
                                                                                                            refine lv_iload_n hx hb dX12_paint_54 rfl (lv_at hl 2 rfl) ?_
                                                                                                            refine lv_imul hx hb dX12_paint_55 ?_
                                                                                                            refine lz_top (y := 40) (by decide) ?_
                                                                                                            refine lv_iload_n hx hb dX12_paint_56 rfl (lv_at hl 0 rfl) ?_
                                                                                                            refine lv_iadd hx hb dX12_paint_57 ?_
                                                                                                            refine lz_top (y := 62) (by decide) ?_
                                                                                                            refine lv_iload_n hx hb dX12_paint_58 rfl (lv_at hl 0 rfl) ?_
                                                                                                            refine lv_aload_n hx hb dX12_paint_59 rfl (lv_at hl 1 rfl) ?_
                                                                                                            refine va_get (D := D) (ci := 12) (v := .int 0) (C := RX12) (T := TX12) (N := 24) hx hb hts hin12 hown hK hP 3 rfl rfl 0 (by decide) (hts (.fieldLink RX12 63 "MissedPointsModel" "many" "I") (by decide +kernel)) (fun _ h9 => h9) rfl dX12_paint_60 ?_
                                                                                                            refine lv_icmp_ge (tgt := 75) hx hb dX12_paint_63 (by decide) (fun c1114 => ?_) (fun c1114 => ?_)
                                                                                                            · refine lv_iconst (v := 0) hx hb dX12_paint_75 (by decide) ?_
                                                                                                              refine lz_astc hx hb hK hP hD hS 2 0 rfl rfl (lz_vp (x := 62) (n := 160) (by decide) (by decide)) dX12_paint_76 (fun H locs hP hD hS => ?_)
                                                                                                              refine lv_iinc (v := 23) (lv' := [(3, .int 23), (0, .ref h0), (1, .int 1), (2, .int x1)]) hx hb dX12_paint_77 hl (k := 0) rfl (by decide) (by decide) rfl (fun ls hl => ?_)
                                                                                                              refine lv_goto (tgt := 42) hx hb dX12_paint_80 (by decide) ?_
                                                                                                              refine lv_iload_n hx hb dX12_paint_42 rfl (lv_at hl 0 rfl) ?_
                                                                                                              refine lv_bipush (v := 40) hx hb dX12_paint_43 (by decide) ?_
                                                                                                              refine lv_icmp_ge (tgt := 83) hx hb dX12_paint_45 (by decide) (fun c1115 => ?_) (fun c1115 => ?_)
                                                                                                              · exact absurd c1115 (by decide)
                                                                                                              · refine lv_aload_n hx hb dX12_paint_48 rfl (lv_at hl 1 rfl) ?_
                                                                                                                refine va_get (D := D) (ci := 12) (v := .ref h11) (C := RX12) (T := TX12) (N := 24) hx hb hts hin12 hown hK hP 3 rfl rfl 18 (by decide) (hts (.fieldLink RX12 44 "MissedPointsModel" "items" "[I") (by decide +kernel)) (fun _ h9 => h9) rfl dX12_paint_49 ?_
                                                                                                                refine lv_bipush (v := 40) hx hb dX12_paint_52 (by decide) ?_
                                                                                                                refine lv_iload_n hx hb dX12_paint_54 rfl (lv_at hl 2 rfl) ?_
                                                                                                                refine lv_imul hx hb dX12_paint_55 ?_
                                                                                                                refine lz_top (y := 40) (by decide) ?_
                                                                                                                refine lv_iload_n hx hb dX12_paint_56 rfl (lv_at hl 0 rfl) ?_
                                                                                                                refine lv_iadd hx hb dX12_paint_57 ?_
                                                                                                                refine lz_top (y := 63) (by decide) ?_
                                                                                                                refine lv_iload_n hx hb dX12_paint_58 rfl (lv_at hl 0 rfl) ?_
                                                                                                                refine lv_aload_n hx hb dX12_paint_59 rfl (lv_at hl 1 rfl) ?_
                                                                                                                refine va_get (D := D) (ci := 12) (v := .int 0) (C := RX12) (T := TX12) (N := 24) hx hb hts hin12 hown hK hP 3 rfl rfl 0 (by decide) (hts (.fieldLink RX12 63 "MissedPointsModel" "many" "I") (by decide +kernel)) (fun _ h9 => h9) rfl dX12_paint_60 ?_
                                                                                                                refine lv_icmp_ge (tgt := 75) hx hb dX12_paint_63 (by decide) (fun c1116 => ?_) (fun c1116 => ?_)
                                                                                                                · refine lv_iconst (v := 0) hx hb dX12_paint_75 (by decide) ?_
                                                                                                                  refine lz_astc hx hb hK hP hD hS 2 0 rfl rfl (lz_vp (x := 63) (n := 160) (by decide) (by decide)) dX12_paint_76 (fun H locs hP hD hS => ?_)
                                                                                                                  refine lv_iinc (v := 24) (lv' := [(3, .int 24), (0, .ref h0), (1, .int 1), (2, .int x1)]) hx hb dX12_paint_77 hl (k := 0) rfl (by decide) (by decide) rfl (fun ls hl => ?_)
                                                                                                                  refine lv_goto (tgt := 42) hx hb dX12_paint_80 (by decide) ?_
                                                                                                                  refine lv_iload_n hx hb dX12_paint_42 rfl (lv_at hl 0 rfl) ?_
                                                                                                                  refine lv_bipush (v := 40) hx hb dX12_paint_43 (by decide) ?_
                                                                                                                  refine lv_icmp_ge (tgt := 83) hx hb dX12_paint_45 (by decide) (fun c1117 => ?_) (fun c1117 => ?_)
                                                                                                                  · exact absurd c1117 (by decide)
                                                                                                                  · refine lv_aload_n hx hb dX12_paint_48 rfl (lv_at hl 1 rfl) ?_
                                                                                                                    refine va_get (D := D) (ci := 12) (v := .ref h11) (C := RX12) (T := TX12) (N := 24) hx hb hts hin12 hown hK hP 3 rfl rfl 18 (by decide) (hts (.fieldLink RX12 44 "MissedPointsModel" "items" "[I") (by decide +kernel)) (fun _ h9 => h9) rfl dX12_paint_49 ?_
                                                                                                                    refine lv_bipush (v := 40) hx hb dX12_paint_52 (by decide) ?_
                                                                                                                    refine lv_iload_n hx hb dX12_paint_54 rfl (lv_at hl 2 rfl) ?_
                                                                                                                    refine lv_imul hx hb dX12_paint_55 ?_
                                                                                                                    refine lz_top (y := 40) (by decide) ?_
                                                                                                                    refine lv_iload_n hx hb dX12_paint_56 rfl (lv_at hl 0 rfl) ?_
                                                                                                                    refine lv_iadd hx hb dX12_paint_57 ?_
                                                                                                                    refine lz_top (y := 64) (by decide) ?_
                                                                                                                    refine lv_iload_n hx hb dX12_paint_58 rfl (lv_at hl 0 rfl) ?_
                                                                                                                    refine lv_aload_n hx hb dX12_paint_59 rfl (lv_at hl 1 rfl) ?_
                                                                                                                    refine va_get (D := D) (ci := 12) (v := .int 0) (C := RX12) (T := TX12) (N := 24) hx hb hts hin12 hown hK hP 3 rfl rfl 0 (by decide) (hts (.fieldLink RX12 63 "MissedPointsModel" "many" "I") (by decide +kernel)) (fun _ h9 => h9) rfl dX12_paint_60 ?_
                                                                                                                    refine lv_icmp_ge (tgt := 75) hx hb dX12_paint_63 (by decide) (fun c1118 => ?_) (fun c1118 => ?_)
                                                                                                                    · refine lv_iconst (v := 0) hx hb dX12_paint_75 (by decide) ?_
                                                                                                                      refine lz_astc hx hb hK hP hD hS 2 0 rfl rfl (lz_vp (x := 64) (n := 160) (by decide) (by decide)) dX12_paint_76 (fun H locs hP hD hS => ?_)
                                                                                                                      refine lv_iinc (v := 25) (lv' := [(3, .int 25), (0, .ref h0), (1, .int 1), (2, .int x1)]) hx hb dX12_paint_77 hl (k := 0) rfl (by decide) (by decide) rfl (fun ls hl => ?_)
                                                                                                                      refine lv_goto (tgt := 42) hx hb dX12_paint_80 (by decide) ?_
                                                                                                                      refine lv_iload_n hx hb dX12_paint_42 rfl (lv_at hl 0 rfl) ?_
                                                                                                                      refine lv_bipush (v := 40) hx hb dX12_paint_43 (by decide) ?_
                                                                                                                      refine lv_icmp_ge (tgt := 83) hx hb dX12_paint_45 (by decide) (fun c1119 => ?_) (fun c1119 => ?_)
                                                                                                                      · exact absurd c1119 (by decide)
                                                                                                                      · refine lv_aload_n hx hb dX12_paint_48 rfl (lv_at hl 1 rfl) ?_
                                                                                                                        refine va_get (D := D) (ci := 12) (v := .ref h11) (C := RX12) (T := TX12) (N := 24) hx hb hts hin12 hown hK hP 3 rfl rfl 18 (by decide) (hts (.fieldLink RX12 44 "MissedPointsModel" "items" "[I") (by decide +kernel)) (fun _ h9 => h9) rfl dX12_paint_49 ?_
                                                                                                                        refine lv_bipush (v := 40) hx hb dX12_paint_52 (by decide) ?_
                                                                                                                        refine lv_iload_n hx hb dX12_paint_54 rfl (lv_at hl 2 rfl) ?_
                                                                                                                        refine lv_imul hx hb dX12_paint_55 ?_
                                                                                                                        refine lz_top (y := 40) (by decide) ?_
                                                                                                                        refine lv_iload_n hx hb dX12_paint_56 rfl (lv_at hl 0 rfl) ?_
                                                                                                                        refine lv_iadd hx hb dX12_paint_57 ?_
                                                                                                                        refine lz_top (y := 65) (by decide) ?_
                                                                                                                        refine lv_iload_n hx hb dX12_paint_58 rfl (lv_at hl 0 rfl) ?_
                                                                                                                        refine lv_aload_n hx hb dX12_paint_59 rfl (lv_at hl 1 rfl) ?_
                                                                                                                        refine va_get (D := D) (ci := 12) (v := .int 0) (C := RX12) (T := TX12) (N := 24) hx hb hts hin12 hown hK hP 3 rfl rfl 0 (by decide) (hts (.fieldLink RX12 63 "MissedPointsModel" "many" "I") (by decide +kernel)) (fun _ h9 => h9) rfl dX12_paint_60 ?_
                                                                                                                        refine lv_icmp_ge (tgt := 75) hx hb dX12_paint_63 (by decide) (fun c1120 => ?_) (fun c1120 => ?_)
                                                                                                                        · refine lv_iconst (v := 0) hx hb dX12_paint_75 (by decide) ?_
                                                                                                                          refine lz_astc hx hb hK hP hD hS 2 0 rfl rfl (lz_vp (x := 65) (n := 160) (by decide) (by decide)) dX12_paint_76 (fun H locs hP hD hS => ?_)
                                                                                                                          refine lv_iinc (v := 26) (lv' := [(3, .int 26), (0, .ref h0), (1, .int 1), (2, .int x1)]) hx hb dX12_paint_77 hl (k := 0) rfl (by decide) (by decide) rfl (fun ls hl => ?_)
                                                                                                                          refine lv_goto (tgt := 42) hx hb dX12_paint_80 (by decide) ?_
                                                                                                                          refine lv_iload_n hx hb dX12_paint_42 rfl (lv_at hl 0 rfl) ?_
                                                                                                                          refine lv_bipush (v := 40) hx hb dX12_paint_43 (by decide) ?_
                                                                                                                          refine lv_icmp_ge (tgt := 83) hx hb dX12_paint_45 (by decide) (fun c1121 => ?_) (fun c1121 => ?_)
                                                                                                                          · exact absurd c1121 (by decide)
                                                                                                                          · refine lv_aload_n hx hb dX12_paint_48 rfl (lv_at hl 1 rfl) ?_
                                                                                                                            refine va_get (D := D) (ci := 12) (v := .ref h11) (C := RX12) (T := TX12) (N := 24) hx hb hts hin12 hown hK hP 3 rfl rfl 18 (by decide) (hts (.fieldLink RX12 44 "MissedPointsModel" "items" "[I") (by decide +kernel)) (fun _ h9 => h9) rfl dX12_paint_49 ?_
                                                                                                                            refine lv_bipush (v := 40) hx hb dX12_paint_52 (by decide) ?_
                                                                                                                            refine lv_iload_n hx hb dX12_paint_54 rfl (lv_at hl 2 rfl) ?_
                                                                                                                            refine lv_imul hx hb dX12_paint_55 ?_
                                                                                                                            refine lz_top (y := 40) (by decide) ?_
                                                                                                                            refine lv_iload_n hx hb dX12_paint_56 rfl (lv_at hl 0 rfl) ?_
                                                                                                                            refine lv_iadd hx hb dX12_paint_57 ?_
                                                                                                                            refine lz_top (y := 66) (by decide) ?_
                                                                                                                            refine lv_iload_n hx hb dX12_paint_58 rfl (lv_at hl 0 rfl) ?_
                                                                                                                            refine lv_aload_n hx hb dX12_paint_59 rfl (lv_at hl 1 rfl) ?_
                                                                                                                            refine va_get (D := D) (ci := 12) (v := .int 0) (C := RX12) (T := TX12) (N := 24) hx hb hts hin12 hown hK hP 3 rfl rfl 0 (by decide) (hts (.fieldLink RX12 63 "MissedPointsModel" "many" "I") (by decide +kernel)) (fun _ h9 => h9) rfl dX12_paint_60 ?_
                                                                                                                            refine lv_icmp_ge (tgt := 75) hx hb dX12_paint_63 (by decide) (fun c1122 => ?_) (fun c1122 => ?_)
                                                                                                                            · refine lv_iconst (v := 0) hx hb dX12_paint_75 (by decide) ?_
                                                                                                                              refine lz_astc hx hb hK hP hD hS 2 0 rfl rfl (lz_vp (x := 66) (n := 160) (by decide) (by decide)) dX12_paint_76 (fun H locs hP hD hS => ?_)
                                                                                                                              refine lv_iinc (v := 27) (lv' := [(3, .int 27), (0, .ref h0), (1, .int 1), (2, .int x1)]) hx hb dX12_paint_77 hl (k := 0) rfl (by decide) (by decide) rfl (fun ls hl => ?_)
                                                                                                                              refine lv_goto (tgt := 42) hx hb dX12_paint_80 (by decide) ?_
                                                                                                                              refine lv_iload_n hx hb dX12_paint_42 rfl (lv_at hl 0 rfl) ?_
                                                                                                                              refine lv_bipush (v := 40) hx hb dX12_paint_43 (by decide) ?_
                                                                                                                              refine lv_icmp_ge (tgt := 83) hx hb dX12_paint_45 (by decide) (fun c1123 => ?_) (fun c1123 => ?_)
                                                                                                                              · exact absurd c1123 (by decide)
                                                                                                                              · refine lv_aload_n hx hb dX12_paint_48 rfl (lv_at hl 1 rfl) ?_
                                                                                                                                refine va_get (D := D) (ci := 12) (v := .ref h11) (C := RX12) (T := TX12) (N := 24) hx hb hts hin12 hown hK hP 3 rfl rfl 18 (by decide) (hts (.fieldLink RX12 44 "MissedPointsModel" "items" "[I") (by decide +kernel)) (fun _ h9 => h9) rfl dX12_paint_49 ?_
                                                                                                                                refine lv_bipush (v := 40) hx hb dX12_paint_52 (by decide) ?_
                                                                                                                                refine lv_iload_n hx hb dX12_paint_54 rfl (lv_at hl 2 rfl) ?_
                                                                                                                                refine lv_imul hx hb dX12_paint_55 ?_
                                                                                                                                refine lz_top (y := 40) (by decide) ?_
                                                                                                                                refine lv_iload_n hx hb dX12_paint_56 rfl (lv_at hl 0 rfl) ?_
                                                                                                                                refine lv_iadd hx hb dX12_paint_57 ?_
                                                                                                                                refine lz_top (y := 67) (by decide) ?_
                                                                                                                                refine lv_iload_n hx hb dX12_paint_58 rfl (lv_at hl 0 rfl) ?_
                                                                                                                                refine lv_aload_n hx hb dX12_paint_59 rfl (lv_at hl 1 rfl) ?_
                                                                                                                                refine va_get (D := D) (ci := 12) (v := .int 0) (C := RX12) (T := TX12) (N := 24) hx hb hts hin12 hown hK hP 3 rfl rfl 0 (by decide) (hts (.fieldLink RX12 63 "MissedPointsModel" "many" "I") (by decide +kernel)) (fun _ h9 => h9) rfl dX12_paint_60 ?_
                                                                                                                                refine lv_icmp_ge (tgt := 75) hx hb dX12_paint_63 (by decide) (fun c1124 => ?_) (fun c1124 => ?_)
                                                                                                                                · refine lv_iconst (v := 0) hx hb dX12_paint_75 (by decide) ?_
                                                                                                                                  refine lz_astc hx hb hK hP hD hS 2 0 rfl rfl (lz_vp (x := 67) (n := 160) (by decide) (by decide)) dX12_paint_76 (fun H locs hP hD hS => ?_)
                                                                                                                                  refine lv_iinc (v := 28) (lv' := [(3, .int 28), (0, .ref h0), (1, .int 1), (2, .int x1)]) hx hb dX12_paint_77 hl (k := 0) rfl (by decide) (by decide) rfl (fun ls hl => ?_)
                                                                                                                                  refine lv_goto (tgt := 42) hx hb dX12_paint_80 (by decide) ?_
                                                                                                                                  refine lv_iload_n hx hb dX12_paint_42 rfl (lv_at hl 0 rfl) ?_
                                                                                                                                  refine lv_bipush (v := 40) hx hb dX12_paint_43 (by decide) ?_
                                                                                                                                  refine lv_icmp_ge (tgt := 83) hx hb dX12_paint_45 (by decide) (fun c1125 => ?_) (fun c1125 => ?_)
                                                                                                                                  · exact absurd c1125 (by decide)
                                                                                                                                  · refine lv_aload_n hx hb dX12_paint_48 rfl (lv_at hl 1 rfl) ?_
                                                                                                                                    refine va_get (D := D) (ci := 12) (v := .ref h11) (C := RX12) (T := TX12) (N := 24) hx hb hts hin12 hown hK hP 3 rfl rfl 18 (by decide) (hts (.fieldLink RX12 44 "MissedPointsModel" "items" "[I") (by decide +kernel)) (fun _ h9 => h9) rfl dX12_paint_49 ?_
                                                                                                                                    refine lv_bipush (v := 40) hx hb dX12_paint_52 (by decide) ?_
                                                                                                                                    refine lv_iload_n hx hb dX12_paint_54 rfl (lv_at hl 2 rfl) ?_
                                                                                                                                    refine lv_imul hx hb dX12_paint_55 ?_
                                                                                                                                    refine lz_top (y := 40) (by decide) ?_
                                                                                                                                    refine lv_iload_n hx hb dX12_paint_56 rfl (lv_at hl 0 rfl) ?_
                                                                                                                                    refine lv_iadd hx hb dX12_paint_57 ?_
                                                                                                                                    refine lz_top (y := 68) (by decide) ?_
                                                                                                                                    refine lv_iload_n hx hb dX12_paint_58 rfl (lv_at hl 0 rfl) ?_
                                                                                                                                    refine lv_aload_n hx hb dX12_paint_59 rfl (lv_at hl 1 rfl) ?_
                                                                                                                                    refine va_get (D := D) (ci := 12) (v := .int 0) (C := RX12) (T := TX12) (N := 24) hx hb hts hin12 hown hK hP 3 rfl rfl 0 (by decide) (hts (.fieldLink RX12 63 "MissedPointsModel" "many" "I") (by decide +kernel)) (fun _ h9 => h9) rfl dX12_paint_60 ?_
                                                                                                                                    refine lv_icmp_ge (tgt := 75) hx hb dX12_paint_63 (by decide) (fun c1126 => ?_) (fun c1126 => ?_)
                                                                                                                                    · refine lv_iconst (v := 0) hx hb dX12_paint_75 (by decide) ?_
                                                                                                                                      refine lz_astc hx hb hK hP hD hS 2 0 rfl rfl (lz_vp (x := 68) (n := 160) (by decide) (by decide)) dX12_paint_76 (fun H locs hP hD hS => ?_)
                                                                                                                                      refine lv_iinc (v := 29) (lv' := [(3, .int 29), (0, .ref h0), (1, .int 1), (2, .int x1)]) hx hb dX12_paint_77 hl (k := 0) rfl (by decide) (by decide) rfl (fun ls hl => ?_)
                                                                                                                                      refine lv_goto (tgt := 42) hx hb dX12_paint_80 (by decide) ?_
                                                                                                                                      refine lv_iload_n hx hb dX12_paint_42 rfl (lv_at hl 0 rfl) ?_
                                                                                                                                      refine lv_bipush (v := 40) hx hb dX12_paint_43 (by decide) ?_
                                                                                                                                      refine lv_icmp_ge (tgt := 83) hx hb dX12_paint_45 (by decide) (fun c1127 => ?_) (fun c1127 => ?_)
                                                                                                                                      · exact absurd c1127 (by decide)
                                                                                                                                      · refine lv_aload_n hx hb dX12_paint_48 rfl (lv_at hl 1 rfl) ?_
                                                                                                                                        refine va_get (D := D) (ci := 12) (v := .ref h11) (C := RX12) (T := TX12) (N := 24) hx hb hts hin12 hown hK hP 3 rfl rfl 18 (by decide) (hts (.fieldLink RX12 44 "MissedPointsModel" "items" "[I") (by decide +kernel)) (fun _ h9 => h9) rfl dX12_paint_49 ?_
                                                                                                                                        refine lv_bipush (v := 40) hx hb dX12_paint_52 (by decide) ?_
                                                                                                                                        refine lv_iload_n hx hb dX12_paint_54 rfl (lv_at hl 2 rfl) ?_
                                                                                                                                        refine lv_imul hx hb dX12_paint_55 ?_
                                                                                                                                        refine lz_top (y := 40) (by decide) ?_
                                                                                                                                        refine lv_iload_n hx hb dX12_paint_56 rfl (lv_at hl 0 rfl) ?_
                                                                                                                                        refine lv_iadd hx hb dX12_paint_57 ?_
                                                                                                                                        refine lz_top (y := 69) (by decide) ?_
                                                                                                                                        refine lv_iload_n hx hb dX12_paint_58 rfl (lv_at hl 0 rfl) ?_
                                                                                                                                        refine lv_aload_n hx hb dX12_paint_59 rfl (lv_at hl 1 rfl) ?_
                                                                                                                                        refine va_get (D := D) (ci := 12) (v := .int 0) (C := RX12) (T := TX12) (N := 24) hx hb hts hin12 hown hK hP 3 rfl rfl 0 (by decide) (hts (.fieldLink RX12 63 "MissedPointsModel" "many" "I") (by decide +kernel)) (fun _ h9 => h9) rfl dX12_paint_60 ?_
                                                                                                                                        refine lv_icmp_ge (tgt := 75) hx hb dX12_paint_63 (by decide) (fun c1128 => ?_) (fun c1128 => ?_)
                                                                                                                                        · refine lv_iconst (v := 0) hx hb dX12_paint_75 (by decide) ?_
                                                                                                                                          refine lz_astc hx hb hK hP hD hS 2 0 rfl rfl (lz_vp (x := 69) (n := 160) (by decide) (by decide)) dX12_paint_76 (fun H locs hP hD hS => ?_)
                                                                                                                                          refine lv_iinc (v := 30) (lv' := [(3, .int 30), (0, .ref h0), (1, .int 1), (2, .int x1)]) hx hb dX12_paint_77 hl (k := 0) rfl (by decide) (by decide) rfl (fun ls hl => ?_)
                                                                                                                                          refine lv_goto (tgt := 42) hx hb dX12_paint_80 (by decide) ?_
                                                                                                                                          refine lv_iload_n hx hb dX12_paint_42 rfl (lv_at hl 0 rfl) ?_
                                                                                                                                          refine lv_bipush (v := 40) hx hb dX12_paint_43 (by decide) ?_
                                                                                                                                          refine lv_icmp_ge (tgt := 83) hx hb dX12_paint_45 (by decide) (fun c1129 => ?_) (fun c1129 => ?_)
                                                                                                                                          · exact absurd c1129 (by decide)
                                                                                                                                          · refine lv_aload_n hx hb dX12_paint_48 rfl (lv_at hl 1 rfl) ?_
                                                                                                                                            refine va_get (D := D) (ci := 12) (v := .ref h11) (C := RX12) (T := TX12) (N := 24) hx hb hts hin12 hown hK hP 3 rfl rfl 18 (by decide) (hts (.fieldLink RX12 44 "MissedPointsModel" "items" "[I") (by decide +kernel)) (fun _ h9 => h9) rfl dX12_paint_49 ?_
                                                                                                                                            refine lv_bipush (v := 40) hx hb dX12_paint_52 (by decide) ?_
                                                                                                                                            refine lv_iload_n hx hb dX12_paint_54 rfl (lv_at hl 2 rfl) ?_
                                                                                                                                            refine lv_imul hx hb dX12_paint_55 ?_
                                                                                                                                            refine lz_top (y := 40) (by decide) ?_
                                                                                                                                            refine lv_iload_n hx hb dX12_paint_56 rfl (lv_at hl 0 rfl) ?_
                                                                                                                                            refine lv_iadd hx hb dX12_paint_57 ?_
                                                                                                                                            refine lz_top (y := 70) (by decide) ?_
                                                                                                                                            refine lv_iload_n hx hb dX12_paint_58 rfl (lv_at hl 0 rfl) ?_
                                                                                                                                            refine lv_aload_n hx hb dX12_paint_59 rfl (lv_at hl 1 rfl) ?_
                                                                                                                                            refine va_get (D := D) (ci := 12) (v := .int 0) (C := RX12) (T := TX12) (N := 24) hx hb hts hin12 hown hK hP 3 rfl rfl 0 (by decide) (hts (.fieldLink RX12 63 "MissedPointsModel" "many" "I") (by decide +kernel)) (fun _ h9 => h9) rfl dX12_paint_60 ?_
                                                                                                                                            refine lv_icmp_ge (tgt := 75) hx hb dX12_paint_63 (by decide) (fun c1130 => ?_) (fun c1130 => ?_)
                                                                                                                                            · refine lv_iconst (v := 0) hx hb dX12_paint_75 (by decide) ?_
                                                                                                                                              refine lz_astc hx hb hK hP hD hS 2 0 rfl rfl (lz_vp (x := 70) (n := 160) (by decide) (by decide)) dX12_paint_76 (fun H locs hP hD hS => ?_)
                                                                                                                                              refine lv_iinc (v := 31) (lv' := [(3, .int 31), (0, .ref h0), (1, .int 1), (2, .int x1)]) hx hb dX12_paint_77 hl (k := 0) rfl (by decide) (by decide) rfl (fun ls hl => ?_)
                                                                                                                                              refine lv_goto (tgt := 42) hx hb dX12_paint_80 (by decide) ?_
                                                                                                                                              refine lv_iload_n hx hb dX12_paint_42 rfl (lv_at hl 0 rfl) ?_
                                                                                                                                              refine lv_bipush (v := 40) hx hb dX12_paint_43 (by decide) ?_
                                                                                                                                              refine lv_icmp_ge (tgt := 83) hx hb dX12_paint_45 (by decide) (fun c1131 => ?_) (fun c1131 => ?_)
                                                                                                                                              · exact absurd c1131 (by decide)
                                                                                                                                              · refine lv_aload_n hx hb dX12_paint_48 rfl (lv_at hl 1 rfl) ?_
                                                                                                                                                refine va_get (D := D) (ci := 12) (v := .ref h11) (C := RX12) (T := TX12) (N := 24) hx hb hts hin12 hown hK hP 3 rfl rfl 18 (by decide) (hts (.fieldLink RX12 44 "MissedPointsModel" "items" "[I") (by decide +kernel)) (fun _ h9 => h9) rfl dX12_paint_49 ?_
                                                                                                                                                refine lv_bipush (v := 40) hx hb dX12_paint_52 (by decide) ?_
                                                                                                                                                refine lv_iload_n hx hb dX12_paint_54 rfl (lv_at hl 2 rfl) ?_
                                                                                                                                                refine lv_imul hx hb dX12_paint_55 ?_
                                                                                                                                                refine lz_top (y := 40) (by decide) ?_
                                                                                                                                                refine lv_iload_n hx hb dX12_paint_56 rfl (lv_at hl 0 rfl) ?_
                                                                                                                                                refine lv_iadd hx hb dX12_paint_57 ?_
                                                                                                                                                refine lz_top (y := 71) (by decide) ?_
                                                                                                                                                refine lv_iload_n hx hb dX12_paint_58 rfl (lv_at hl 0 rfl) ?_
                                                                                                                                                refine lv_aload_n hx hb dX12_paint_59 rfl (lv_at hl 1 rfl) ?_
                                                                                                                                                refine va_get (D := D) (ci := 12) (v := .int 0) (C := RX12) (T := TX12) (N := 24) hx hb hts hin12 hown hK hP 3 rfl rfl 0 (by decide) (hts (.fieldLink RX12 63 "MissedPointsModel" "many" "I") (by decide +kernel)) (fun _ h9 => h9) rfl dX12_paint_60 ?_
                                                                                                                                                refine lv_icmp_ge (tgt := 75) hx hb dX12_paint_63 (by decide) (fun c1132 => ?_) (fun c1132 => ?_)
                                                                                                                                                · refine lv_iconst (v := 0) hx hb dX12_paint_75 (by decide) ?_
                                                                                                                                                  refine lz_astc hx hb hK hP hD hS 2 0 rfl rfl (lz_vp (x := 71) (n := 160) (by decide) (by decide)) dX12_paint_76 (fun H locs hP hD hS => ?_)
                                                                                                                                                  refine lv_iinc (v := 32) (lv' := [(3, .int 32), (0, .ref h0), (1, .int 1), (2, .int x1)]) hx hb dX12_paint_77 hl (k := 0) rfl (by decide) (by decide) rfl (fun ls hl => ?_)
                                                                                                                                                  refine lv_goto (tgt := 42) hx hb dX12_paint_80 (by decide) ?_
                                                                                                                                                  refine lv_iload_n hx hb dX12_paint_42 rfl (lv_at hl 0 rfl) ?_
                                                                                                                                                  refine lv_bipush (v := 40) hx hb dX12_paint_43 (by decide) ?_
                                                                                                                                                  refine lv_icmp_ge (tgt := 83) hx hb dX12_paint_45 (by decide) (fun c1133 => ?_) (fun c1133 => ?_)
                                                                                                                                                  · exact absurd c1133 (by decide)
                                                                                                                                                  · refine lv_aload_n hx hb dX12_paint_48 rfl (lv_at hl 1 rfl) ?_
                                                                                                                                                    refine va_get (D := D) (ci := 12) (v := .ref h11) (C := RX12) (T := TX12) (N := 24) hx hb hts hin12 hown hK hP 3 rfl rfl 18 (by decide) (hts (.fieldLink RX12 44 "MissedPointsModel" "items" "[I") (by decide +kernel)) (fun _ h9 => h9) rfl dX12_paint_49 ?_
                                                                                                                                                    refine lv_bipush (v := 40) hx hb dX12_paint_52 (by decide) ?_
                                                                                                                                                    refine lv_iload_n hx hb dX12_paint_54 rfl (lv_at hl 2 rfl) ?_
                                                                                                                                                    refine lv_imul hx hb dX12_paint_55 ?_
                                                                                                                                                    refine lz_top (y := 40) (by decide) ?_
                                                                                                                                                    refine lv_iload_n hx hb dX12_paint_56 rfl (lv_at hl 0 rfl) ?_
                                                                                                                                                    refine lv_iadd hx hb dX12_paint_57 ?_
                                                                                                                                                    refine lz_top (y := 72) (by decide) ?_
                                                                                                                                                    refine lv_iload_n hx hb dX12_paint_58 rfl (lv_at hl 0 rfl) ?_
                                                                                                                                                    refine lv_aload_n hx hb dX12_paint_59 rfl (lv_at hl 1 rfl) ?_
                                                                                                                                                    refine va_get (D := D) (ci := 12) (v := .int 0) (C := RX12) (T := TX12) (N := 24) hx hb hts hin12 hown hK hP 3 rfl rfl 0 (by decide) (hts (.fieldLink RX12 63 "MissedPointsModel" "many" "I") (by decide +kernel)) (fun _ h9 => h9) rfl dX12_paint_60 ?_
                                                                                                                                                    refine lv_icmp_ge (tgt := 75) hx hb dX12_paint_63 (by decide) (fun c1134 => ?_) (fun c1134 => ?_)
                                                                                                                                                    · refine lv_iconst (v := 0) hx hb dX12_paint_75 (by decide) ?_
                                                                                                                                                      refine lz_astc hx hb hK hP hD hS 2 0 rfl rfl (lz_vp (x := 72) (n := 160) (by decide) (by decide)) dX12_paint_76 (fun H locs hP hD hS => ?_)
                                                                                                                                                      refine lv_iinc (v := 33) (lv' := [(3, .int 33), (0, .ref h0), (1, .int 1), (2, .int x1)]) hx hb dX12_paint_77 hl (k := 0) rfl (by decide) (by decide) rfl (fun ls hl => ?_)
                                                                                                                                                      refine lv_goto (tgt := 42) hx hb dX12_paint_80 (by decide) ?_
                                                                                                                                                      refine lv_iload_n hx hb dX12_paint_42 rfl (lv_at hl 0 rfl) ?_
                                                                                                                                                      refine lv_bipush (v := 40) hx hb dX12_paint_43 (by decide) ?_
                                                                                                                                                      refine lv_icmp_ge (tgt := 83) hx hb dX12_paint_45 (by decide) (fun c1135 => ?_) (fun c1135 => ?_)
                                                                                                                                                      · exact absurd c1135 (by decide)
                                                                                                                                                      · refine lv_aload_n hx hb dX12_paint_48 rfl (lv_at hl 1 rfl) ?_
                                                                                                                                                        refine va_get (D := D) (ci := 12) (v := .ref h11) (C := RX12) (T := TX12) (N := 24) hx hb hts hin12 hown hK hP 3 rfl rfl 18 (by decide) (hts (.fieldLink RX12 44 "MissedPointsModel" "items" "[I") (by decide +kernel)) (fun _ h9 => h9) rfl dX12_paint_49 ?_
                                                                                                                                                        refine lv_bipush (v := 40) hx hb dX12_paint_52 (by decide) ?_
                                                                                                                                                        refine lv_iload_n hx hb dX12_paint_54 rfl (lv_at hl 2 rfl) ?_
                                                                                                                                                        refine lv_imul hx hb dX12_paint_55 ?_
                                                                                                                                                        refine lz_top (y := 40) (by decide) ?_
                                                                                                                                                        refine lv_iload_n hx hb dX12_paint_56 rfl (lv_at hl 0 rfl) ?_
                                                                                                                                                        refine lv_iadd hx hb dX12_paint_57 ?_
                                                                                                                                                        refine lz_top (y := 73) (by decide) ?_
                                                                                                                                                        refine lv_iload_n hx hb dX12_paint_58 rfl (lv_at hl 0 rfl) ?_
                                                                                                                                                        refine lv_aload_n hx hb dX12_paint_59 rfl (lv_at hl 1 rfl) ?_
                                                                                                                                                        refine va_get (D := D) (ci := 12) (v := .int 0) (C := RX12) (T := TX12) (N := 24) hx hb hts hin12 hown hK hP 3 rfl rfl 0 (by decide) (hts (.fieldLink RX12 63 "MissedPointsModel" "many" "I") (by decide +kernel)) (fun _ h9 => h9) rfl dX12_paint_60 ?_
                                                                                                                                                        refine lv_icmp_ge (tgt := 75) hx hb dX12_paint_63 (by decide) (fun c1136 => ?_) (fun c1136 => ?_)
                                                                                                                                                        · refine lv_iconst (v := 0) hx hb dX12_paint_75 (by decide) ?_
                                                                                                                                                          refine lz_astc hx hb hK hP hD hS 2 0 rfl rfl (lz_vp (x := 73) (n := 160) (by decide) (by decide)) dX12_paint_76 (fun H locs hP hD hS => ?_)
                                                                                                                                                          refine lv_iinc (v := 34) (lv' := [(3, .int 34), (0, .ref h0), (1, .int 1), (2, .int x1)]) hx hb dX12_paint_77 hl (k := 0) rfl (by decide) (by decide) rfl (fun ls hl => ?_)
                                                                                                                                                          refine lv_goto (tgt := 42) hx hb dX12_paint_80 (by decide) ?_
                                                                                                                                                          refine lv_iload_n hx hb dX12_paint_42 rfl (lv_at hl 0 rfl) ?_
                                                                                                                                                          refine lv_bipush (v := 40) hx hb dX12_paint_43 (by decide) ?_
                                                                                                                                                          refine lv_icmp_ge (tgt := 83) hx hb dX12_paint_45 (by decide) (fun c1137 => ?_) (fun c1137 => ?_)
                                                                                                                                                          · exact absurd c1137 (by decide)
                                                                                                                                                          · refine lv_aload_n hx hb dX12_paint_48 rfl (lv_at hl 1 rfl) ?_
                                                                                                                                                            refine va_get (D := D) (ci := 12) (v := .ref h11) (C := RX12) (T := TX12) (N := 24) hx hb hts hin12 hown hK hP 3 rfl rfl 18 (by decide) (hts (.fieldLink RX12 44 "MissedPointsModel" "items" "[I") (by decide +kernel)) (fun _ h9 => h9) rfl dX12_paint_49 ?_
                                                                                                                                                            refine lv_bipush (v := 40) hx hb dX12_paint_52 (by decide) ?_
                                                                                                                                                            refine lv_iload_n hx hb dX12_paint_54 rfl (lv_at hl 2 rfl) ?_
                                                                                                                                                            refine lv_imul hx hb dX12_paint_55 ?_
                                                                                                                                                            refine lz_top (y := 40) (by decide) ?_
                                                                                                                                                            refine lv_iload_n hx hb dX12_paint_56 rfl (lv_at hl 0 rfl) ?_
                                                                                                                                                            refine lv_iadd hx hb dX12_paint_57 ?_
                                                                                                                                                            refine lz_top (y := 74) (by decide) ?_
                                                                                                                                                            refine lv_iload_n hx hb dX12_paint_58 rfl (lv_at hl 0 rfl) ?_
                                                                                                                                                            refine lv_aload_n hx hb dX12_paint_59 rfl (lv_at hl 1 rfl) ?_
                                                                                                                                                            refine va_get (D := D) (ci := 12) (v := .int 0) (C := RX12) (T := TX12) (N := 24) hx hb hts hin12 hown hK hP 3 rfl rfl 0 (by decide) (hts (.fieldLink RX12 63 "MissedPointsModel" "many" "I") (by decide +kernel)) (fun _ h9 => h9) rfl dX12_paint_60 ?_
                                                                                                                                                            refine lv_icmp_ge (tgt := 75) hx hb dX12_paint_63 (by decide) (fun c1138 => ?_) (fun c1138 => ?_)
                                                                                                                                                            · refine lv_iconst (v := 0) hx hb dX12_paint_75 (by decide) ?_
                                                                                                                                                              refine lz_astc hx hb hK hP hD hS 2 0 rfl rfl (lz_vp (x := 74) (n := 160) (by decide) (by decide)) dX12_paint_76 (fun H locs hP hD hS => ?_)
                                                                                                                                                              refine lv_iinc (v := 35) (lv' := [(3, .int 35), (0, .ref h0), (1, .int 1), (2, .int x1)]) hx hb dX12_paint_77 hl (k := 0) rfl (by decide) (by decide) rfl (fun ls hl => ?_)
                                                                                                                                                              refine lv_goto (tgt := 42) hx hb dX12_paint_80 (by decide) ?_
                                                                                                                                                              refine lv_iload_n hx hb dX12_paint_42 rfl (lv_at hl 0 rfl) ?_
                                                                                                                                                              refine lv_bipush (v := 40) hx hb dX12_paint_43 (by decide) ?_
                                                                                                                                                              refine lv_icmp_ge (tgt := 83) hx hb dX12_paint_45 (by decide) (fun c1139 => ?_) (fun c1139 => ?_)
                                                                                                                                                              · exact absurd c1139 (by decide)
                                                                                                                                                              · refine lv_aload_n hx hb dX12_paint_48 rfl (lv_at hl 1 rfl) ?_
                                                                                                                                                                refine va_get (D := D) (ci := 12) (v := .ref h11) (C := RX12) (T := TX12) (N := 24) hx hb hts hin12 hown hK hP 3 rfl rfl 18 (by decide) (hts (.fieldLink RX12 44 "MissedPointsModel" "items" "[I") (by decide +kernel)) (fun _ h9 => h9) rfl dX12_paint_49 ?_
                                                                                                                                                                refine lv_bipush (v := 40) hx hb dX12_paint_52 (by decide) ?_
                                                                                                                                                                refine lv_iload_n hx hb dX12_paint_54 rfl (lv_at hl 2 rfl) ?_
                                                                                                                                                                refine lv_imul hx hb dX12_paint_55 ?_
                                                                                                                                                                refine lz_top (y := 40) (by decide) ?_
                                                                                                                                                                refine lv_iload_n hx hb dX12_paint_56 rfl (lv_at hl 0 rfl) ?_
                                                                                                                                                                refine lv_iadd hx hb dX12_paint_57 ?_
                                                                                                                                                                refine lz_top (y := 75) (by decide) ?_
                                                                                                                                                                refine lv_iload_n hx hb dX12_paint_58 rfl (lv_at hl 0 rfl) ?_
                                                                                                                                                                refine lv_aload_n hx hb dX12_paint_59 rfl (lv_at hl 1 rfl) ?_
                                                                                                                                                                refine va_get (D := D) (ci := 12) (v := .int 0) (C := RX12) (T := TX12) (N := 24) hx hb hts hin12 hown hK hP 3 rfl rfl 0 (by decide) (hts (.fieldLink RX12 63 "MissedPointsModel" "many" "I") (by decide +kernel)) (fun _ h9 => h9) rfl dX12_paint_60 ?_
                                                                                                                                                                refine lv_icmp_ge (tgt := 75) hx hb dX12_paint_63 (by decide) (fun c1140 => ?_) (fun c1140 => ?_)
                                                                                                                                                                · refine lv_iconst (v := 0) hx hb dX12_paint_75 (by decide) ?_
                                                                                                                                                                  refine lz_astc hx hb hK hP hD hS 2 0 rfl rfl (lz_vp (x := 75) (n := 160) (by decide) (by decide)) dX12_paint_76 (fun H locs hP hD hS => ?_)
                                                                                                                                                                  refine lv_iinc (v := 36) (lv' := [(3, .int 36), (0, .ref h0), (1, .int 1), (2, .int x1)]) hx hb dX12_paint_77 hl (k := 0) rfl (by decide) (by decide) rfl (fun ls hl => ?_)
                                                                                                                                                                  refine lv_goto (tgt := 42) hx hb dX12_paint_80 (by decide) ?_
                                                                                                                                                                  refine lv_iload_n hx hb dX12_paint_42 rfl (lv_at hl 0 rfl) ?_
                                                                                                                                                                  refine lv_bipush (v := 40) hx hb dX12_paint_43 (by decide) ?_
                                                                                                                                                                  refine lv_icmp_ge (tgt := 83) hx hb dX12_paint_45 (by decide) (fun c1141 => ?_) (fun c1141 => ?_)
                                                                                                                                                                  · exact absurd c1141 (by decide)
                                                                                                                                                                  · refine lv_aload_n hx hb dX12_paint_48 rfl (lv_at hl 1 rfl) ?_
                                                                                                                                                                    refine va_get (D := D) (ci := 12) (v := .ref h11) (C := RX12) (T := TX12) (N := 24) hx hb hts hin12 hown hK hP 3 rfl rfl 18 (by decide) (hts (.fieldLink RX12 44 "MissedPointsModel" "items" "[I") (by decide +kernel)) (fun _ h9 => h9) rfl dX12_paint_49 ?_
                                                                                                                                                                    refine lv_bipush (v := 40) hx hb dX12_paint_52 (by decide) ?_
                                                                                                                                                                    refine lv_iload_n hx hb dX12_paint_54 rfl (lv_at hl 2 rfl) ?_
                                                                                                                                                                    refine lv_imul hx hb dX12_paint_55 ?_
                                                                                                                                                                    refine lz_top (y := 40) (by decide) ?_
                                                                                                                                                                    refine lv_iload_n hx hb dX12_paint_56 rfl (lv_at hl 0 rfl) ?_
                                                                                                                                                                    refine lv_iadd hx hb dX12_paint_57 ?_
                                                                                                                                                                    refine lz_top (y := 76) (by decide) ?_
                                                                                                                                                                    refine lv_iload_n hx hb dX12_paint_58 rfl (lv_at hl 0 rfl) ?_
                                                                                                                                                                    refine lv_aload_n hx hb dX12_paint_59 rfl (lv_at hl 1 rfl) ?_
                                                                                                                                                                    refine va_get (D := D) (ci := 12) (v := .int 0) (C := RX12) (T := TX12) (N := 24) hx hb hts hin12 hown hK hP 3 rfl rfl 0 (by decide) (hts (.fieldLink RX12 63 "MissedPointsModel" "many" "I") (by decide +kernel)) (fun _ h9 => h9) rfl dX12_paint_60 ?_
                                                                                                                                                                    refine lv_icmp_ge (tgt := 75) hx hb dX12_paint_63 (by decide) (fun c1142 => ?_) (fun c1142 => ?_)
                                                                                                                                                                    · refine lv_iconst (v := 0) hx hb dX12_paint_75 (by decide) ?_
                                                                                                                                                                      refine lz_astc hx hb hK hP hD hS 2 0 rfl rfl (lz_vp (x := 76) (n := 160) (by decide) (by decide)) dX12_paint_76 (fun H locs hP hD hS => ?_)
                                                                                                                                                                      refine lv_iinc (v := 37) (lv' := [(3, .int 37), (0, .ref h0), (1, .int 1), (2, .int x1)]) hx hb dX12_paint_77 hl (k := 0) rfl (by decide) (by decide) rfl (fun ls hl => ?_)
                                                                                                                                                                      refine lv_goto (tgt := 42) hx hb dX12_paint_80 (by decide) ?_
                                                                                                                                                                      refine lv_iload_n hx hb dX12_paint_42 rfl (lv_at hl 0 rfl) ?_
                                                                                                                                                                      refine lv_bipush (v := 40) hx hb dX12_paint_43 (by decide) ?_
                                                                                                                                                                      refine lv_icmp_ge (tgt := 83) hx hb dX12_paint_45 (by decide) (fun c1143 => ?_) (fun c1143 => ?_)
                                                                                                                                                                      · exact absurd c1143 (by decide)
                                                                                                                                                                      · refine lv_aload_n hx hb dX12_paint_48 rfl (lv_at hl 1 rfl) ?_
                                                                                                                                                                        refine va_get (D := D) (ci := 12) (v := .ref h11) (C := RX12) (T := TX12) (N := 24) hx hb hts hin12 hown hK hP 3 rfl rfl 18 (by decide) (hts (.fieldLink RX12 44 "MissedPointsModel" "items" "[I") (by decide +kernel)) (fun _ h9 => h9) rfl dX12_paint_49 ?_
                                                                                                                                                                        refine lv_bipush (v := 40) hx hb dX12_paint_52 (by decide) ?_
                                                                                                                                                                        refine lv_iload_n hx hb dX12_paint_54 rfl (lv_at hl 2 rfl) ?_
                                                                                                                                                                        refine lv_imul hx hb dX12_paint_55 ?_
                                                                                                                                                                        refine lz_top (y := 40) (by decide) ?_
                                                                                                                                                                        refine lv_iload_n hx hb dX12_paint_56 rfl (lv_at hl 0 rfl) ?_
                                                                                                                                                                        refine lv_iadd hx hb dX12_paint_57 ?_
                                                                                                                                                                        refine lz_top (y := 77) (by decide) ?_
                                                                                                                                                                        refine lv_iload_n hx hb dX12_paint_58 rfl (lv_at hl 0 rfl) ?_
                                                                                                                                                                        refine lv_aload_n hx hb dX12_paint_59 rfl (lv_at hl 1 rfl) ?_
                                                                                                                                                                        refine va_get (D := D) (ci := 12) (v := .int 0) (C := RX12) (T := TX12) (N := 24) hx hb hts hin12 hown hK hP 3 rfl rfl 0 (by decide) (hts (.fieldLink RX12 63 "MissedPointsModel" "many" "I") (by decide +kernel)) (fun _ h9 => h9) rfl dX12_paint_60 ?_
                                                                                                                                                                        refine lv_icmp_ge (tgt := 75) hx hb dX12_paint_63 (by decide) (fun c1144 => ?_) (fun c1144 => ?_)
                                                                                                                                                                        · refine lv_iconst (v := 0) hx hb dX12_paint_75 (by decide) ?_
                                                                                                                                                                          refine lz_astc hx hb hK hP hD hS 2 0 rfl rfl (lz_vp (x := 77) (n := 160) (by decide) (by decide)) dX12_paint_76 (fun H locs hP hD hS => ?_)
                                                                                                                                                                          refine lv_iinc (v := 38) (lv' := [(3, .int 38), (0, .ref h0), (1, .int 1), (2, .int x1)]) hx hb dX12_paint_77 hl (k := 0) rfl (by decide) (by decide) rfl (fun ls hl => ?_)
                                                                                                                                                                          refine lv_goto (tgt := 42) hx hb dX12_paint_80 (by decide) ?_
                                                                                                                                                                          refine lv_iload_n hx hb dX12_paint_42 rfl (lv_at hl 0 rfl) ?_
                                                                                                                                                                          refine lv_bipush (v := 40) hx hb dX12_paint_43 (by decide) ?_
                                                                                                                                                                          refine lv_icmp_ge (tgt := 83) hx hb dX12_paint_45 (by decide) (fun c1145 => ?_) (fun c1145 => ?_)
                                                                                                                                                                          · exact absurd c1145 (by decide)
                                                                                                                                                                          · refine lv_aload_n hx hb dX12_paint_48 rfl (lv_at hl 1 rfl) ?_
                                                                                                                                                                            refine va_get (D := D) (ci := 12) (v := .ref h11) (C := RX12) (T := TX12) (N := 24) hx hb hts hin12 hown hK hP 3 rfl rfl 18 (by decide) (hts (.fieldLink RX12 44 "MissedPointsModel" "items" "[I") (by decide +kernel)) (fun _ h9 => h9) rfl dX12_paint_49 ?_
                                                                                                                                                                            refine lv_bipush (v := 40) hx hb dX12_paint_52 (by decide) ?_
                                                                                                                                                                            refine lv_iload_n hx hb dX12_paint_54 rfl (lv_at hl 2 rfl) ?_
                                                                                                                                                                            refine lv_imul hx hb dX12_paint_55 ?_
                                                                                                                                                                            refine lz_top (y := 40) (by decide) ?_
                                                                                                                                                                            refine lv_iload_n hx hb dX12_paint_56 rfl (lv_at hl 0 rfl) ?_
                                                                                                                                                                            refine lv_iadd hx hb dX12_paint_57 ?_
                                                                                                                                                                            refine lz_top (y := 78) (by decide) ?_
                                                                                                                                                                            refine lv_iload_n hx hb dX12_paint_58 rfl (lv_at hl 0 rfl) ?_
                                                                                                                                                                            refine lv_aload_n hx hb dX12_paint_59 rfl (lv_at hl 1 rfl) ?_
                                                                                                                                                                            refine va_get (D := D) (ci := 12) (v := .int 0) (C := RX12) (T := TX12) (N := 24) hx hb hts hin12 hown hK hP 3 rfl rfl 0 (by decide) (hts (.fieldLink RX12 63 "MissedPointsModel" "many" "I") (by decide +kernel)) (fun _ h9 => h9) rfl dX12_paint_60 ?_
                                                                                                                                                                            refine lv_icmp_ge (tgt := 75) hx hb dX12_paint_63 (by decide) (fun c1146 => ?_) (fun c1146 => ?_)
                                                                                                                                                                            · refine lv_iconst (v := 0) hx hb dX12_paint_75 (by decide) ?_
                                                                                                                                                                              refine lz_astc hx hb hK hP hD hS 2 0 rfl rfl (lz_vp (x := 78) (n := 160) (by decide) (by decide)) dX12_paint_76 (fun H locs hP hD hS => ?_)
                                                                                                                                                                              refine lv_iinc (v := 39) (lv' := [(3, .int 39), (0, .ref h0), (1, .int 1), (2, .int x1)]) hx hb dX12_paint_77 hl (k := 0) rfl (by decide) (by decide) rfl (fun ls hl => ?_)
                                                                                                                                                                              refine lv_goto (tgt := 42) hx hb dX12_paint_80 (by decide) ?_
                                                                                                                                                                              refine lv_iload_n hx hb dX12_paint_42 rfl (lv_at hl 0 rfl) ?_
                                                                                                                                                                              refine lv_bipush (v := 40) hx hb dX12_paint_43 (by decide) ?_
                                                                                                                                                                              refine lv_icmp_ge (tgt := 83) hx hb dX12_paint_45 (by decide) (fun c1147 => ?_) (fun c1147 => ?_)
                                                                                                                                                                              · exact absurd c1147 (by decide)
                                                                                                                                                                              · refine lv_aload_n hx hb dX12_paint_48 rfl (lv_at hl 1 rfl) ?_
                                                                                                                                                                                refine va_get (D := D) (ci := 12) (v := .ref h11) (C := RX12) (T := TX12) (N := 24) hx hb hts hin12 hown hK hP 3 rfl rfl 18 (by decide) (hts (.fieldLink RX12 44 "MissedPointsModel" "items" "[I") (by decide +kernel)) (fun _ h9 => h9) rfl dX12_paint_49 ?_
                                                                                                                                                                                refine lv_bipush (v := 40) hx hb dX12_paint_52 (by decide) ?_
                                                                                                                                                                                refine lv_iload_n hx hb dX12_paint_54 rfl (lv_at hl 2 rfl) ?_
                                                                                                                                                                                refine lv_imul hx hb dX12_paint_55 ?_
                                                                                                                                                                                refine lz_top (y := 40) (by decide) ?_
                                                                                                                                                                                refine lv_iload_n hx hb dX12_paint_56 rfl (lv_at hl 0 rfl) ?_
                                                                                                                                                                                refine lv_iadd hx hb dX12_paint_57 ?_
                                                                                                                                                                                refine lz_top (y := 79) (by decide) ?_
                                                                                                                                                                                refine lv_iload_n hx hb dX12_paint_58 rfl (lv_at hl 0 rfl) ?_
                                                                                                                                                                                refine lv_aload_n hx hb dX12_paint_59 rfl (lv_at hl 1 rfl) ?_
                                                                                                                                                                                refine va_get (D := D) (ci := 12) (v := .int 0) (C := RX12) (T := TX12) (N := 24) hx hb hts hin12 hown hK hP 3 rfl rfl 0 (by decide) (hts (.fieldLink RX12 63 "MissedPointsModel" "many" "I") (by decide +kernel)) (fun _ h9 => h9) rfl dX12_paint_60 ?_
                                                                                                                                                                                refine lv_icmp_ge (tgt := 75) hx hb dX12_paint_63 (by decide) (fun c1148 => ?_) (fun c1148 => ?_)
                                                                                                                                                                                · refine lv_iconst (v := 0) hx hb dX12_paint_75 (by decide) ?_
                                                                                                                                                                                  refine lz_astc hx hb hK hP hD hS 2 0 rfl rfl (lz_vp (x := 79) (n := 160) (by decide) (by decide)) dX12_paint_76 (fun H locs hP hD hS => ?_)
                                                                                                                                                                                  refine lv_iinc (v := 40) (lv' := [(3, .int 40), (0, .ref h0), (1, .int 1), (2, .int x1)]) hx hb dX12_paint_77 hl (k := 0) rfl (by decide) (by decide) rfl (fun ls hl => ?_)
                                                                                                                                                                                  refine lv_goto (tgt := 42) hx hb dX12_paint_80 (by decide) ?_
                                                                                                                                                                                  refine lv_iload_n hx hb dX12_paint_42 rfl (lv_at hl 0 rfl) ?_
                                                                                                                                                                                  refine lv_bipush (v := 40) hx hb dX12_paint_43 (by decide) ?_
                                                                                                                                                                                  refine lv_icmp_ge (tgt := 83) hx hb dX12_paint_45 (by decide) (fun c1149 => ?_) (fun c1149 => ?_)
                                                                                                                                                                                  · refine lv_aload_n hx hb dX12_paint_83 rfl (lv_at hl 1 rfl) ?_
                                                                                                                                                                                    refine va_get (D := D) (ci := 12) (v := .int 0) (C := RX12) (T := TX12) (N := 24) hx hb hts hin12 hown hK hP 3 rfl rfl 0 (by decide) (hts (.fieldLink RX12 63 "MissedPointsModel" "many" "I") (by decide +kernel)) (fun _ h9 => h9) rfl dX12_paint_84 ?_
                                                                                                                                                                                    have hP9 := hP.sub (ws' := []) [] rfl
                                                                                                                                                                                    have hD9 := hD.sub (ws' := []) [] (by decide) rfl
                                                                                                                                                                                    subst hAe
                                                                                                                                                                                    exact W.iret (v := 0) hx hb hr (fun t ht hW => ⟨⟨_, (), rfl, by rw [if_neg k974, if_neg k976, if_neg k980, if_neg k982], by rw [ht]; exact hP9, hD9⟩, hS.F ht⟩) hS.2.2 dX12_paint_87
                                                                                                                                                                                  · exact absurd c1149 (by decide)
                                                                                                                                                                                · exact absurd c1148 (by decide)
                                                                                                                                                                            · exact absurd c1146 (by decide)
                                                                                                                                                                        · exact absurd c1144 (by decide)
                                                                                                                                                                    · exact absurd c1142 (by decide)
                                                                                                                                                                · exact absurd c1140 (by decide)
                                                                                                                                                            · exact absurd c1138 (by decide)
                                                                                                                                                        · exact absurd c1136 (by decide)
                                                                                                                                                    · exact absurd c1134 (by decide)
                                                                                                                                                · exact absurd c1132 (by decide)
                                                                                                                                            · exact absurd c1130 (by decide)
                                                                                                                                        · exact absurd c1128 (by decide)
                                                                                                                                    · exact absurd c1126 (by decide)
                                                                                                                                · exact absurd c1124 (by decide)
                                                                                                                            · exact absurd c1122 (by decide)
                                                                                                                        · exact absurd c1120 (by decide)
                                                                                                                    · exact absurd c1118 (by decide)
                                                                                                                · exact absurd c1116 (by decide)
                                                                                                            · exact absurd c1114 (by decide)
                                                                                                        · exact absurd c1112 (by decide)
                                                                                                    · exact absurd c1110 (by decide)
                                                                                                · exact absurd c1108 (by decide)
                                                                                            · exact absurd c1106 (by decide)
                                                                                        · exact absurd c1104 (by decide)
                                                                                    · exact absurd c1102 (by decide)
                                                                                · exact absurd c1100 (by decide)
                                                                            · exact absurd c1098 (by decide)
                                                                        · exact absurd c1096 (by decide)
                                                                    · exact absurd c1094 (by decide)
                                                                · exact absurd c1092 (by decide)
                                                            · exact absurd c1090 (by decide)
                                                        · exact absurd c1088 (by decide)
                                                    · exact absurd c1086 (by decide)
                                                · exact absurd c1084 (by decide)
                                            · exact absurd c1082 (by decide)
                                        · exact absurd c1080 (by decide)
                                    · exact absurd c1078 (by decide)
                                · exact absurd c1076 (by decide)
                            · exact absurd c1074 (by decide)
                        · exact absurd c1072 (by decide)
                    · exact absurd c1070 (by decide)
                · by_cases k1150 : x0 = 2
                  · subst k1150
                    refine va_iast hx hb hK hP hD hS 0 0 rfl rfl (lz_vp (x := 2) (n := 4) (by decide) (by decide)) dX12_paint_29 (fun H locs hP hD hS => ?_)
                    have hP : va_P D cls [(h9, .inl (cI, 4, .inl (upd (fun _ => -1) 2 x1))), (h10, .inl (cI, 4, .inl (fun _ => 0))), (h11, .inl (cI, 160, .inl (fun _ => 0))), (h0, .inr (12, [.int 0, .int 1, .ref h1, .ref h2, .ref h3, .ref h4, .ref h5, .ref h6, .ref h7, .ref h8, .int 0, .int 0, .int 0, .int 0, .int 0, .int 0, .ref h9, .ref h10, .ref h11, .ref h12, .ref h13, .ref h14, .ref h15, .int 0])), (h3, .inl (cI, 4096, .inl (upd (fun _ => 0) 0 1)))] H := hP
                    have hD : va_D A [(h9, .inl (cI, 4, .inl (upd (fun _ => -1) 2 x1))), (h10, .inl (cI, 4, .inl (fun _ => 0))), (h11, .inl (cI, 160, .inl (fun _ => 0))), (h0, .inr (12, [.int 0, .int 1, .ref h1, .ref h2, .ref h3, .ref h4, .ref h5, .ref h6, .ref h7, .ref h8, .int 0, .int 0, .int 0, .int 0, .int 0, .int 0, .ref h9, .ref h10, .ref h11, .ref h12, .ref h13, .ref h14, .ref h15, .int 0])), (h3, .inl (cI, 4096, .inl (upd (fun _ => 0) 0 1)))] := hD
                    refine lv_aload_n hx hb dX12_paint_30 rfl (lv_at hl 0 rfl) ?_
                    refine va_get (D := D) (ci := 12) (v := .ref h10) (C := RX12) (T := TX12) (N := 24) hx hb hts hin12 hown hK hP 3 rfl rfl 17 (by decide) (hts (.fieldLink RX12 41 "MissedPointsModel" "size" "[I") (by decide +kernel)) (fun _ h9 => h9) rfl dX12_paint_31 ?_
                    refine lv_iload_n hx hb dX12_paint_34 rfl (lv_at hl 1 rfl) ?_
                    refine lv_aload_n hx hb dX12_paint_35 rfl (lv_at hl 0 rfl) ?_
                    refine va_get (D := D) (ci := 12) (v := .int 0) (C := RX12) (T := TX12) (N := 24) hx hb hts hin12 hown hK hP 3 rfl rfl 0 (by decide) (hts (.fieldLink RX12 63 "MissedPointsModel" "many" "I") (by decide +kernel)) (fun _ h9 => h9) rfl dX12_paint_36 ?_
                    refine lz_astc hx hb hK hP hD hS 1 0 rfl rfl (lz_vp (x := 2) (n := 4) (by decide) (by decide)) dX12_paint_39 (fun H locs hP hD hS => ?_)
                    refine lv_iconst (v := 0) hx hb dX12_paint_40 (by decide) ?_
                    refine lv_istore_n (lv' := [(3, .int 0), (0, .ref h0), (1, .int 2), (2, .int x1)]) hx hb dX12_paint_41 rfl hl (by decide) rfl (fun ls hl => ?_)
                    refine lv_iload_n hx hb dX12_paint_42 rfl (lv_at hl 0 rfl) ?_
                    refine lv_bipush (v := 40) hx hb dX12_paint_43 (by decide) ?_
                    refine lv_icmp_ge (tgt := 83) hx hb dX12_paint_45 (by decide) (fun c1151 => ?_) (fun c1151 => ?_)
                    · exact absurd c1151 (by decide)
                    · refine lv_aload_n hx hb dX12_paint_48 rfl (lv_at hl 1 rfl) ?_
                      refine va_get (D := D) (ci := 12) (v := .ref h11) (C := RX12) (T := TX12) (N := 24) hx hb hts hin12 hown hK hP 3 rfl rfl 18 (by decide) (hts (.fieldLink RX12 44 "MissedPointsModel" "items" "[I") (by decide +kernel)) (fun _ h9 => h9) rfl dX12_paint_49 ?_
                      refine lv_bipush (v := 40) hx hb dX12_paint_52 (by decide) ?_
                      refine lv_iload_n hx hb dX12_paint_54 rfl (lv_at hl 2 rfl) ?_
                      refine lv_imul hx hb dX12_paint_55 ?_
                      refine lz_top (y := 80) (by decide) ?_
                      refine lv_iload_n hx hb dX12_paint_56 rfl (lv_at hl 0 rfl) ?_
                      refine lv_iadd hx hb dX12_paint_57 ?_
                      refine lz_top (y := 80) (by decide) ?_
                      refine lv_iload_n hx hb dX12_paint_58 rfl (lv_at hl 0 rfl) ?_
                      refine lv_aload_n hx hb dX12_paint_59 rfl (lv_at hl 1 rfl) ?_
                      refine va_get (D := D) (ci := 12) (v := .int 0) (C := RX12) (T := TX12) (N := 24) hx hb hts hin12 hown hK hP 3 rfl rfl 0 (by decide) (hts (.fieldLink RX12 63 "MissedPointsModel" "many" "I") (by decide +kernel)) (fun _ h9 => h9) rfl dX12_paint_60 ?_
                      refine lv_icmp_ge (tgt := 75) hx hb dX12_paint_63 (by decide) (fun c1152 => ?_) (fun c1152 => ?_)
                      · refine lv_iconst (v := 0) hx hb dX12_paint_75 (by decide) ?_
                        refine lz_astc hx hb hK hP hD hS 2 0 rfl rfl (lz_vp (x := 80) (n := 160) (by decide) (by decide)) dX12_paint_76 (fun H locs hP hD hS => ?_)
                        refine lv_iinc (v := 1) (lv' := [(3, .int 1), (0, .ref h0), (1, .int 2), (2, .int x1)]) hx hb dX12_paint_77 hl (k := 0) rfl (by decide) (by decide) rfl (fun ls hl => ?_)
                        refine lv_goto (tgt := 42) hx hb dX12_paint_80 (by decide) ?_
                        refine lv_iload_n hx hb dX12_paint_42 rfl (lv_at hl 0 rfl) ?_
                        refine lv_bipush (v := 40) hx hb dX12_paint_43 (by decide) ?_
                        refine lv_icmp_ge (tgt := 83) hx hb dX12_paint_45 (by decide) (fun c1153 => ?_) (fun c1153 => ?_)
                        · exact absurd c1153 (by decide)
                        · refine lv_aload_n hx hb dX12_paint_48 rfl (lv_at hl 1 rfl) ?_
                          refine va_get (D := D) (ci := 12) (v := .ref h11) (C := RX12) (T := TX12) (N := 24) hx hb hts hin12 hown hK hP 3 rfl rfl 18 (by decide) (hts (.fieldLink RX12 44 "MissedPointsModel" "items" "[I") (by decide +kernel)) (fun _ h9 => h9) rfl dX12_paint_49 ?_
                          refine lv_bipush (v := 40) hx hb dX12_paint_52 (by decide) ?_
                          refine lv_iload_n hx hb dX12_paint_54 rfl (lv_at hl 2 rfl) ?_
                          refine lv_imul hx hb dX12_paint_55 ?_
                          refine lz_top (y := 80) (by decide) ?_
                          refine lv_iload_n hx hb dX12_paint_56 rfl (lv_at hl 0 rfl) ?_
                          refine lv_iadd hx hb dX12_paint_57 ?_
                          refine lz_top (y := 81) (by decide) ?_
                          refine lv_iload_n hx hb dX12_paint_58 rfl (lv_at hl 0 rfl) ?_
                          refine lv_aload_n hx hb dX12_paint_59 rfl (lv_at hl 1 rfl) ?_
                          refine va_get (D := D) (ci := 12) (v := .int 0) (C := RX12) (T := TX12) (N := 24) hx hb hts hin12 hown hK hP 3 rfl rfl 0 (by decide) (hts (.fieldLink RX12 63 "MissedPointsModel" "many" "I") (by decide +kernel)) (fun _ h9 => h9) rfl dX12_paint_60 ?_
                          refine lv_icmp_ge (tgt := 75) hx hb dX12_paint_63 (by decide) (fun c1154 => ?_) (fun c1154 => ?_)
                          · refine lv_iconst (v := 0) hx hb dX12_paint_75 (by decide) ?_
                            refine lz_astc hx hb hK hP hD hS 2 0 rfl rfl (lz_vp (x := 81) (n := 160) (by decide) (by decide)) dX12_paint_76 (fun H locs hP hD hS => ?_)
                            refine lv_iinc (v := 2) (lv' := [(3, .int 2), (0, .ref h0), (1, .int 2), (2, .int x1)]) hx hb dX12_paint_77 hl (k := 0) rfl (by decide) (by decide) rfl (fun ls hl => ?_)
                            refine lv_goto (tgt := 42) hx hb dX12_paint_80 (by decide) ?_
                            refine lv_iload_n hx hb dX12_paint_42 rfl (lv_at hl 0 rfl) ?_
                            refine lv_bipush (v := 40) hx hb dX12_paint_43 (by decide) ?_
                            refine lv_icmp_ge (tgt := 83) hx hb dX12_paint_45 (by decide) (fun c1155 => ?_) (fun c1155 => ?_)
                            · exact absurd c1155 (by decide)
                            · refine lv_aload_n hx hb dX12_paint_48 rfl (lv_at hl 1 rfl) ?_
                              refine va_get (D := D) (ci := 12) (v := .ref h11) (C := RX12) (T := TX12) (N := 24) hx hb hts hin12 hown hK hP 3 rfl rfl 18 (by decide) (hts (.fieldLink RX12 44 "MissedPointsModel" "items" "[I") (by decide +kernel)) (fun _ h9 => h9) rfl dX12_paint_49 ?_
                              refine lv_bipush (v := 40) hx hb dX12_paint_52 (by decide) ?_
                              refine lv_iload_n hx hb dX12_paint_54 rfl (lv_at hl 2 rfl) ?_
                              refine lv_imul hx hb dX12_paint_55 ?_
                              refine lz_top (y := 80) (by decide) ?_
                              refine lv_iload_n hx hb dX12_paint_56 rfl (lv_at hl 0 rfl) ?_
                              refine lv_iadd hx hb dX12_paint_57 ?_
                              refine lz_top (y := 82) (by decide) ?_
                              refine lv_iload_n hx hb dX12_paint_58 rfl (lv_at hl 0 rfl) ?_
                              refine lv_aload_n hx hb dX12_paint_59 rfl (lv_at hl 1 rfl) ?_
                              refine va_get (D := D) (ci := 12) (v := .int 0) (C := RX12) (T := TX12) (N := 24) hx hb hts hin12 hown hK hP 3 rfl rfl 0 (by decide) (hts (.fieldLink RX12 63 "MissedPointsModel" "many" "I") (by decide +kernel)) (fun _ h9 => h9) rfl dX12_paint_60 ?_
                              refine lv_icmp_ge (tgt := 75) hx hb dX12_paint_63 (by decide) (fun c1156 => ?_) (fun c1156 => ?_)
                              · refine lv_iconst (v := 0) hx hb dX12_paint_75 (by decide) ?_
                                refine lz_astc hx hb hK hP hD hS 2 0 rfl rfl (lz_vp (x := 82) (n := 160) (by decide) (by decide)) dX12_paint_76 (fun H locs hP hD hS => ?_)
                                refine lv_iinc (v := 3) (lv' := [(3, .int 3), (0, .ref h0), (1, .int 2), (2, .int x1)]) hx hb dX12_paint_77 hl (k := 0) rfl (by decide) (by decide) rfl (fun ls hl => ?_)
                                refine lv_goto (tgt := 42) hx hb dX12_paint_80 (by decide) ?_
                                refine lv_iload_n hx hb dX12_paint_42 rfl (lv_at hl 0 rfl) ?_
                                refine lv_bipush (v := 40) hx hb dX12_paint_43 (by decide) ?_
                                refine lv_icmp_ge (tgt := 83) hx hb dX12_paint_45 (by decide) (fun c1157 => ?_) (fun c1157 => ?_)
                                · exact absurd c1157 (by decide)
                                · refine lv_aload_n hx hb dX12_paint_48 rfl (lv_at hl 1 rfl) ?_
                                  refine va_get (D := D) (ci := 12) (v := .ref h11) (C := RX12) (T := TX12) (N := 24) hx hb hts hin12 hown hK hP 3 rfl rfl 18 (by decide) (hts (.fieldLink RX12 44 "MissedPointsModel" "items" "[I") (by decide +kernel)) (fun _ h9 => h9) rfl dX12_paint_49 ?_
                                  refine lv_bipush (v := 40) hx hb dX12_paint_52 (by decide) ?_
                                  refine lv_iload_n hx hb dX12_paint_54 rfl (lv_at hl 2 rfl) ?_
                                  refine lv_imul hx hb dX12_paint_55 ?_
                                  refine lz_top (y := 80) (by decide) ?_
                                  refine lv_iload_n hx hb dX12_paint_56 rfl (lv_at hl 0 rfl) ?_
                                  refine lv_iadd hx hb dX12_paint_57 ?_
                                  refine lz_top (y := 83) (by decide) ?_
                                  refine lv_iload_n hx hb dX12_paint_58 rfl (lv_at hl 0 rfl) ?_
                                  refine lv_aload_n hx hb dX12_paint_59 rfl (lv_at hl 1 rfl) ?_
                                  refine va_get (D := D) (ci := 12) (v := .int 0) (C := RX12) (T := TX12) (N := 24) hx hb hts hin12 hown hK hP 3 rfl rfl 0 (by decide) (hts (.fieldLink RX12 63 "MissedPointsModel" "many" "I") (by decide +kernel)) (fun _ h9 => h9) rfl dX12_paint_60 ?_
                                  refine lv_icmp_ge (tgt := 75) hx hb dX12_paint_63 (by decide) (fun c1158 => ?_) (fun c1158 => ?_)
                                  · refine lv_iconst (v := 0) hx hb dX12_paint_75 (by decide) ?_
                                    refine lz_astc hx hb hK hP hD hS 2 0 rfl rfl (lz_vp (x := 83) (n := 160) (by decide) (by decide)) dX12_paint_76 (fun H locs hP hD hS => ?_)
                                    refine lv_iinc (v := 4) (lv' := [(3, .int 4), (0, .ref h0), (1, .int 2), (2, .int x1)]) hx hb dX12_paint_77 hl (k := 0) rfl (by decide) (by decide) rfl (fun ls hl => ?_)
                                    refine lv_goto (tgt := 42) hx hb dX12_paint_80 (by decide) ?_
                                    refine lv_iload_n hx hb dX12_paint_42 rfl (lv_at hl 0 rfl) ?_
                                    refine lv_bipush (v := 40) hx hb dX12_paint_43 (by decide) ?_
                                    refine lv_icmp_ge (tgt := 83) hx hb dX12_paint_45 (by decide) (fun c1159 => ?_) (fun c1159 => ?_)
                                    · exact absurd c1159 (by decide)
                                    · refine lv_aload_n hx hb dX12_paint_48 rfl (lv_at hl 1 rfl) ?_
                                      refine va_get (D := D) (ci := 12) (v := .ref h11) (C := RX12) (T := TX12) (N := 24) hx hb hts hin12 hown hK hP 3 rfl rfl 18 (by decide) (hts (.fieldLink RX12 44 "MissedPointsModel" "items" "[I") (by decide +kernel)) (fun _ h9 => h9) rfl dX12_paint_49 ?_
                                      refine lv_bipush (v := 40) hx hb dX12_paint_52 (by decide) ?_
                                      refine lv_iload_n hx hb dX12_paint_54 rfl (lv_at hl 2 rfl) ?_
                                      refine lv_imul hx hb dX12_paint_55 ?_
                                      refine lz_top (y := 80) (by decide) ?_
                                      refine lv_iload_n hx hb dX12_paint_56 rfl (lv_at hl 0 rfl) ?_
                                      refine lv_iadd hx hb dX12_paint_57 ?_
                                      refine lz_top (y := 84) (by decide) ?_
                                      refine lv_iload_n hx hb dX12_paint_58 rfl (lv_at hl 0 rfl) ?_
                                      refine lv_aload_n hx hb dX12_paint_59 rfl (lv_at hl 1 rfl) ?_
                                      refine va_get (D := D) (ci := 12) (v := .int 0) (C := RX12) (T := TX12) (N := 24) hx hb hts hin12 hown hK hP 3 rfl rfl 0 (by decide) (hts (.fieldLink RX12 63 "MissedPointsModel" "many" "I") (by decide +kernel)) (fun _ h9 => h9) rfl dX12_paint_60 ?_
                                      refine lv_icmp_ge (tgt := 75) hx hb dX12_paint_63 (by decide) (fun c1160 => ?_) (fun c1160 => ?_)
                                      · refine lv_iconst (v := 0) hx hb dX12_paint_75 (by decide) ?_
                                        refine lz_astc hx hb hK hP hD hS 2 0 rfl rfl (lz_vp (x := 84) (n := 160) (by decide) (by decide)) dX12_paint_76 (fun H locs hP hD hS => ?_)
                                        refine lv_iinc (v := 5) (lv' := [(3, .int 5), (0, .ref h0), (1, .int 2), (2, .int x1)]) hx hb dX12_paint_77 hl (k := 0) rfl (by decide) (by decide) rfl (fun ls hl => ?_)
                                        refine lv_goto (tgt := 42) hx hb dX12_paint_80 (by decide) ?_
                                        refine lv_iload_n hx hb dX12_paint_42 rfl (lv_at hl 0 rfl) ?_
                                        refine lv_bipush (v := 40) hx hb dX12_paint_43 (by decide) ?_
                                        refine lv_icmp_ge (tgt := 83) hx hb dX12_paint_45 (by decide) (fun c1161 => ?_) (fun c1161 => ?_)
                                        · exact absurd c1161 (by decide)
                                        · refine lv_aload_n hx hb dX12_paint_48 rfl (lv_at hl 1 rfl) ?_
                                          refine va_get (D := D) (ci := 12) (v := .ref h11) (C := RX12) (T := TX12) (N := 24) hx hb hts hin12 hown hK hP 3 rfl rfl 18 (by decide) (hts (.fieldLink RX12 44 "MissedPointsModel" "items" "[I") (by decide +kernel)) (fun _ h9 => h9) rfl dX12_paint_49 ?_
                                          refine lv_bipush (v := 40) hx hb dX12_paint_52 (by decide) ?_
                                          refine lv_iload_n hx hb dX12_paint_54 rfl (lv_at hl 2 rfl) ?_
                                          refine lv_imul hx hb dX12_paint_55 ?_
                                          refine lz_top (y := 80) (by decide) ?_
                                          refine lv_iload_n hx hb dX12_paint_56 rfl (lv_at hl 0 rfl) ?_
                                          refine lv_iadd hx hb dX12_paint_57 ?_
                                          refine lz_top (y := 85) (by decide) ?_
                                          refine lv_iload_n hx hb dX12_paint_58 rfl (lv_at hl 0 rfl) ?_
                                          refine lv_aload_n hx hb dX12_paint_59 rfl (lv_at hl 1 rfl) ?_
                                          refine va_get (D := D) (ci := 12) (v := .int 0) (C := RX12) (T := TX12) (N := 24) hx hb hts hin12 hown hK hP 3 rfl rfl 0 (by decide) (hts (.fieldLink RX12 63 "MissedPointsModel" "many" "I") (by decide +kernel)) (fun _ h9 => h9) rfl dX12_paint_60 ?_
                                          refine lv_icmp_ge (tgt := 75) hx hb dX12_paint_63 (by decide) (fun c1162 => ?_) (fun c1162 => ?_)
                                          · refine lv_iconst (v := 0) hx hb dX12_paint_75 (by decide) ?_
                                            refine lz_astc hx hb hK hP hD hS 2 0 rfl rfl (lz_vp (x := 85) (n := 160) (by decide) (by decide)) dX12_paint_76 (fun H locs hP hD hS => ?_)
                                            refine lv_iinc (v := 6) (lv' := [(3, .int 6), (0, .ref h0), (1, .int 2), (2, .int x1)]) hx hb dX12_paint_77 hl (k := 0) rfl (by decide) (by decide) rfl (fun ls hl => ?_)
                                            refine lv_goto (tgt := 42) hx hb dX12_paint_80 (by decide) ?_
                                            refine lv_iload_n hx hb dX12_paint_42 rfl (lv_at hl 0 rfl) ?_
                                            refine lv_bipush (v := 40) hx hb dX12_paint_43 (by decide) ?_
                                            refine lv_icmp_ge (tgt := 83) hx hb dX12_paint_45 (by decide) (fun c1163 => ?_) (fun c1163 => ?_)
                                            · exact absurd c1163 (by decide)
                                            · refine lv_aload_n hx hb dX12_paint_48 rfl (lv_at hl 1 rfl) ?_
                                              refine va_get (D := D) (ci := 12) (v := .ref h11) (C := RX12) (T := TX12) (N := 24) hx hb hts hin12 hown hK hP 3 rfl rfl 18 (by decide) (hts (.fieldLink RX12 44 "MissedPointsModel" "items" "[I") (by decide +kernel)) (fun _ h9 => h9) rfl dX12_paint_49 ?_
                                              refine lv_bipush (v := 40) hx hb dX12_paint_52 (by decide) ?_
                                              refine lv_iload_n hx hb dX12_paint_54 rfl (lv_at hl 2 rfl) ?_
                                              refine lv_imul hx hb dX12_paint_55 ?_
                                              refine lz_top (y := 80) (by decide) ?_
                                              refine lv_iload_n hx hb dX12_paint_56 rfl (lv_at hl 0 rfl) ?_
                                              refine lv_iadd hx hb dX12_paint_57 ?_
                                              refine lz_top (y := 86) (by decide) ?_
                                              refine lv_iload_n hx hb dX12_paint_58 rfl (lv_at hl 0 rfl) ?_
                                              refine lv_aload_n hx hb dX12_paint_59 rfl (lv_at hl 1 rfl) ?_
                                              refine va_get (D := D) (ci := 12) (v := .int 0) (C := RX12) (T := TX12) (N := 24) hx hb hts hin12 hown hK hP 3 rfl rfl 0 (by decide) (hts (.fieldLink RX12 63 "MissedPointsModel" "many" "I") (by decide +kernel)) (fun _ h9 => h9) rfl dX12_paint_60 ?_
                                              refine lv_icmp_ge (tgt := 75) hx hb dX12_paint_63 (by decide) (fun c1164 => ?_) (fun c1164 => ?_)
                                              · refine lv_iconst (v := 0) hx hb dX12_paint_75 (by decide) ?_
                                                refine lz_astc hx hb hK hP hD hS 2 0 rfl rfl (lz_vp (x := 86) (n := 160) (by decide) (by decide)) dX12_paint_76 (fun H locs hP hD hS => ?_)
                                                refine lv_iinc (v := 7) (lv' := [(3, .int 7), (0, .ref h0), (1, .int 2), (2, .int x1)]) hx hb dX12_paint_77 hl (k := 0) rfl (by decide) (by decide) rfl (fun ls hl => ?_)
                                                refine lv_goto (tgt := 42) hx hb dX12_paint_80 (by decide) ?_
                                                refine lv_iload_n hx hb dX12_paint_42 rfl (lv_at hl 0 rfl) ?_
                                                refine lv_bipush (v := 40) hx hb dX12_paint_43 (by decide) ?_
                                                refine lv_icmp_ge (tgt := 83) hx hb dX12_paint_45 (by decide) (fun c1165 => ?_) (fun c1165 => ?_)
                                                · exact absurd c1165 (by decide)
                                                · refine lv_aload_n hx hb dX12_paint_48 rfl (lv_at hl 1 rfl) ?_
                                                  refine va_get (D := D) (ci := 12) (v := .ref h11) (C := RX12) (T := TX12) (N := 24) hx hb hts hin12 hown hK hP 3 rfl rfl 18 (by decide) (hts (.fieldLink RX12 44 "MissedPointsModel" "items" "[I") (by decide +kernel)) (fun _ h9 => h9) rfl dX12_paint_49 ?_
                                                  refine lv_bipush (v := 40) hx hb dX12_paint_52 (by decide) ?_
                                                  refine lv_iload_n hx hb dX12_paint_54 rfl (lv_at hl 2 rfl) ?_
                                                  refine lv_imul hx hb dX12_paint_55 ?_
                                                  refine lz_top (y := 80) (by decide) ?_
                                                  refine lv_iload_n hx hb dX12_paint_56 rfl (lv_at hl 0 rfl) ?_
                                                  refine lv_iadd hx hb dX12_paint_57 ?_
                                                  refine lz_top (y := 87) (by decide) ?_
                                                  refine lv_iload_n hx hb dX12_paint_58 rfl (lv_at hl 0 rfl) ?_
                                                  refine lv_aload_n hx hb dX12_paint_59 rfl (lv_at hl 1 rfl) ?_
                                                  refine va_get (D := D) (ci := 12) (v := .int 0) (C := RX12) (T := TX12) (N := 24) hx hb hts hin12 hown hK hP 3 rfl rfl 0 (by decide) (hts (.fieldLink RX12 63 "MissedPointsModel" "many" "I") (by decide +kernel)) (fun _ h9 => h9) rfl dX12_paint_60 ?_
                                                  refine lv_icmp_ge (tgt := 75) hx hb dX12_paint_63 (by decide) (fun c1166 => ?_) (fun c1166 => ?_)
                                                  · refine lv_iconst (v := 0) hx hb dX12_paint_75 (by decide) ?_
                                                    refine lz_astc hx hb hK hP hD hS 2 0 rfl rfl (lz_vp (x := 87) (n := 160) (by decide) (by decide)) dX12_paint_76 (fun H locs hP hD hS => ?_)
                                                    refine lv_iinc (v := 8) (lv' := [(3, .int 8), (0, .ref h0), (1, .int 2), (2, .int x1)]) hx hb dX12_paint_77 hl (k := 0) rfl (by decide) (by decide) rfl (fun ls hl => ?_)
                                                    refine lv_goto (tgt := 42) hx hb dX12_paint_80 (by decide) ?_
                                                    refine lv_iload_n hx hb dX12_paint_42 rfl (lv_at hl 0 rfl) ?_
                                                    refine lv_bipush (v := 40) hx hb dX12_paint_43 (by decide) ?_
                                                    refine lv_icmp_ge (tgt := 83) hx hb dX12_paint_45 (by decide) (fun c1167 => ?_) (fun c1167 => ?_)
                                                    · exact absurd c1167 (by decide)
                                                    · refine lv_aload_n hx hb dX12_paint_48 rfl (lv_at hl 1 rfl) ?_
                                                      refine va_get (D := D) (ci := 12) (v := .ref h11) (C := RX12) (T := TX12) (N := 24) hx hb hts hin12 hown hK hP 3 rfl rfl 18 (by decide) (hts (.fieldLink RX12 44 "MissedPointsModel" "items" "[I") (by decide +kernel)) (fun _ h9 => h9) rfl dX12_paint_49 ?_
                                                      refine lv_bipush (v := 40) hx hb dX12_paint_52 (by decide) ?_
                                                      refine lv_iload_n hx hb dX12_paint_54 rfl (lv_at hl 2 rfl) ?_
                                                      refine lv_imul hx hb dX12_paint_55 ?_
                                                      refine lz_top (y := 80) (by decide) ?_
                                                      refine lv_iload_n hx hb dX12_paint_56 rfl (lv_at hl 0 rfl) ?_
                                                      refine lv_iadd hx hb dX12_paint_57 ?_
                                                      refine lz_top (y := 88) (by decide) ?_
                                                      refine lv_iload_n hx hb dX12_paint_58 rfl (lv_at hl 0 rfl) ?_
                                                      refine lv_aload_n hx hb dX12_paint_59 rfl (lv_at hl 1 rfl) ?_
                                                      refine va_get (D := D) (ci := 12) (v := .int 0) (C := RX12) (T := TX12) (N := 24) hx hb hts hin12 hown hK hP 3 rfl rfl 0 (by decide) (hts (.fieldLink RX12 63 "MissedPointsModel" "many" "I") (by decide +kernel)) (fun _ h9 => h9) rfl dX12_paint_60 ?_
                                                      refine lv_icmp_ge (tgt := 75) hx hb dX12_paint_63 (by decide) (fun c1168 => ?_) (fun c1168 => ?_)
                                                      · refine lv_iconst (v := 0) hx hb dX12_paint_75 (by decide) ?_
                                                        refine lz_astc hx hb hK hP hD hS 2 0 rfl rfl (lz_vp (x := 88) (n := 160) (by decide) (by decide)) dX12_paint_76 (fun H locs hP hD hS => ?_)
                                                        refine lv_iinc (v := 9) (lv' := [(3, .int 9), (0, .ref h0), (1, .int 2), (2, .int x1)]) hx hb dX12_paint_77 hl (k := 0) rfl (by decide) (by decide) rfl (fun ls hl => ?_)
                                                        refine lv_goto (tgt := 42) hx hb dX12_paint_80 (by decide) ?_
                                                        refine lv_iload_n hx hb dX12_paint_42 rfl (lv_at hl 0 rfl) ?_
                                                        refine lv_bipush (v := 40) hx hb dX12_paint_43 (by decide) ?_
                                                        refine lv_icmp_ge (tgt := 83) hx hb dX12_paint_45 (by decide) (fun c1169 => ?_) (fun c1169 => ?_)
                                                        · exact absurd c1169 (by decide)
                                                        · refine lv_aload_n hx hb dX12_paint_48 rfl (lv_at hl 1 rfl) ?_
                                                          refine va_get (D := D) (ci := 12) (v := .ref h11) (C := RX12) (T := TX12) (N := 24) hx hb hts hin12 hown hK hP 3 rfl rfl 18 (by decide) (hts (.fieldLink RX12 44 "MissedPointsModel" "items" "[I") (by decide +kernel)) (fun _ h9 => h9) rfl dX12_paint_49 ?_
                                                          refine lv_bipush (v := 40) hx hb dX12_paint_52 (by decide) ?_
                                                          refine lv_iload_n hx hb dX12_paint_54 rfl (lv_at hl 2 rfl) ?_
                                                          refine lv_imul hx hb dX12_paint_55 ?_
                                                          refine lz_top (y := 80) (by decide) ?_
                                                          refine lv_iload_n hx hb dX12_paint_56 rfl (lv_at hl 0 rfl) ?_
                                                          refine lv_iadd hx hb dX12_paint_57 ?_
                                                          refine lz_top (y := 89) (by decide) ?_
                                                          refine lv_iload_n hx hb dX12_paint_58 rfl (lv_at hl 0 rfl) ?_
                                                          refine lv_aload_n hx hb dX12_paint_59 rfl (lv_at hl 1 rfl) ?_
                                                          refine va_get (D := D) (ci := 12) (v := .int 0) (C := RX12) (T := TX12) (N := 24) hx hb hts hin12 hown hK hP 3 rfl rfl 0 (by decide) (hts (.fieldLink RX12 63 "MissedPointsModel" "many" "I") (by decide +kernel)) (fun _ h9 => h9) rfl dX12_paint_60 ?_
                                                          refine lv_icmp_ge (tgt := 75) hx hb dX12_paint_63 (by decide) (fun c1170 => ?_) (fun c1170 => ?_)
                                                          · refine lv_iconst (v := 0) hx hb dX12_paint_75 (by decide) ?_
                                                            refine lz_astc hx hb hK hP hD hS 2 0 rfl rfl (lz_vp (x := 89) (n := 160) (by decide) (by decide)) dX12_paint_76 (fun H locs hP hD hS => ?_)
                                                            refine lv_iinc (v := 10) (lv' := [(3, .int 10), (0, .ref h0), (1, .int 2), (2, .int x1)]) hx hb dX12_paint_77 hl (k := 0) rfl (by decide) (by decide) rfl (fun ls hl => ?_)
                                                            refine lv_goto (tgt := 42) hx hb dX12_paint_80 (by decide) ?_
                                                            refine lv_iload_n hx hb dX12_paint_42 rfl (lv_at hl 0 rfl) ?_
                                                            refine lv_bipush (v := 40) hx hb dX12_paint_43 (by decide) ?_
                                                            refine lv_icmp_ge (tgt := 83) hx hb dX12_paint_45 (by decide) (fun c1171 => ?_) (fun c1171 => ?_)
                                                            · exact absurd c1171 (by decide)
                                                            · refine lv_aload_n hx hb dX12_paint_48 rfl (lv_at hl 1 rfl) ?_
                                                              refine va_get (D := D) (ci := 12) (v := .ref h11) (C := RX12) (T := TX12) (N := 24) hx hb hts hin12 hown hK hP 3 rfl rfl 18 (by decide) (hts (.fieldLink RX12 44 "MissedPointsModel" "items" "[I") (by decide +kernel)) (fun _ h9 => h9) rfl dX12_paint_49 ?_
                                                              refine lv_bipush (v := 40) hx hb dX12_paint_52 (by decide) ?_
                                                              refine lv_iload_n hx hb dX12_paint_54 rfl (lv_at hl 2 rfl) ?_
                                                              refine lv_imul hx hb dX12_paint_55 ?_
                                                              refine lz_top (y := 80) (by decide) ?_
                                                              refine lv_iload_n hx hb dX12_paint_56 rfl (lv_at hl 0 rfl) ?_
                                                              refine lv_iadd hx hb dX12_paint_57 ?_
                                                              refine lz_top (y := 90) (by decide) ?_
                                                              refine lv_iload_n hx hb dX12_paint_58 rfl (lv_at hl 0 rfl) ?_
                                                              refine lv_aload_n hx hb dX12_paint_59 rfl (lv_at hl 1 rfl) ?_
                                                              refine va_get (D := D) (ci := 12) (v := .int 0) (C := RX12) (T := TX12) (N := 24) hx hb hts hin12 hown hK hP 3 rfl rfl 0 (by decide) (hts (.fieldLink RX12 63 "MissedPointsModel" "many" "I") (by decide +kernel)) (fun _ h9 => h9) rfl dX12_paint_60 ?_
                                                              refine lv_icmp_ge (tgt := 75) hx hb dX12_paint_63 (by decide) (fun c1172 => ?_) (fun c1172 => ?_)
                                                              · refine lv_iconst (v := 0) hx hb dX12_paint_75 (by decide) ?_
                                                                refine lz_astc hx hb hK hP hD hS 2 0 rfl rfl (lz_vp (x := 90) (n := 160) (by decide) (by decide)) dX12_paint_76 (fun H locs hP hD hS => ?_)
                                                                refine lv_iinc (v := 11) (lv' := [(3, .int 11), (0, .ref h0), (1, .int 2), (2, .int x1)]) hx hb dX12_paint_77 hl (k := 0) rfl (by decide) (by decide) rfl (fun ls hl => ?_)
                                                                refine lv_goto (tgt := 42) hx hb dX12_paint_80 (by decide) ?_
                                                                refine lv_iload_n hx hb dX12_paint_42 rfl (lv_at hl 0 rfl) ?_
                                                                refine lv_bipush (v := 40) hx hb dX12_paint_43 (by decide) ?_
                                                                refine lv_icmp_ge (tgt := 83) hx hb dX12_paint_45 (by decide) (fun c1173 => ?_) (fun c1173 => ?_)
                                                                · exact absurd c1173 (by decide)
                                                                · refine lv_aload_n hx hb dX12_paint_48 rfl (lv_at hl 1 rfl) ?_
                                                                  refine va_get (D := D) (ci := 12) (v := .ref h11) (C := RX12) (T := TX12) (N := 24) hx hb hts hin12 hown hK hP 3 rfl rfl 18 (by decide) (hts (.fieldLink RX12 44 "MissedPointsModel" "items" "[I") (by decide +kernel)) (fun _ h9 => h9) rfl dX12_paint_49 ?_
                                                                  refine lv_bipush (v := 40) hx hb dX12_paint_52 (by decide) ?_
                                                                  refine lv_iload_n hx hb dX12_paint_54 rfl (lv_at hl 2 rfl) ?_
                                                                  refine lv_imul hx hb dX12_paint_55 ?_
                                                                  refine lz_top (y := 80) (by decide) ?_
                                                                  refine lv_iload_n hx hb dX12_paint_56 rfl (lv_at hl 0 rfl) ?_
                                                                  refine lv_iadd hx hb dX12_paint_57 ?_
                                                                  refine lz_top (y := 91) (by decide) ?_
                                                                  refine lv_iload_n hx hb dX12_paint_58 rfl (lv_at hl 0 rfl) ?_
                                                                  refine lv_aload_n hx hb dX12_paint_59 rfl (lv_at hl 1 rfl) ?_
                                                                  refine va_get (D := D) (ci := 12) (v := .int 0) (C := RX12) (T := TX12) (N := 24) hx hb hts hin12 hown hK hP 3 rfl rfl 0 (by decide) (hts (.fieldLink RX12 63 "MissedPointsModel" "many" "I") (by decide +kernel)) (fun _ h9 => h9) rfl dX12_paint_60 ?_
                                                                  refine lv_icmp_ge (tgt := 75) hx hb dX12_paint_63 (by decide) (fun c1174 => ?_) (fun c1174 => ?_)
                                                                  · refine lv_iconst (v := 0) hx hb dX12_paint_75 (by decide) ?_
                                                                    refine lz_astc hx hb hK hP hD hS 2 0 rfl rfl (lz_vp (x := 91) (n := 160) (by decide) (by decide)) dX12_paint_76 (fun H locs hP hD hS => ?_)
                                                                    refine lv_iinc (v := 12) (lv' := [(3, .int 12), (0, .ref h0), (1, .int 2), (2, .int x1)]) hx hb dX12_paint_77 hl (k := 0) rfl (by decide) (by decide) rfl (fun ls hl => ?_)
                                                                    refine lv_goto (tgt := 42) hx hb dX12_paint_80 (by decide) ?_
                                                                    refine lv_iload_n hx hb dX12_paint_42 rfl (lv_at hl 0 rfl) ?_
                                                                    refine lv_bipush (v := 40) hx hb dX12_paint_43 (by decide) ?_
                                                                    refine lv_icmp_ge (tgt := 83) hx hb dX12_paint_45 (by decide) (fun c1175 => ?_) (fun c1175 => ?_)
                                                                    · exact absurd c1175 (by decide)
                                                                    · refine lv_aload_n hx hb dX12_paint_48 rfl (lv_at hl 1 rfl) ?_
                                                                      refine va_get (D := D) (ci := 12) (v := .ref h11) (C := RX12) (T := TX12) (N := 24) hx hb hts hin12 hown hK hP 3 rfl rfl 18 (by decide) (hts (.fieldLink RX12 44 "MissedPointsModel" "items" "[I") (by decide +kernel)) (fun _ h9 => h9) rfl dX12_paint_49 ?_
                                                                      refine lv_bipush (v := 40) hx hb dX12_paint_52 (by decide) ?_
                                                                      refine lv_iload_n hx hb dX12_paint_54 rfl (lv_at hl 2 rfl) ?_
                                                                      refine lv_imul hx hb dX12_paint_55 ?_
                                                                      refine lz_top (y := 80) (by decide) ?_
                                                                      refine lv_iload_n hx hb dX12_paint_56 rfl (lv_at hl 0 rfl) ?_
                                                                      refine lv_iadd hx hb dX12_paint_57 ?_
                                                                      refine lz_top (y := 92) (by decide) ?_
                                                                      refine lv_iload_n hx hb dX12_paint_58 rfl (lv_at hl 0 rfl) ?_
                                                                      refine lv_aload_n hx hb dX12_paint_59 rfl (lv_at hl 1 rfl) ?_
                                                                      refine va_get (D := D) (ci := 12) (v := .int 0) (C := RX12) (T := TX12) (N := 24) hx hb hts hin12 hown hK hP 3 rfl rfl 0 (by decide) (hts (.fieldLink RX12 63 "MissedPointsModel" "many" "I") (by decide +kernel)) (fun _ h9 => h9) rfl dX12_paint_60 ?_
                                                                      refine lv_icmp_ge (tgt := 75) hx hb dX12_paint_63 (by decide) (fun c1176 => ?_) (fun c1176 => ?_)
                                                                      · refine lv_iconst (v := 0) hx hb dX12_paint_75 (by decide) ?_
                                                                        refine lz_astc hx hb hK hP hD hS 2 0 rfl rfl (lz_vp (x := 92) (n := 160) (by decide) (by decide)) dX12_paint_76 (fun H locs hP hD hS => ?_)
                                                                        refine lv_iinc (v := 13) (lv' := [(3, .int 13), (0, .ref h0), (1, .int 2), (2, .int x1)]) hx hb dX12_paint_77 hl (k := 0) rfl (by decide) (by decide) rfl (fun ls hl => ?_)
                                                                        refine lv_goto (tgt := 42) hx hb dX12_paint_80 (by decide) ?_
                                                                        refine lv_iload_n hx hb dX12_paint_42 rfl (lv_at hl 0 rfl) ?_
                                                                        refine lv_bipush (v := 40) hx hb dX12_paint_43 (by decide) ?_
                                                                        refine lv_icmp_ge (tgt := 83) hx hb dX12_paint_45 (by decide) (fun c1177 => ?_) (fun c1177 => ?_)
                                                                        · exact absurd c1177 (by decide)
                                                                        · refine lv_aload_n hx hb dX12_paint_48 rfl (lv_at hl 1 rfl) ?_
                                                                          refine va_get (D := D) (ci := 12) (v := .ref h11) (C := RX12) (T := TX12) (N := 24) hx hb hts hin12 hown hK hP 3 rfl rfl 18 (by decide) (hts (.fieldLink RX12 44 "MissedPointsModel" "items" "[I") (by decide +kernel)) (fun _ h9 => h9) rfl dX12_paint_49 ?_
                                                                          refine lv_bipush (v := 40) hx hb dX12_paint_52 (by decide) ?_
                                                                          refine lv_iload_n hx hb dX12_paint_54 rfl (lv_at hl 2 rfl) ?_
                                                                          refine lv_imul hx hb dX12_paint_55 ?_
                                                                          refine lz_top (y := 80) (by decide) ?_
                                                                          refine lv_iload_n hx hb dX12_paint_56 rfl (lv_at hl 0 rfl) ?_
                                                                          refine lv_iadd hx hb dX12_paint_57 ?_
                                                                          refine lz_top (y := 93) (by decide) ?_
                                                                          refine lv_iload_n hx hb dX12_paint_58 rfl (lv_at hl 0 rfl) ?_
                                                                          refine lv_aload_n hx hb dX12_paint_59 rfl (lv_at hl 1 rfl) ?_
                                                                          refine va_get (D := D) (ci := 12) (v := .int 0) (C := RX12) (T := TX12) (N := 24) hx hb hts hin12 hown hK hP 3 rfl rfl 0 (by decide) (hts (.fieldLink RX12 63 "MissedPointsModel" "many" "I") (by decide +kernel)) (fun _ h9 => h9) rfl dX12_paint_60 ?_
                                                                          refine lv_icmp_ge (tgt := 75) hx hb dX12_paint_63 (by decide) (fun c1178 => ?_) (fun c1178 => ?_)
                                                                          · refine lv_iconst (v := 0) hx hb dX12_paint_75 (by decide) ?_
                                                                            refine lz_astc hx hb hK hP hD hS 2 0 rfl rfl (lz_vp (x := 93) (n := 160) (by decide) (by decide)) dX12_paint_76 (fun H locs hP hD hS => ?_)
                                                                            refine lv_iinc (v := 14) (lv' := [(3, .int 14), (0, .ref h0), (1, .int 2), (2, .int x1)]) hx hb dX12_paint_77 hl (k := 0) rfl (by decide) (by decide) rfl (fun ls hl => ?_)
                                                                            refine lv_goto (tgt := 42) hx hb dX12_paint_80 (by decide) ?_
                                                                            refine lv_iload_n hx hb dX12_paint_42 rfl (lv_at hl 0 rfl) ?_
                                                                            refine lv_bipush (v := 40) hx hb dX12_paint_43 (by decide) ?_
                                                                            refine lv_icmp_ge (tgt := 83) hx hb dX12_paint_45 (by decide) (fun c1179 => ?_) (fun c1179 => ?_)
                                                                            · exact absurd c1179 (by decide)
                                                                            · refine lv_aload_n hx hb dX12_paint_48 rfl (lv_at hl 1 rfl) ?_
                                                                              refine va_get (D := D) (ci := 12) (v := .ref h11) (C := RX12) (T := TX12) (N := 24) hx hb hts hin12 hown hK hP 3 rfl rfl 18 (by decide) (hts (.fieldLink RX12 44 "MissedPointsModel" "items" "[I") (by decide +kernel)) (fun _ h9 => h9) rfl dX12_paint_49 ?_
                                                                              refine lv_bipush (v := 40) hx hb dX12_paint_52 (by decide) ?_
                                                                              refine lv_iload_n hx hb dX12_paint_54 rfl (lv_at hl 2 rfl) ?_
                                                                              refine lv_imul hx hb dX12_paint_55 ?_
                                                                              refine lz_top (y := 80) (by decide) ?_
                                                                              refine lv_iload_n hx hb dX12_paint_56 rfl (lv_at hl 0 rfl) ?_
                                                                              refine lv_iadd hx hb dX12_paint_57 ?_
                                                                              refine lz_top (y := 94) (by decide) ?_
                                                                              refine lv_iload_n hx hb dX12_paint_58 rfl (lv_at hl 0 rfl) ?_
                                                                              refine lv_aload_n hx hb dX12_paint_59 rfl (lv_at hl 1 rfl) ?_
                                                                              refine va_get (D := D) (ci := 12) (v := .int 0) (C := RX12) (T := TX12) (N := 24) hx hb hts hin12 hown hK hP 3 rfl rfl 0 (by decide) (hts (.fieldLink RX12 63 "MissedPointsModel" "many" "I") (by decide +kernel)) (fun _ h9 => h9) rfl dX12_paint_60 ?_
                                                                              refine lv_icmp_ge (tgt := 75) hx hb dX12_paint_63 (by decide) (fun c1180 => ?_) (fun c1180 => ?_)
                                                                              · refine lv_iconst (v := 0) hx hb dX12_paint_75 (by decide) ?_
                                                                                refine lz_astc hx hb hK hP hD hS 2 0 rfl rfl (lz_vp (x := 94) (n := 160) (by decide) (by decide)) dX12_paint_76 (fun H locs hP hD hS => ?_)
                                                                                refine lv_iinc (v := 15) (lv' := [(3, .int 15), (0, .ref h0), (1, .int 2), (2, .int x1)]) hx hb dX12_paint_77 hl (k := 0) rfl (by decide) (by decide) rfl (fun ls hl => ?_)
                                                                                refine lv_goto (tgt := 42) hx hb dX12_paint_80 (by decide) ?_
                                                                                refine lv_iload_n hx hb dX12_paint_42 rfl (lv_at hl 0 rfl) ?_
                                                                                refine lv_bipush (v := 40) hx hb dX12_paint_43 (by decide) ?_
                                                                                refine lv_icmp_ge (tgt := 83) hx hb dX12_paint_45 (by decide) (fun c1181 => ?_) (fun c1181 => ?_)
                                                                                · exact absurd c1181 (by decide)
                                                                                · refine lv_aload_n hx hb dX12_paint_48 rfl (lv_at hl 1 rfl) ?_
                                                                                  refine va_get (D := D) (ci := 12) (v := .ref h11) (C := RX12) (T := TX12) (N := 24) hx hb hts hin12 hown hK hP 3 rfl rfl 18 (by decide) (hts (.fieldLink RX12 44 "MissedPointsModel" "items" "[I") (by decide +kernel)) (fun _ h9 => h9) rfl dX12_paint_49 ?_
                                                                                  refine lv_bipush (v := 40) hx hb dX12_paint_52 (by decide) ?_
                                                                                  refine lv_iload_n hx hb dX12_paint_54 rfl (lv_at hl 2 rfl) ?_
                                                                                  refine lv_imul hx hb dX12_paint_55 ?_
                                                                                  refine lz_top (y := 80) (by decide) ?_
                                                                                  refine lv_iload_n hx hb dX12_paint_56 rfl (lv_at hl 0 rfl) ?_
                                                                                  refine lv_iadd hx hb dX12_paint_57 ?_
                                                                                  refine lz_top (y := 95) (by decide) ?_
                                                                                  refine lv_iload_n hx hb dX12_paint_58 rfl (lv_at hl 0 rfl) ?_
                                                                                  refine lv_aload_n hx hb dX12_paint_59 rfl (lv_at hl 1 rfl) ?_
                                                                                  refine va_get (D := D) (ci := 12) (v := .int 0) (C := RX12) (T := TX12) (N := 24) hx hb hts hin12 hown hK hP 3 rfl rfl 0 (by decide) (hts (.fieldLink RX12 63 "MissedPointsModel" "many" "I") (by decide +kernel)) (fun _ h9 => h9) rfl dX12_paint_60 ?_
                                                                                  refine lv_icmp_ge (tgt := 75) hx hb dX12_paint_63 (by decide) (fun c1182 => ?_) (fun c1182 => ?_)
                                                                                  · refine lv_iconst (v := 0) hx hb dX12_paint_75 (by decide) ?_
                                                                                    refine lz_astc hx hb hK hP hD hS 2 0 rfl rfl (lz_vp (x := 95) (n := 160) (by decide) (by decide)) dX12_paint_76 (fun H locs hP hD hS => ?_)
                                                                                    refine lv_iinc (v := 16) (lv' := [(3, .int 16), (0, .ref h0), (1, .int 2), (2, .int x1)]) hx hb dX12_paint_77 hl (k := 0) rfl (by decide) (by decide) rfl (fun ls hl => ?_)
                                                                                    refine lv_goto (tgt := 42) hx hb dX12_paint_80 (by decide) ?_
                                                                                    refine lv_iload_n hx hb dX12_paint_42 rfl (lv_at hl 0 rfl) ?_
                                                                                    refine lv_bipush (v := 40) hx hb dX12_paint_43 (by decide) ?_
                                                                                    refine lv_icmp_ge (tgt := 83) hx hb dX12_paint_45 (by decide) (fun c1183 => ?_) (fun c1183 => ?_)
                                                                                    · exact absurd c1183 (by decide)
                                                                                    · refine lv_aload_n hx hb dX12_paint_48 rfl (lv_at hl 1 rfl) ?_
                                                                                      refine va_get (D := D) (ci := 12) (v := .ref h11) (C := RX12) (T := TX12) (N := 24) hx hb hts hin12 hown hK hP 3 rfl rfl 18 (by decide) (hts (.fieldLink RX12 44 "MissedPointsModel" "items" "[I") (by decide +kernel)) (fun _ h9 => h9) rfl dX12_paint_49 ?_
                                                                                      refine lv_bipush (v := 40) hx hb dX12_paint_52 (by decide) ?_
                                                                                      refine lv_iload_n hx hb dX12_paint_54 rfl (lv_at hl 2 rfl) ?_
                                                                                      refine lv_imul hx hb dX12_paint_55 ?_
                                                                                      refine lz_top (y := 80) (by decide) ?_
                                                                                      refine lv_iload_n hx hb dX12_paint_56 rfl (lv_at hl 0 rfl) ?_
                                                                                      refine lv_iadd hx hb dX12_paint_57 ?_
                                                                                      refine lz_top (y := 96) (by decide) ?_
                                                                                      refine lv_iload_n hx hb dX12_paint_58 rfl (lv_at hl 0 rfl) ?_
                                                                                      refine lv_aload_n hx hb dX12_paint_59 rfl (lv_at hl 1 rfl) ?_
                                                                                      refine va_get (D := D) (ci := 12) (v := .int 0) (C := RX12) (T := TX12) (N := 24) hx hb hts hin12 hown hK hP 3 rfl rfl 0 (by decide) (hts (.fieldLink RX12 63 "MissedPointsModel" "many" "I") (by decide +kernel)) (fun _ h9 => h9) rfl dX12_paint_60 ?_
                                                                                      refine lv_icmp_ge (tgt := 75) hx hb dX12_paint_63 (by decide) (fun c1184 => ?_) (fun c1184 => ?_)
                                                                                      · refine lv_iconst (v := 0) hx hb dX12_paint_75 (by decide) ?_
                                                                                        refine lz_astc hx hb hK hP hD hS 2 0 rfl rfl (lz_vp (x := 96) (n := 160) (by decide) (by decide)) dX12_paint_76 (fun H locs hP hD hS => ?_)
                                                                                        refine lv_iinc (v := 17) (lv' := [(3, .int 17), (0, .ref h0), (1, .int 2), (2, .int x1)]) hx hb dX12_paint_77 hl (k := 0) rfl (by decide) (by decide) rfl (fun ls hl => ?_)
                                                                                        refine lv_goto (tgt := 42) hx hb dX12_paint_80 (by decide) ?_
                                                                                        refine lv_iload_n hx hb dX12_paint_42 rfl (lv_at hl 0 rfl) ?_
                                                                                        refine lv_bipush (v := 40) hx hb dX12_paint_43 (by decide) ?_
                                                                                        refine lv_icmp_ge (tgt := 83) hx hb dX12_paint_45 (by decide) (fun c1185 => ?_) (fun c1185 => ?_)
                                                                                        · exact absurd c1185 (by decide)
                                                                                        · refine lv_aload_n hx hb dX12_paint_48 rfl (lv_at hl 1 rfl) ?_
                                                                                          refine va_get (D := D) (ci := 12) (v := .ref h11) (C := RX12) (T := TX12) (N := 24) hx hb hts hin12 hown hK hP 3 rfl rfl 18 (by decide) (hts (.fieldLink RX12 44 "MissedPointsModel" "items" "[I") (by decide +kernel)) (fun _ h9 => h9) rfl dX12_paint_49 ?_
                                                                                          refine lv_bipush (v := 40) hx hb dX12_paint_52 (by decide) ?_
                                                                                          refine lv_iload_n hx hb dX12_paint_54 rfl (lv_at hl 2 rfl) ?_
                                                                                          refine lv_imul hx hb dX12_paint_55 ?_
                                                                                          refine lz_top (y := 80) (by decide) ?_
                                                                                          refine lv_iload_n hx hb dX12_paint_56 rfl (lv_at hl 0 rfl) ?_
                                                                                          refine lv_iadd hx hb dX12_paint_57 ?_
                                                                                          refine lz_top (y := 97) (by decide) ?_
                                                                                          refine lv_iload_n hx hb dX12_paint_58 rfl (lv_at hl 0 rfl) ?_
                                                                                          refine lv_aload_n hx hb dX12_paint_59 rfl (lv_at hl 1 rfl) ?_
                                                                                          refine va_get (D := D) (ci := 12) (v := .int 0) (C := RX12) (T := TX12) (N := 24) hx hb hts hin12 hown hK hP 3 rfl rfl 0 (by decide) (hts (.fieldLink RX12 63 "MissedPointsModel" "many" "I") (by decide +kernel)) (fun _ h9 => h9) rfl dX12_paint_60 ?_
                                                                                          refine lv_icmp_ge (tgt := 75) hx hb dX12_paint_63 (by decide) (fun c1186 => ?_) (fun c1186 => ?_)
                                                                                          · refine lv_iconst (v := 0) hx hb dX12_paint_75 (by decide) ?_
                                                                                            refine lz_astc hx hb hK hP hD hS 2 0 rfl rfl (lz_vp (x := 97) (n := 160) (by decide) (by decide)) dX12_paint_76 (fun H locs hP hD hS => ?_)
                                                                                            refine lv_iinc (v := 18) (lv' := [(3, .int 18), (0, .ref h0), (1, .int 2), (2, .int x1)]) hx hb dX12_paint_77 hl (k := 0) rfl (by decide) (by decide) rfl (fun ls hl => ?_)
                                                                                            refine lv_goto (tgt := 42) hx hb dX12_paint_80 (by decide) ?_
                                                                                            refine lv_iload_n hx hb dX12_paint_42 rfl (lv_at hl 0 rfl) ?_
                                                                                            refine lv_bipush (v := 40) hx hb dX12_paint_43 (by decide) ?_
                                                                                            refine lv_icmp_ge (tgt := 83) hx hb dX12_paint_45 (by decide) (fun c1187 => ?_) (fun c1187 => ?_)
                                                                                            · exact absurd c1187 (by decide)
                                                                                            · refine lv_aload_n hx hb dX12_paint_48 rfl (lv_at hl 1 rfl) ?_
                                                                                              refine va_get (D := D) (ci := 12) (v := .ref h11) (C := RX12) (T := TX12) (N := 24) hx hb hts hin12 hown hK hP 3 rfl rfl 18 (by decide) (hts (.fieldLink RX12 44 "MissedPointsModel" "items" "[I") (by decide +kernel)) (fun _ h9 => h9) rfl dX12_paint_49 ?_
                                                                                              refine lv_bipush (v := 40) hx hb dX12_paint_52 (by decide) ?_
                                                                                              refine lv_iload_n hx hb dX12_paint_54 rfl (lv_at hl 2 rfl) ?_
                                                                                              refine lv_imul hx hb dX12_paint_55 ?_
                                                                                              refine lz_top (y := 80) (by decide) ?_
                                                                                              refine lv_iload_n hx hb dX12_paint_56 rfl (lv_at hl 0 rfl) ?_
                                                                                              refine lv_iadd hx hb dX12_paint_57 ?_
                                                                                              refine lz_top (y := 98) (by decide) ?_
                                                                                              refine lv_iload_n hx hb dX12_paint_58 rfl (lv_at hl 0 rfl) ?_
                                                                                              refine lv_aload_n hx hb dX12_paint_59 rfl (lv_at hl 1 rfl) ?_
                                                                                              refine va_get (D := D) (ci := 12) (v := .int 0) (C := RX12) (T := TX12) (N := 24) hx hb hts hin12 hown hK hP 3 rfl rfl 0 (by decide) (hts (.fieldLink RX12 63 "MissedPointsModel" "many" "I") (by decide +kernel)) (fun _ h9 => h9) rfl dX12_paint_60 ?_
                                                                                              refine lv_icmp_ge (tgt := 75) hx hb dX12_paint_63 (by decide) (fun c1188 => ?_) (fun c1188 => ?_)
                                                                                              · refine lv_iconst (v := 0) hx hb dX12_paint_75 (by decide) ?_
                                                                                                refine lz_astc hx hb hK hP hD hS 2 0 rfl rfl (lz_vp (x := 98) (n := 160) (by decide) (by decide)) dX12_paint_76 (fun H locs hP hD hS => ?_)
                                                                                                refine lv_iinc (v := 19) (lv' := [(3, .int 19), (0, .ref h0), (1, .int 2), (2, .int x1)]) hx hb dX12_paint_77 hl (k := 0) rfl (by decide) (by decide) rfl (fun ls hl => ?_)
                                                                                                refine lv_goto (tgt := 42) hx hb dX12_paint_80 (by decide) ?_
                                                                                                refine lv_iload_n hx hb dX12_paint_42 rfl (lv_at hl 0 rfl) ?_
                                                                                                refine lv_bipush (v := 40) hx hb dX12_paint_43 (by decide) ?_
                                                                                                refine lv_icmp_ge (tgt := 83) hx hb dX12_paint_45 (by decide) (fun c1189 => ?_) (fun c1189 => ?_)
                                                                                                · exact absurd c1189 (by decide)
                                                                                                · refine lv_aload_n hx hb dX12_paint_48 rfl (lv_at hl 1 rfl) ?_
                                                                                                  refine va_get (D := D) (ci := 12) (v := .ref h11) (C := RX12) (T := TX12) (N := 24) hx hb hts hin12 hown hK hP 3 rfl rfl 18 (by decide) (hts (.fieldLink RX12 44 "MissedPointsModel" "items" "[I") (by decide +kernel)) (fun _ h9 => h9) rfl dX12_paint_49 ?_
                                                                                                  refine lv_bipush (v := 40) hx hb dX12_paint_52 (by decide) ?_
                                                                                                  refine lv_iload_n hx hb dX12_paint_54 rfl (lv_at hl 2 rfl) ?_
                                                                                                  refine lv_imul hx hb dX12_paint_55 ?_
                                                                                                  refine lz_top (y := 80) (by decide) ?_
                                                                                                  refine lv_iload_n hx hb dX12_paint_56 rfl (lv_at hl 0 rfl) ?_
                                                                                                  refine lv_iadd hx hb dX12_paint_57 ?_
                                                                                                  refine lz_top (y := 99) (by decide) ?_
                                                                                                  refine lv_iload_n hx hb dX12_paint_58 rfl (lv_at hl 0 rfl) ?_
                                                                                                  refine lv_aload_n hx hb dX12_paint_59 rfl (lv_at hl 1 rfl) ?_
                                                                                                  refine va_get (D := D) (ci := 12) (v := .int 0) (C := RX12) (T := TX12) (N := 24) hx hb hts hin12 hown hK hP 3 rfl rfl 0 (by decide) (hts (.fieldLink RX12 63 "MissedPointsModel" "many" "I") (by decide +kernel)) (fun _ h9 => h9) rfl dX12_paint_60 ?_
                                                                                                  refine lv_icmp_ge (tgt := 75) hx hb dX12_paint_63 (by decide) (fun c1190 => ?_) (fun c1190 => ?_)
                                                                                                  · refine lv_iconst (v := 0) hx hb dX12_paint_75 (by decide) ?_
                                                                                                    refine lz_astc hx hb hK hP hD hS 2 0 rfl rfl (lz_vp (x := 99) (n := 160) (by decide) (by decide)) dX12_paint_76 (fun H locs hP hD hS => ?_)
                                                                                                    refine lv_iinc (v := 20) (lv' := [(3, .int 20), (0, .ref h0), (1, .int 2), (2, .int x1)]) hx hb dX12_paint_77 hl (k := 0) rfl (by decide) (by decide) rfl (fun ls hl => ?_)
                                                                                                    refine lv_goto (tgt := 42) hx hb dX12_paint_80 (by decide) ?_
                                                                                                    refine lv_iload_n hx hb dX12_paint_42 rfl (lv_at hl 0 rfl) ?_
                                                                                                    refine lv_bipush (v := 40) hx hb dX12_paint_43 (by decide) ?_
                                                                                                    refine lv_icmp_ge (tgt := 83) hx hb dX12_paint_45 (by decide) (fun c1191 => ?_) (fun c1191 => ?_)
                                                                                                    · exact absurd c1191 (by decide)
                                                                                                    · refine lv_aload_n hx hb dX12_paint_48 rfl (lv_at hl 1 rfl) ?_
                                                                                                      refine va_get (D := D) (ci := 12) (v := .ref h11) (C := RX12) (T := TX12) (N := 24) hx hb hts hin12 hown hK hP 3 rfl rfl 18 (by decide) (hts (.fieldLink RX12 44 "MissedPointsModel" "items" "[I") (by decide +kernel)) (fun _ h9 => h9) rfl dX12_paint_49 ?_
                                                                                                      refine lv_bipush (v := 40) hx hb dX12_paint_52 (by decide) ?_
                                                                                                      refine lv_iload_n hx hb dX12_paint_54 rfl (lv_at hl 2 rfl) ?_
                                                                                                      refine lv_imul hx hb dX12_paint_55 ?_
                                                                                                      refine lz_top (y := 80) (by decide) ?_
                                                                                                      refine lv_iload_n hx hb dX12_paint_56 rfl (lv_at hl 0 rfl) ?_
                                                                                                      refine lv_iadd hx hb dX12_paint_57 ?_
                                                                                                      refine lz_top (y := 100) (by decide) ?_
                                                                                                      refine lv_iload_n hx hb dX12_paint_58 rfl (lv_at hl 0 rfl) ?_
                                                                                                      refine lv_aload_n hx hb dX12_paint_59 rfl (lv_at hl 1 rfl) ?_
                                                                                                      refine va_get (D := D) (ci := 12) (v := .int 0) (C := RX12) (T := TX12) (N := 24) hx hb hts hin12 hown hK hP 3 rfl rfl 0 (by decide) (hts (.fieldLink RX12 63 "MissedPointsModel" "many" "I") (by decide +kernel)) (fun _ h9 => h9) rfl dX12_paint_60 ?_
                                                                                                      refine lv_icmp_ge (tgt := 75) hx hb dX12_paint_63 (by decide) (fun c1192 => ?_) (fun c1192 => ?_)
                                                                                                      · refine lv_iconst (v := 0) hx hb dX12_paint_75 (by decide) ?_
                                                                                                        refine lz_astc hx hb hK hP hD hS 2 0 rfl rfl (lz_vp (x := 100) (n := 160) (by decide) (by decide)) dX12_paint_76 (fun H locs hP hD hS => ?_)
                                                                                                        refine lv_iinc (v := 21) (lv' := [(3, .int 21), (0, .ref h0), (1, .int 2), (2, .int x1)]) hx hb dX12_paint_77 hl (k := 0) rfl (by decide) (by decide) rfl (fun ls hl => ?_)
                                                                                                        refine lv_goto (tgt := 42) hx hb dX12_paint_80 (by decide) ?_
                                                                                                        refine lv_iload_n hx hb dX12_paint_42 rfl (lv_at hl 0 rfl) ?_
                                                                                                        refine lv_bipush (v := 40) hx hb dX12_paint_43 (by decide) ?_
                                                                                                        refine lv_icmp_ge (tgt := 83) hx hb dX12_paint_45 (by decide) (fun c1193 => ?_) (fun c1193 => ?_)
                                                                                                        · exact absurd c1193 (by decide)
                                                                                                        · refine lv_aload_n hx hb dX12_paint_48 rfl (lv_at hl 1 rfl) ?_
                                                                                                          refine va_get (D := D) (ci := 12) (v := .ref h11) (C := RX12) (T := TX12) (N := 24) hx hb hts hin12 hown hK hP 3 rfl rfl 18 (by decide) (hts (.fieldLink RX12 44 "MissedPointsModel" "items" "[I") (by decide +kernel)) (fun _ h9 => h9) rfl dX12_paint_49 ?_
                                                                                                          refine lv_bipush (v := 40) hx hb dX12_paint_52 (by decide) ?_
                                                                                                          refine lv_iload_n hx hb dX12_paint_54 rfl (lv_at hl 2 rfl) ?_
                                                                                                          refine lv_imul hx hb dX12_paint_55 ?_
                                                                                                          refine lz_top (y := 80) (by decide) ?_
                                                                                                          refine lv_iload_n hx hb dX12_paint_56 rfl (lv_at hl 0 rfl) ?_
                                                                                                          refine lv_iadd hx hb dX12_paint_57 ?_
                                                                                                          refine lz_top (y := 101) (by decide) ?_
                                                                                                          refine lv_iload_n hx hb dX12_paint_58 rfl (lv_at hl 0 rfl) ?_
                                                                                                          refine lv_aload_n hx hb dX12_paint_59 rfl (lv_at hl 1 rfl) ?_
                                                                                                          refine va_get (D := D) (ci := 12) (v := .int 0) (C := RX12) (T := TX12) (N := 24) hx hb hts hin12 hown hK hP 3 rfl rfl 0 (by decide) (hts (.fieldLink RX12 63 "MissedPointsModel" "many" "I") (by decide +kernel)) (fun _ h9 => h9) rfl dX12_paint_60 ?_
                                                                                                          refine lv_icmp_ge (tgt := 75) hx hb dX12_paint_63 (by decide) (fun c1194 => ?_) (fun c1194 => ?_)
                                                                                                          · refine lv_iconst (v := 0) hx hb dX12_paint_75 (by decide) ?_
                                                                                                            refine lz_astc hx hb hK hP hD hS 2 0 rfl rfl (lz_vp (x := 101) (n := 160) (by decide) (by decide)) dX12_paint_76 (fun H locs hP hD hS => ?_)
                                                                                                            refine lv_iinc (v := 22) (lv' := [(3, .int 22), (0, .ref h0), (1, .int 2), (2, .int x1)]) hx hb dX12_paint_77 hl (k := 0) rfl (by decide) (by decide) rfl (fun ls hl => ?_)
                                                                                                            refine lv_goto (tgt := 42) hx hb dX12_paint_80 (by decide) ?_
                                                                                                            refine lv_iload_n hx hb dX12_paint_42 rfl (lv_at hl 0 rfl) ?_
                                                                                                            refine lv_bipush (v := 40) hx hb dX12_paint_43 (by decide) ?_
                                                                                                            refine lv_icmp_ge (tgt := 83) hx hb dX12_paint_45 (by decide) (fun c1195 => ?_) (fun c1195 => ?_)
                                                                                                            · exact absurd c1195 (by decide)
                                                                                                            · refine lv_aload_n hx hb dX12_paint_48 rfl (lv_at hl 1 rfl) ?_
                                                                                                              refine va_get (D := D) (ci := 12) (v := .ref h11) (C := RX12) (T := TX12) (N := 24) hx hb hts hin12 hown hK hP 3 rfl rfl 18 (by decide) (hts (.fieldLink RX12 44 "MissedPointsModel" "items" "[I") (by decide +kernel)) (fun _ h9 => h9) rfl dX12_paint_49 ?_
                                                                                                              refine lv_bipush (v := 40) hx hb dX12_paint_52 (by decide) ?_
                                                                                                              refine lv_iload_n hx hb dX12_paint_54 rfl (lv_at hl 2 rfl) ?_
                                                                                                              refine lv_imul hx hb dX12_paint_55 ?_
                                                                                                              refine lz_top (y := 80) (by decide) ?_
                                                                                                              refine lv_iload_n hx hb dX12_paint_56 rfl (lv_at hl 0 rfl) ?_
                                                                                                              refine lv_iadd hx hb dX12_paint_57 ?_
                                                                                                              refine lz_top (y := 102) (by decide) ?_
                                                                                                              refine lv_iload_n hx hb dX12_paint_58 rfl (lv_at hl 0 rfl) ?_
                                                                                                              refine lv_aload_n hx hb dX12_paint_59 rfl (lv_at hl 1 rfl) ?_
                                                                                                              refine va_get (D := D) (ci := 12) (v := .int 0) (C := RX12) (T := TX12) (N := 24) hx hb hts hin12 hown hK hP 3 rfl rfl 0 (by decide) (hts (.fieldLink RX12 63 "MissedPointsModel" "many" "I") (by decide +kernel)) (fun _ h9 => h9) rfl dX12_paint_60 ?_
                                                                                                              refine lv_icmp_ge (tgt := 75) hx hb dX12_paint_63 (by decide) (fun c1196 => ?_) (fun c1196 => ?_)
                                                                                                              · refine lv_iconst (v := 0) hx hb dX12_paint_75 (by decide) ?_
                                                                                                                refine lz_astc hx hb hK hP hD hS 2 0 rfl rfl (lz_vp (x := 102) (n := 160) (by decide) (by decide)) dX12_paint_76 (fun H locs hP hD hS => ?_)
                                                                                                                refine lv_iinc (v := 23) (lv' := [(3, .int 23), (0, .ref h0), (1, .int 2), (2, .int x1)]) hx hb dX12_paint_77 hl (k := 0) rfl (by decide) (by decide) rfl (fun ls hl => ?_)
                                                                                                                refine lv_goto (tgt := 42) hx hb dX12_paint_80 (by decide) ?_
                                                                                                                refine lv_iload_n hx hb dX12_paint_42 rfl (lv_at hl 0 rfl) ?_
                                                                                                                refine lv_bipush (v := 40) hx hb dX12_paint_43 (by decide) ?_
                                                                                                                refine lv_icmp_ge (tgt := 83) hx hb dX12_paint_45 (by decide) (fun c1197 => ?_) (fun c1197 => ?_)
                                                                                                                · exact absurd c1197 (by decide)
                                                                                                                · refine lv_aload_n hx hb dX12_paint_48 rfl (lv_at hl 1 rfl) ?_
                                                                                                                  refine va_get (D := D) (ci := 12) (v := .ref h11) (C := RX12) (T := TX12) (N := 24) hx hb hts hin12 hown hK hP 3 rfl rfl 18 (by decide) (hts (.fieldLink RX12 44 "MissedPointsModel" "items" "[I") (by decide +kernel)) (fun _ h9 => h9) rfl dX12_paint_49 ?_
                                                                                                                  refine lv_bipush (v := 40) hx hb dX12_paint_52 (by decide) ?_
                                                                                                                  refine lv_iload_n hx hb dX12_paint_54 rfl (lv_at hl 2 rfl) ?_
                                                                                                                  refine lv_imul hx hb dX12_paint_55 ?_
                                                                                                                  refine lz_top (y := 80) (by decide) ?_
                                                                                                                  refine lv_iload_n hx hb dX12_paint_56 rfl (lv_at hl 0 rfl) ?_
                                                                                                                  refine lv_iadd hx hb dX12_paint_57 ?_
                                                                                                                  refine lz_top (y := 103) (by decide) ?_
                                                                                                                  refine lv_iload_n hx hb dX12_paint_58 rfl (lv_at hl 0 rfl) ?_
                                                                                                                  refine lv_aload_n hx hb dX12_paint_59 rfl (lv_at hl 1 rfl) ?_
                                                                                                                  refine va_get (D := D) (ci := 12) (v := .int 0) (C := RX12) (T := TX12) (N := 24) hx hb hts hin12 hown hK hP 3 rfl rfl 0 (by decide) (hts (.fieldLink RX12 63 "MissedPointsModel" "many" "I") (by decide +kernel)) (fun _ h9 => h9) rfl dX12_paint_60 ?_
                                                                                                                  refine lv_icmp_ge (tgt := 75) hx hb dX12_paint_63 (by decide) (fun c1198 => ?_) (fun c1198 => ?_)
                                                                                                                  · refine lv_iconst (v := 0) hx hb dX12_paint_75 (by decide) ?_
                                                                                                                    refine lz_astc hx hb hK hP hD hS 2 0 rfl rfl (lz_vp (x := 103) (n := 160) (by decide) (by decide)) dX12_paint_76 (fun H locs hP hD hS => ?_)
                                                                                                                    refine lv_iinc (v := 24) (lv' := [(3, .int 24), (0, .ref h0), (1, .int 2), (2, .int x1)]) hx hb dX12_paint_77 hl (k := 0) rfl (by decide) (by decide) rfl (fun ls hl => ?_)
                                                                                                                    refine lv_goto (tgt := 42) hx hb dX12_paint_80 (by decide) ?_
                                                                                                                    refine lv_iload_n hx hb dX12_paint_42 rfl (lv_at hl 0 rfl) ?_
                                                                                                                    refine lv_bipush (v := 40) hx hb dX12_paint_43 (by decide) ?_
                                                                                                                    refine lv_icmp_ge (tgt := 83) hx hb dX12_paint_45 (by decide) (fun c1199 => ?_) (fun c1199 => ?_)
                                                                                                                    · exact absurd c1199 (by decide)
                                                                                                                    · refine lv_aload_n hx hb dX12_paint_48 rfl (lv_at hl 1 rfl) ?_
                                                                                                                      refine va_get (D := D) (ci := 12) (v := .ref h11) (C := RX12) (T := TX12) (N := 24) hx hb hts hin12 hown hK hP 3 rfl rfl 18 (by decide) (hts (.fieldLink RX12 44 "MissedPointsModel" "items" "[I") (by decide +kernel)) (fun _ h9 => h9) rfl dX12_paint_49 ?_
                                                                                                                      refine lv_bipush (v := 40) hx hb dX12_paint_52 (by decide) ?_
                                                                                                                      refine lv_iload_n hx hb dX12_paint_54 rfl (lv_at hl 2 rfl) ?_
                                                                                                                      refine lv_imul hx hb dX12_paint_55 ?_
                                                                                                                      refine lz_top (y := 80) (by decide) ?_
                                                                                                                      refine lv_iload_n hx hb dX12_paint_56 rfl (lv_at hl 0 rfl) ?_
                                                                                                                      refine lv_iadd hx hb dX12_paint_57 ?_
                                                                                                                      refine lz_top (y := 104) (by decide) ?_
                                                                                                                      refine lv_iload_n hx hb dX12_paint_58 rfl (lv_at hl 0 rfl) ?_
                                                                                                                      refine lv_aload_n hx hb dX12_paint_59 rfl (lv_at hl 1 rfl) ?_
                                                                                                                      refine va_get (D := D) (ci := 12) (v := .int 0) (C := RX12) (T := TX12) (N := 24) hx hb hts hin12 hown hK hP 3 rfl rfl 0 (by decide) (hts (.fieldLink RX12 63 "MissedPointsModel" "many" "I") (by decide +kernel)) (fun _ h9 => h9) rfl dX12_paint_60 ?_
                                                                                                                      refine lv_icmp_ge (tgt := 75) hx hb dX12_paint_63 (by decide) (fun c1200 => ?_) (fun c1200 => ?_)
                                                                                                                      · refine lv_iconst (v := 0) hx hb dX12_paint_75 (by decide) ?_
                                                                                                                        refine lz_astc hx hb hK hP hD hS 2 0 rfl rfl (lz_vp (x := 104) (n := 160) (by decide) (by decide)) dX12_paint_76 (fun H locs hP hD hS => ?_)
                                                                                                                        refine lv_iinc (v := 25) (lv' := [(3, .int 25), (0, .ref h0), (1, .int 2), (2, .int x1)]) hx hb dX12_paint_77 hl (k := 0) rfl (by decide) (by decide) rfl (fun ls hl => ?_)
                                                                                                                        refine lv_goto (tgt := 42) hx hb dX12_paint_80 (by decide) ?_
                                                                                                                        refine lv_iload_n hx hb dX12_paint_42 rfl (lv_at hl 0 rfl) ?_
                                                                                                                        refine lv_bipush (v := 40) hx hb dX12_paint_43 (by decide) ?_
                                                                                                                        refine lv_icmp_ge (tgt := 83) hx hb dX12_paint_45 (by decide) (fun c1201 => ?_) (fun c1201 => ?_)
                                                                                                                        · exact absurd c1201 (by decide)
                                                                                                                        · refine lv_aload_n hx hb dX12_paint_48 rfl (lv_at hl 1 rfl) ?_
                                                                                                                          refine va_get (D := D) (ci := 12) (v := .ref h11) (C := RX12) (T := TX12) (N := 24) hx hb hts hin12 hown hK hP 3 rfl rfl 18 (by decide) (hts (.fieldLink RX12 44 "MissedPointsModel" "items" "[I") (by decide +kernel)) (fun _ h9 => h9) rfl dX12_paint_49 ?_
                                                                                                                          refine lv_bipush (v := 40) hx hb dX12_paint_52 (by decide) ?_
                                                                                                                          refine lv_iload_n hx hb dX12_paint_54 rfl (lv_at hl 2 rfl) ?_
                                                                                                                          refine lv_imul hx hb dX12_paint_55 ?_
                                                                                                                          refine lz_top (y := 80) (by decide) ?_
                                                                                                                          refine lv_iload_n hx hb dX12_paint_56 rfl (lv_at hl 0 rfl) ?_
                                                                                                                          refine lv_iadd hx hb dX12_paint_57 ?_
                                                                                                                          refine lz_top (y := 105) (by decide) ?_
                                                                                                                          refine lv_iload_n hx hb dX12_paint_58 rfl (lv_at hl 0 rfl) ?_
                                                                                                                          refine lv_aload_n hx hb dX12_paint_59 rfl (lv_at hl 1 rfl) ?_
                                                                                                                          refine va_get (D := D) (ci := 12) (v := .int 0) (C := RX12) (T := TX12) (N := 24) hx hb hts hin12 hown hK hP 3 rfl rfl 0 (by decide) (hts (.fieldLink RX12 63 "MissedPointsModel" "many" "I") (by decide +kernel)) (fun _ h9 => h9) rfl dX12_paint_60 ?_
                                                                                                                          refine lv_icmp_ge (tgt := 75) hx hb dX12_paint_63 (by decide) (fun c1202 => ?_) (fun c1202 => ?_)
                                                                                                                          · refine lv_iconst (v := 0) hx hb dX12_paint_75 (by decide) ?_
                                                                                                                            refine lz_astc hx hb hK hP hD hS 2 0 rfl rfl (lz_vp (x := 105) (n := 160) (by decide) (by decide)) dX12_paint_76 (fun H locs hP hD hS => ?_)
                                                                                                                            refine lv_iinc (v := 26) (lv' := [(3, .int 26), (0, .ref h0), (1, .int 2), (2, .int x1)]) hx hb dX12_paint_77 hl (k := 0) rfl (by decide) (by decide) rfl (fun ls hl => ?_)
                                                                                                                            refine lv_goto (tgt := 42) hx hb dX12_paint_80 (by decide) ?_
                                                                                                                            refine lv_iload_n hx hb dX12_paint_42 rfl (lv_at hl 0 rfl) ?_
                                                                                                                            refine lv_bipush (v := 40) hx hb dX12_paint_43 (by decide) ?_
                                                                                                                            refine lv_icmp_ge (tgt := 83) hx hb dX12_paint_45 (by decide) (fun c1203 => ?_) (fun c1203 => ?_)
                                                                                                                            · exact absurd c1203 (by decide)
                                                                                                                            · refine lv_aload_n hx hb dX12_paint_48 rfl (lv_at hl 1 rfl) ?_
                                                                                                                              refine va_get (D := D) (ci := 12) (v := .ref h11) (C := RX12) (T := TX12) (N := 24) hx hb hts hin12 hown hK hP 3 rfl rfl 18 (by decide) (hts (.fieldLink RX12 44 "MissedPointsModel" "items" "[I") (by decide +kernel)) (fun _ h9 => h9) rfl dX12_paint_49 ?_
                                                                                                                              refine lv_bipush (v := 40) hx hb dX12_paint_52 (by decide) ?_
                                                                                                                              refine lv_iload_n hx hb dX12_paint_54 rfl (lv_at hl 2 rfl) ?_
                                                                                                                              refine lv_imul hx hb dX12_paint_55 ?_
                                                                                                                              refine lz_top (y := 80) (by decide) ?_
                                                                                                                              refine lv_iload_n hx hb dX12_paint_56 rfl (lv_at hl 0 rfl) ?_
                                                                                                                              refine lv_iadd hx hb dX12_paint_57 ?_
                                                                                                                              refine lz_top (y := 106) (by decide) ?_
                                                                                                                              refine lv_iload_n hx hb dX12_paint_58 rfl (lv_at hl 0 rfl) ?_
                                                                                                                              refine lv_aload_n hx hb dX12_paint_59 rfl (lv_at hl 1 rfl) ?_
                                                                                                                              refine va_get (D := D) (ci := 12) (v := .int 0) (C := RX12) (T := TX12) (N := 24) hx hb hts hin12 hown hK hP 3 rfl rfl 0 (by decide) (hts (.fieldLink RX12 63 "MissedPointsModel" "many" "I") (by decide +kernel)) (fun _ h9 => h9) rfl dX12_paint_60 ?_
                                                                                                                              refine lv_icmp_ge (tgt := 75) hx hb dX12_paint_63 (by decide) (fun c1204 => ?_) (fun c1204 => ?_)
                                                                                                                              · refine lv_iconst (v := 0) hx hb dX12_paint_75 (by decide) ?_
                                                                                                                                refine lz_astc hx hb hK hP hD hS 2 0 rfl rfl (lz_vp (x := 106) (n := 160) (by decide) (by decide)) dX12_paint_76 (fun H locs hP hD hS => ?_)
                                                                                                                                refine lv_iinc (v := 27) (lv' := [(3, .int 27), (0, .ref h0), (1, .int 2), (2, .int x1)]) hx hb dX12_paint_77 hl (k := 0) rfl (by decide) (by decide) rfl (fun ls hl => ?_)
                                                                                                                                refine lv_goto (tgt := 42) hx hb dX12_paint_80 (by decide) ?_
                                                                                                                                refine lv_iload_n hx hb dX12_paint_42 rfl (lv_at hl 0 rfl) ?_
                                                                                                                                refine lv_bipush (v := 40) hx hb dX12_paint_43 (by decide) ?_
                                                                                                                                refine lv_icmp_ge (tgt := 83) hx hb dX12_paint_45 (by decide) (fun c1205 => ?_) (fun c1205 => ?_)
                                                                                                                                · exact absurd c1205 (by decide)
                                                                                                                                · refine lv_aload_n hx hb dX12_paint_48 rfl (lv_at hl 1 rfl) ?_
                                                                                                                                  refine va_get (D := D) (ci := 12) (v := .ref h11) (C := RX12) (T := TX12) (N := 24) hx hb hts hin12 hown hK hP 3 rfl rfl 18 (by decide) (hts (.fieldLink RX12 44 "MissedPointsModel" "items" "[I") (by decide +kernel)) (fun _ h9 => h9) rfl dX12_paint_49 ?_
                                                                                                                                  refine lv_bipush (v := 40) hx hb dX12_paint_52 (by decide) ?_
                                                                                                                                  refine lv_iload_n hx hb dX12_paint_54 rfl (lv_at hl 2 rfl) ?_
                                                                                                                                  refine lv_imul hx hb dX12_paint_55 ?_
                                                                                                                                  refine lz_top (y := 80) (by decide) ?_
                                                                                                                                  refine lv_iload_n hx hb dX12_paint_56 rfl (lv_at hl 0 rfl) ?_
                                                                                                                                  refine lv_iadd hx hb dX12_paint_57 ?_
                                                                                                                                  refine lz_top (y := 107) (by decide) ?_
                                                                                                                                  refine lv_iload_n hx hb dX12_paint_58 rfl (lv_at hl 0 rfl) ?_
                                                                                                                                  refine lv_aload_n hx hb dX12_paint_59 rfl (lv_at hl 1 rfl) ?_
                                                                                                                                  refine va_get (D := D) (ci := 12) (v := .int 0) (C := RX12) (T := TX12) (N := 24) hx hb hts hin12 hown hK hP 3 rfl rfl 0 (by decide) (hts (.fieldLink RX12 63 "MissedPointsModel" "many" "I") (by decide +kernel)) (fun _ h9 => h9) rfl dX12_paint_60 ?_
                                                                                                                                  refine lv_icmp_ge (tgt := 75) hx hb dX12_paint_63 (by decide) (fun c1206 => ?_) (fun c1206 => ?_)
                                                                                                                                  · refine lv_iconst (v := 0) hx hb dX12_paint_75 (by decide) ?_
                                                                                                                                    refine lz_astc hx hb hK hP hD hS 2 0 rfl rfl (lz_vp (x := 107) (n := 160) (by decide) (by decide)) dX12_paint_76 (fun H locs hP hD hS => ?_)
                                                                                                                                    refine lv_iinc (v := 28) (lv' := [(3, .int 28), (0, .ref h0), (1, .int 2), (2, .int x1)]) hx hb dX12_paint_77 hl (k := 0) rfl (by decide) (by decide) rfl (fun ls hl => ?_)
                                                                                                                                    refine lv_goto (tgt := 42) hx hb dX12_paint_80 (by decide) ?_
                                                                                                                                    refine lv_iload_n hx hb dX12_paint_42 rfl (lv_at hl 0 rfl) ?_
                                                                                                                                    refine lv_bipush (v := 40) hx hb dX12_paint_43 (by decide) ?_
                                                                                                                                    refine lv_icmp_ge (tgt := 83) hx hb dX12_paint_45 (by decide) (fun c1207 => ?_) (fun c1207 => ?_)
                                                                                                                                    · exact absurd c1207 (by decide)
                                                                                                                                    · refine lv_aload_n hx hb dX12_paint_48 rfl (lv_at hl 1 rfl) ?_
                                                                                                                                      refine va_get (D := D) (ci := 12) (v := .ref h11) (C := RX12) (T := TX12) (N := 24) hx hb hts hin12 hown hK hP 3 rfl rfl 18 (by decide) (hts (.fieldLink RX12 44 "MissedPointsModel" "items" "[I") (by decide +kernel)) (fun _ h9 => h9) rfl dX12_paint_49 ?_
                                                                                                                                      refine lv_bipush (v := 40) hx hb dX12_paint_52 (by decide) ?_
                                                                                                                                      refine lv_iload_n hx hb dX12_paint_54 rfl (lv_at hl 2 rfl) ?_
                                                                                                                                      refine lv_imul hx hb dX12_paint_55 ?_
                                                                                                                                      refine lz_top (y := 80) (by decide) ?_
                                                                                                                                      refine lv_iload_n hx hb dX12_paint_56 rfl (lv_at hl 0 rfl) ?_
                                                                                                                                      refine lv_iadd hx hb dX12_paint_57 ?_
                                                                                                                                      refine lz_top (y := 108) (by decide) ?_
                                                                                                                                      refine lv_iload_n hx hb dX12_paint_58 rfl (lv_at hl 0 rfl) ?_
                                                                                                                                      refine lv_aload_n hx hb dX12_paint_59 rfl (lv_at hl 1 rfl) ?_
                                                                                                                                      refine va_get (D := D) (ci := 12) (v := .int 0) (C := RX12) (T := TX12) (N := 24) hx hb hts hin12 hown hK hP 3 rfl rfl 0 (by decide) (hts (.fieldLink RX12 63 "MissedPointsModel" "many" "I") (by decide +kernel)) (fun _ h9 => h9) rfl dX12_paint_60 ?_
                                                                                                                                      refine lv_icmp_ge (tgt := 75) hx hb dX12_paint_63 (by decide) (fun c1208 => ?_) (fun c1208 => ?_)
                                                                                                                                      · refine lv_iconst (v := 0) hx hb dX12_paint_75 (by decide) ?_
                                                                                                                                        refine lz_astc hx hb hK hP hD hS 2 0 rfl rfl (lz_vp (x := 108) (n := 160) (by decide) (by decide)) dX12_paint_76 (fun H locs hP hD hS => ?_)
                                                                                                                                        refine lv_iinc (v := 29) (lv' := [(3, .int 29), (0, .ref h0), (1, .int 2), (2, .int x1)]) hx hb dX12_paint_77 hl (k := 0) rfl (by decide) (by decide) rfl (fun ls hl => ?_)
                                                                                                                                        refine lv_goto (tgt := 42) hx hb dX12_paint_80 (by decide) ?_
                                                                                                                                        refine lv_iload_n hx hb dX12_paint_42 rfl (lv_at hl 0 rfl) ?_
                                                                                                                                        refine lv_bipush (v := 40) hx hb dX12_paint_43 (by decide) ?_
                                                                                                                                        refine lv_icmp_ge (tgt := 83) hx hb dX12_paint_45 (by decide) (fun c1209 => ?_) (fun c1209 => ?_)
                                                                                                                                        · exact absurd c1209 (by decide)
                                                                                                                                        · refine lv_aload_n hx hb dX12_paint_48 rfl (lv_at hl 1 rfl) ?_
                                                                                                                                          refine va_get (D := D) (ci := 12) (v := .ref h11) (C := RX12) (T := TX12) (N := 24) hx hb hts hin12 hown hK hP 3 rfl rfl 18 (by decide) (hts (.fieldLink RX12 44 "MissedPointsModel" "items" "[I") (by decide +kernel)) (fun _ h9 => h9) rfl dX12_paint_49 ?_
                                                                                                                                          refine lv_bipush (v := 40) hx hb dX12_paint_52 (by decide) ?_
                                                                                                                                          refine lv_iload_n hx hb dX12_paint_54 rfl (lv_at hl 2 rfl) ?_
                                                                                                                                          refine lv_imul hx hb dX12_paint_55 ?_
                                                                                                                                          refine lz_top (y := 80) (by decide) ?_
                                                                                                                                          refine lv_iload_n hx hb dX12_paint_56 rfl (lv_at hl 0 rfl) ?_
                                                                                                                                          refine lv_iadd hx hb dX12_paint_57 ?_
                                                                                                                                          refine lz_top (y := 109) (by decide) ?_
                                                                                                                                          refine lv_iload_n hx hb dX12_paint_58 rfl (lv_at hl 0 rfl) ?_
                                                                                                                                          refine lv_aload_n hx hb dX12_paint_59 rfl (lv_at hl 1 rfl) ?_
                                                                                                                                          refine va_get (D := D) (ci := 12) (v := .int 0) (C := RX12) (T := TX12) (N := 24) hx hb hts hin12 hown hK hP 3 rfl rfl 0 (by decide) (hts (.fieldLink RX12 63 "MissedPointsModel" "many" "I") (by decide +kernel)) (fun _ h9 => h9) rfl dX12_paint_60 ?_
                                                                                                                                          refine lv_icmp_ge (tgt := 75) hx hb dX12_paint_63 (by decide) (fun c1210 => ?_) (fun c1210 => ?_)
                                                                                                                                          · refine lv_iconst (v := 0) hx hb dX12_paint_75 (by decide) ?_
                                                                                                                                            refine lz_astc hx hb hK hP hD hS 2 0 rfl rfl (lz_vp (x := 109) (n := 160) (by decide) (by decide)) dX12_paint_76 (fun H locs hP hD hS => ?_)
                                                                                                                                            refine lv_iinc (v := 30) (lv' := [(3, .int 30), (0, .ref h0), (1, .int 2), (2, .int x1)]) hx hb dX12_paint_77 hl (k := 0) rfl (by decide) (by decide) rfl (fun ls hl => ?_)
                                                                                                                                            refine lv_goto (tgt := 42) hx hb dX12_paint_80 (by decide) ?_
                                                                                                                                            refine lv_iload_n hx hb dX12_paint_42 rfl (lv_at hl 0 rfl) ?_
                                                                                                                                            refine lv_bipush (v := 40) hx hb dX12_paint_43 (by decide) ?_
                                                                                                                                            refine lv_icmp_ge (tgt := 83) hx hb dX12_paint_45 (by decide) (fun c1211 => ?_) (fun c1211 => ?_)
                                                                                                                                            · exact absurd c1211 (by decide)
                                                                                                                                            · refine lv_aload_n hx hb dX12_paint_48 rfl (lv_at hl 1 rfl) ?_
                                                                                                                                              refine va_get (D := D) (ci := 12) (v := .ref h11) (C := RX12) (T := TX12) (N := 24) hx hb hts hin12 hown hK hP 3 rfl rfl 18 (by decide) (hts (.fieldLink RX12 44 "MissedPointsModel" "items" "[I") (by decide +kernel)) (fun _ h9 => h9) rfl dX12_paint_49 ?_
                                                                                                                                              refine lv_bipush (v := 40) hx hb dX12_paint_52 (by decide) ?_
                                                                                                                                              refine lv_iload_n hx hb dX12_paint_54 rfl (lv_at hl 2 rfl) ?_
                                                                                                                                              refine lv_imul hx hb dX12_paint_55 ?_
                                                                                                                                              refine lz_top (y := 80) (by decide) ?_
                                                                                                                                              refine lv_iload_n hx hb dX12_paint_56 rfl (lv_at hl 0 rfl) ?_
                                                                                                                                              refine lv_iadd hx hb dX12_paint_57 ?_
                                                                                                                                              refine lz_top (y := 110) (by decide) ?_
                                                                                                                                              refine lv_iload_n hx hb dX12_paint_58 rfl (lv_at hl 0 rfl) ?_
                                                                                                                                              refine lv_aload_n hx hb dX12_paint_59 rfl (lv_at hl 1 rfl) ?_
                                                                                                                                              refine va_get (D := D) (ci := 12) (v := .int 0) (C := RX12) (T := TX12) (N := 24) hx hb hts hin12 hown hK hP 3 rfl rfl 0 (by decide) (hts (.fieldLink RX12 63 "MissedPointsModel" "many" "I") (by decide +kernel)) (fun _ h9 => h9) rfl dX12_paint_60 ?_
                                                                                                                                              refine lv_icmp_ge (tgt := 75) hx hb dX12_paint_63 (by decide) (fun c1212 => ?_) (fun c1212 => ?_)
                                                                                                                                              · refine lv_iconst (v := 0) hx hb dX12_paint_75 (by decide) ?_
                                                                                                                                                refine lz_astc hx hb hK hP hD hS 2 0 rfl rfl (lz_vp (x := 110) (n := 160) (by decide) (by decide)) dX12_paint_76 (fun H locs hP hD hS => ?_)
                                                                                                                                                refine lv_iinc (v := 31) (lv' := [(3, .int 31), (0, .ref h0), (1, .int 2), (2, .int x1)]) hx hb dX12_paint_77 hl (k := 0) rfl (by decide) (by decide) rfl (fun ls hl => ?_)
                                                                                                                                                refine lv_goto (tgt := 42) hx hb dX12_paint_80 (by decide) ?_
                                                                                                                                                refine lv_iload_n hx hb dX12_paint_42 rfl (lv_at hl 0 rfl) ?_
                                                                                                                                                refine lv_bipush (v := 40) hx hb dX12_paint_43 (by decide) ?_
                                                                                                                                                refine lv_icmp_ge (tgt := 83) hx hb dX12_paint_45 (by decide) (fun c1213 => ?_) (fun c1213 => ?_)
                                                                                                                                                · exact absurd c1213 (by decide)
                                                                                                                                                · refine lv_aload_n hx hb dX12_paint_48 rfl (lv_at hl 1 rfl) ?_
                                                                                                                                                  refine va_get (D := D) (ci := 12) (v := .ref h11) (C := RX12) (T := TX12) (N := 24) hx hb hts hin12 hown hK hP 3 rfl rfl 18 (by decide) (hts (.fieldLink RX12 44 "MissedPointsModel" "items" "[I") (by decide +kernel)) (fun _ h9 => h9) rfl dX12_paint_49 ?_
                                                                                                                                                  refine lv_bipush (v := 40) hx hb dX12_paint_52 (by decide) ?_
                                                                                                                                                  refine lv_iload_n hx hb dX12_paint_54 rfl (lv_at hl 2 rfl) ?_
                                                                                                                                                  refine lv_imul hx hb dX12_paint_55 ?_
                                                                                                                                                  refine lz_top (y := 80) (by decide) ?_
                                                                                                                                                  refine lv_iload_n hx hb dX12_paint_56 rfl (lv_at hl 0 rfl) ?_
                                                                                                                                                  refine lv_iadd hx hb dX12_paint_57 ?_
                                                                                                                                                  refine lz_top (y := 111) (by decide) ?_
                                                                                                                                                  refine lv_iload_n hx hb dX12_paint_58 rfl (lv_at hl 0 rfl) ?_
                                                                                                                                                  refine lv_aload_n hx hb dX12_paint_59 rfl (lv_at hl 1 rfl) ?_
                                                                                                                                                  refine va_get (D := D) (ci := 12) (v := .int 0) (C := RX12) (T := TX12) (N := 24) hx hb hts hin12 hown hK hP 3 rfl rfl 0 (by decide) (hts (.fieldLink RX12 63 "MissedPointsModel" "many" "I") (by decide +kernel)) (fun _ h9 => h9) rfl dX12_paint_60 ?_
                                                                                                                                                  refine lv_icmp_ge (tgt := 75) hx hb dX12_paint_63 (by decide) (fun c1214 => ?_) (fun c1214 => ?_)
                                                                                                                                                  · refine lv_iconst (v := 0) hx hb dX12_paint_75 (by decide) ?_
                                                                                                                                                    refine lz_astc hx hb hK hP hD hS 2 0 rfl rfl (lz_vp (x := 111) (n := 160) (by decide) (by decide)) dX12_paint_76 (fun H locs hP hD hS => ?_)
                                                                                                                                                    refine lv_iinc (v := 32) (lv' := [(3, .int 32), (0, .ref h0), (1, .int 2), (2, .int x1)]) hx hb dX12_paint_77 hl (k := 0) rfl (by decide) (by decide) rfl (fun ls hl => ?_)
                                                                                                                                                    refine lv_goto (tgt := 42) hx hb dX12_paint_80 (by decide) ?_
                                                                                                                                                    refine lv_iload_n hx hb dX12_paint_42 rfl (lv_at hl 0 rfl) ?_
                                                                                                                                                    refine lv_bipush (v := 40) hx hb dX12_paint_43 (by decide) ?_
                                                                                                                                                    refine lv_icmp_ge (tgt := 83) hx hb dX12_paint_45 (by decide) (fun c1215 => ?_) (fun c1215 => ?_)
                                                                                                                                                    · exact absurd c1215 (by decide)
                                                                                                                                                    · refine lv_aload_n hx hb dX12_paint_48 rfl (lv_at hl 1 rfl) ?_
                                                                                                                                                      refine va_get (D := D) (ci := 12) (v := .ref h11) (C := RX12) (T := TX12) (N := 24) hx hb hts hin12 hown hK hP 3 rfl rfl 18 (by decide) (hts (.fieldLink RX12 44 "MissedPointsModel" "items" "[I") (by decide +kernel)) (fun _ h9 => h9) rfl dX12_paint_49 ?_
                                                                                                                                                      refine lv_bipush (v := 40) hx hb dX12_paint_52 (by decide) ?_
                                                                                                                                                      refine lv_iload_n hx hb dX12_paint_54 rfl (lv_at hl 2 rfl) ?_
                                                                                                                                                      refine lv_imul hx hb dX12_paint_55 ?_
                                                                                                                                                      refine lz_top (y := 80) (by decide) ?_
                                                                                                                                                      refine lv_iload_n hx hb dX12_paint_56 rfl (lv_at hl 0 rfl) ?_
                                                                                                                                                      refine lv_iadd hx hb dX12_paint_57 ?_
                                                                                                                                                      refine lz_top (y := 112) (by decide) ?_
                                                                                                                                                      refine lv_iload_n hx hb dX12_paint_58 rfl (lv_at hl 0 rfl) ?_
                                                                                                                                                      refine lv_aload_n hx hb dX12_paint_59 rfl (lv_at hl 1 rfl) ?_
                                                                                                                                                      refine va_get (D := D) (ci := 12) (v := .int 0) (C := RX12) (T := TX12) (N := 24) hx hb hts hin12 hown hK hP 3 rfl rfl 0 (by decide) (hts (.fieldLink RX12 63 "MissedPointsModel" "many" "I") (by decide +kernel)) (fun _ h9 => h9) rfl dX12_paint_60 ?_
                                                                                                                                                      refine lv_icmp_ge (tgt := 75) hx hb dX12_paint_63 (by decide) (fun c1216 => ?_) (fun c1216 => ?_)
                                                                                                                                                      · refine lv_iconst (v := 0) hx hb dX12_paint_75 (by decide) ?_
                                                                                                                                                        refine lz_astc hx hb hK hP hD hS 2 0 rfl rfl (lz_vp (x := 112) (n := 160) (by decide) (by decide)) dX12_paint_76 (fun H locs hP hD hS => ?_)
                                                                                                                                                        refine lv_iinc (v := 33) (lv' := [(3, .int 33), (0, .ref h0), (1, .int 2), (2, .int x1)]) hx hb dX12_paint_77 hl (k := 0) rfl (by decide) (by decide) rfl (fun ls hl => ?_)
                                                                                                                                                        refine lv_goto (tgt := 42) hx hb dX12_paint_80 (by decide) ?_
                                                                                                                                                        refine lv_iload_n hx hb dX12_paint_42 rfl (lv_at hl 0 rfl) ?_
                                                                                                                                                        refine lv_bipush (v := 40) hx hb dX12_paint_43 (by decide) ?_
                                                                                                                                                        refine lv_icmp_ge (tgt := 83) hx hb dX12_paint_45 (by decide) (fun c1217 => ?_) (fun c1217 => ?_)
                                                                                                                                                        · exact absurd c1217 (by decide)
                                                                                                                                                        · refine lv_aload_n hx hb dX12_paint_48 rfl (lv_at hl 1 rfl) ?_
                                                                                                                                                          refine va_get (D := D) (ci := 12) (v := .ref h11) (C := RX12) (T := TX12) (N := 24) hx hb hts hin12 hown hK hP 3 rfl rfl 18 (by decide) (hts (.fieldLink RX12 44 "MissedPointsModel" "items" "[I") (by decide +kernel)) (fun _ h9 => h9) rfl dX12_paint_49 ?_
                                                                                                                                                          refine lv_bipush (v := 40) hx hb dX12_paint_52 (by decide) ?_
                                                                                                                                                          refine lv_iload_n hx hb dX12_paint_54 rfl (lv_at hl 2 rfl) ?_
                                                                                                                                                          refine lv_imul hx hb dX12_paint_55 ?_
                                                                                                                                                          refine lz_top (y := 80) (by decide) ?_
                                                                                                                                                          refine lv_iload_n hx hb dX12_paint_56 rfl (lv_at hl 0 rfl) ?_
                                                                                                                                                          refine lv_iadd hx hb dX12_paint_57 ?_
                                                                                                                                                          refine lz_top (y := 113) (by decide) ?_
                                                                                                                                                          refine lv_iload_n hx hb dX12_paint_58 rfl (lv_at hl 0 rfl) ?_
                                                                                                                                                          refine lv_aload_n hx hb dX12_paint_59 rfl (lv_at hl 1 rfl) ?_
                                                                                                                                                          refine va_get (D := D) (ci := 12) (v := .int 0) (C := RX12) (T := TX12) (N := 24) hx hb hts hin12 hown hK hP 3 rfl rfl 0 (by decide) (hts (.fieldLink RX12 63 "MissedPointsModel" "many" "I") (by decide +kernel)) (fun _ h9 => h9) rfl dX12_paint_60 ?_
                                                                                                                                                          refine lv_icmp_ge (tgt := 75) hx hb dX12_paint_63 (by decide) (fun c1218 => ?_) (fun c1218 => ?_)
                                                                                                                                                          · refine lv_iconst (v := 0) hx hb dX12_paint_75 (by decide) ?_
                                                                                                                                                            refine lz_astc hx hb hK hP hD hS 2 0 rfl rfl (lz_vp (x := 113) (n := 160) (by decide) (by decide)) dX12_paint_76 (fun H locs hP hD hS => ?_)
                                                                                                                                                            refine lv_iinc (v := 34) (lv' := [(3, .int 34), (0, .ref h0), (1, .int 2), (2, .int x1)]) hx hb dX12_paint_77 hl (k := 0) rfl (by decide) (by decide) rfl (fun ls hl => ?_)
                                                                                                                                                            refine lv_goto (tgt := 42) hx hb dX12_paint_80 (by decide) ?_
                                                                                                                                                            refine lv_iload_n hx hb dX12_paint_42 rfl (lv_at hl 0 rfl) ?_
                                                                                                                                                            refine lv_bipush (v := 40) hx hb dX12_paint_43 (by decide) ?_
                                                                                                                                                            refine lv_icmp_ge (tgt := 83) hx hb dX12_paint_45 (by decide) (fun c1219 => ?_) (fun c1219 => ?_)
                                                                                                                                                            · exact absurd c1219 (by decide)
                                                                                                                                                            · refine lv_aload_n hx hb dX12_paint_48 rfl (lv_at hl 1 rfl) ?_
                                                                                                                                                              refine va_get (D := D) (ci := 12) (v := .ref h11) (C := RX12) (T := TX12) (N := 24) hx hb hts hin12 hown hK hP 3 rfl rfl 18 (by decide) (hts (.fieldLink RX12 44 "MissedPointsModel" "items" "[I") (by decide +kernel)) (fun _ h9 => h9) rfl dX12_paint_49 ?_
                                                                                                                                                              refine lv_bipush (v := 40) hx hb dX12_paint_52 (by decide) ?_
                                                                                                                                                              refine lv_iload_n hx hb dX12_paint_54 rfl (lv_at hl 2 rfl) ?_
                                                                                                                                                              refine lv_imul hx hb dX12_paint_55 ?_
                                                                                                                                                              refine lz_top (y := 80) (by decide) ?_
                                                                                                                                                              refine lv_iload_n hx hb dX12_paint_56 rfl (lv_at hl 0 rfl) ?_
                                                                                                                                                              refine lv_iadd hx hb dX12_paint_57 ?_
                                                                                                                                                              refine lz_top (y := 114) (by decide) ?_
                                                                                                                                                              refine lv_iload_n hx hb dX12_paint_58 rfl (lv_at hl 0 rfl) ?_
                                                                                                                                                              refine lv_aload_n hx hb dX12_paint_59 rfl (lv_at hl 1 rfl) ?_
                                                                                                                                                              refine va_get (D := D) (ci := 12) (v := .int 0) (C := RX12) (T := TX12) (N := 24) hx hb hts hin12 hown hK hP 3 rfl rfl 0 (by decide) (hts (.fieldLink RX12 63 "MissedPointsModel" "many" "I") (by decide +kernel)) (fun _ h9 => h9) rfl dX12_paint_60 ?_
                                                                                                                                                              refine lv_icmp_ge (tgt := 75) hx hb dX12_paint_63 (by decide) (fun c1220 => ?_) (fun c1220 => ?_)
                                                                                                                                                              · refine lv_iconst (v := 0) hx hb dX12_paint_75 (by decide) ?_
                                                                                                                                                                refine lz_astc hx hb hK hP hD hS 2 0 rfl rfl (lz_vp (x := 114) (n := 160) (by decide) (by decide)) dX12_paint_76 (fun H locs hP hD hS => ?_)
                                                                                                                                                                refine lv_iinc (v := 35) (lv' := [(3, .int 35), (0, .ref h0), (1, .int 2), (2, .int x1)]) hx hb dX12_paint_77 hl (k := 0) rfl (by decide) (by decide) rfl (fun ls hl => ?_)
                                                                                                                                                                refine lv_goto (tgt := 42) hx hb dX12_paint_80 (by decide) ?_
                                                                                                                                                                refine lv_iload_n hx hb dX12_paint_42 rfl (lv_at hl 0 rfl) ?_
                                                                                                                                                                refine lv_bipush (v := 40) hx hb dX12_paint_43 (by decide) ?_
                                                                                                                                                                refine lv_icmp_ge (tgt := 83) hx hb dX12_paint_45 (by decide) (fun c1221 => ?_) (fun c1221 => ?_)
                                                                                                                                                                · exact absurd c1221 (by decide)
                                                                                                                                                                · refine lv_aload_n hx hb dX12_paint_48 rfl (lv_at hl 1 rfl) ?_
                                                                                                                                                                  refine va_get (D := D) (ci := 12) (v := .ref h11) (C := RX12) (T := TX12) (N := 24) hx hb hts hin12 hown hK hP 3 rfl rfl 18 (by decide) (hts (.fieldLink RX12 44 "MissedPointsModel" "items" "[I") (by decide +kernel)) (fun _ h9 => h9) rfl dX12_paint_49 ?_
                                                                                                                                                                  refine lv_bipush (v := 40) hx hb dX12_paint_52 (by decide) ?_
                                                                                                                                                                  refine lv_iload_n hx hb dX12_paint_54 rfl (lv_at hl 2 rfl) ?_
                                                                                                                                                                  refine lv_imul hx hb dX12_paint_55 ?_
                                                                                                                                                                  refine lz_top (y := 80) (by decide) ?_
                                                                                                                                                                  refine lv_iload_n hx hb dX12_paint_56 rfl (lv_at hl 0 rfl) ?_
                                                                                                                                                                  refine lv_iadd hx hb dX12_paint_57 ?_
                                                                                                                                                                  refine lz_top (y := 115) (by decide) ?_
                                                                                                                                                                  refine lv_iload_n hx hb dX12_paint_58 rfl (lv_at hl 0 rfl) ?_
                                                                                                                                                                  refine lv_aload_n hx hb dX12_paint_59 rfl (lv_at hl 1 rfl) ?_
                                                                                                                                                                  refine va_get (D := D) (ci := 12) (v := .int 0) (C := RX12) (T := TX12) (N := 24) hx hb hts hin12 hown hK hP 3 rfl rfl 0 (by decide) (hts (.fieldLink RX12 63 "MissedPointsModel" "many" "I") (by decide +kernel)) (fun _ h9 => h9) rfl dX12_paint_60 ?_
                                                                                                                                                                  refine lv_icmp_ge (tgt := 75) hx hb dX12_paint_63 (by decide) (fun c1222 => ?_) (fun c1222 => ?_)
                                                                                                                                                                  · refine lv_iconst (v := 0) hx hb dX12_paint_75 (by decide) ?_
                                                                                                                                                                    refine lz_astc hx hb hK hP hD hS 2 0 rfl rfl (lz_vp (x := 115) (n := 160) (by decide) (by decide)) dX12_paint_76 (fun H locs hP hD hS => ?_)
                                                                                                                                                                    refine lv_iinc (v := 36) (lv' := [(3, .int 36), (0, .ref h0), (1, .int 2), (2, .int x1)]) hx hb dX12_paint_77 hl (k := 0) rfl (by decide) (by decide) rfl (fun ls hl => ?_)
                                                                                                                                                                    refine lv_goto (tgt := 42) hx hb dX12_paint_80 (by decide) ?_
                                                                                                                                                                    refine lv_iload_n hx hb dX12_paint_42 rfl (lv_at hl 0 rfl) ?_
                                                                                                                                                                    refine lv_bipush (v := 40) hx hb dX12_paint_43 (by decide) ?_
                                                                                                                                                                    refine lv_icmp_ge (tgt := 83) hx hb dX12_paint_45 (by decide) (fun c1223 => ?_) (fun c1223 => ?_)
                                                                                                                                                                    · exact absurd c1223 (by decide)
                                                                                                                                                                    · refine lv_aload_n hx hb dX12_paint_48 rfl (lv_at hl 1 rfl) ?_
                                                                                                                                                                      refine va_get (D := D) (ci := 12) (v := .ref h11) (C := RX12) (T := TX12) (N := 24) hx hb hts hin12 hown hK hP 3 rfl rfl 18 (by decide) (hts (.fieldLink RX12 44 "MissedPointsModel" "items" "[I") (by decide +kernel)) (fun _ h9 => h9) rfl dX12_paint_49 ?_
                                                                                                                                                                      refine lv_bipush (v := 40) hx hb dX12_paint_52 (by decide) ?_
                                                                                                                                                                      refine lv_iload_n hx hb dX12_paint_54 rfl (lv_at hl 2 rfl) ?_
                                                                                                                                                                      refine lv_imul hx hb dX12_paint_55 ?_
                                                                                                                                                                      refine lz_top (y := 80) (by decide) ?_
                                                                                                                                                                      refine lv_iload_n hx hb dX12_paint_56 rfl (lv_at hl 0 rfl) ?_
                                                                                                                                                                      refine lv_iadd hx hb dX12_paint_57 ?_
                                                                                                                                                                      refine lz_top (y := 116) (by decide) ?_
                                                                                                                                                                      refine lv_iload_n hx hb dX12_paint_58 rfl (lv_at hl 0 rfl) ?_
                                                                                                                                                                      refine lv_aload_n hx hb dX12_paint_59 rfl (lv_at hl 1 rfl) ?_
                                                                                                                                                                      refine va_get (D := D) (ci := 12) (v := .int 0) (C := RX12) (T := TX12) (N := 24) hx hb hts hin12 hown hK hP 3 rfl rfl 0 (by decide) (hts (.fieldLink RX12 63 "MissedPointsModel" "many" "I") (by decide +kernel)) (fun _ h9 => h9) rfl dX12_paint_60 ?_
                                                                                                                                                                      refine lv_icmp_ge (tgt := 75) hx hb dX12_paint_63 (by decide) (fun c1224 => ?_) (fun c1224 => ?_)
                                                                                                                                                                      · refine lv_iconst (v := 0) hx hb dX12_paint_75 (by decide) ?_
                                                                                                                                                                        refine lz_astc hx hb hK hP hD hS 2 0 rfl rfl (lz_vp (x := 116) (n := 160) (by decide) (by decide)) dX12_paint_76 (fun H locs hP hD hS => ?_)
                                                                                                                                                                        refine lv_iinc (v := 37) (lv' := [(3, .int 37), (0, .ref h0), (1, .int 2), (2, .int x1)]) hx hb dX12_paint_77 hl (k := 0) rfl (by decide) (by decide) rfl (fun ls hl => ?_)
                                                                                                                                                                        refine lv_goto (tgt := 42) hx hb dX12_paint_80 (by decide) ?_
                                                                                                                                                                        refine lv_iload_n hx hb dX12_paint_42 rfl (lv_at hl 0 rfl) ?_
                                                                                                                                                                        refine lv_bipush (v := 40) hx hb dX12_paint_43 (by decide) ?_
                                                                                                                                                                        refine lv_icmp_ge (tgt := 83) hx hb dX12_paint_45 (by decide) (fun c1225 => ?_) (fun c1225 => ?_)
                                                                                                                                                                        · exact absurd c1225 (by decide)
                                                                                                                                                                        · refine lv_aload_n hx hb dX12_paint_48 rfl (lv_at hl 1 rfl) ?_
                                                                                                                                                                          refine va_get (D := D) (ci := 12) (v := .ref h11) (C := RX12) (T := TX12) (N := 24) hx hb hts hin12 hown hK hP 3 rfl rfl 18 (by decide) (hts (.fieldLink RX12 44 "MissedPointsModel" "items" "[I") (by decide +kernel)) (fun _ h9 => h9) rfl dX12_paint_49 ?_
                                                                                                                                                                          refine lv_bipush (v := 40) hx hb dX12_paint_52 (by decide) ?_
                                                                                                                                                                          refine lv_iload_n hx hb dX12_paint_54 rfl (lv_at hl 2 rfl) ?_
                                                                                                                                                                          refine lv_imul hx hb dX12_paint_55 ?_
                                                                                                                                                                          refine lz_top (y := 80) (by decide) ?_
                                                                                                                                                                          refine lv_iload_n hx hb dX12_paint_56 rfl (lv_at hl 0 rfl) ?_
                                                                                                                                                                          refine lv_iadd hx hb dX12_paint_57 ?_
                                                                                                                                                                          refine lz_top (y := 117) (by decide) ?_
                                                                                                                                                                          refine lv_iload_n hx hb dX12_paint_58 rfl (lv_at hl 0 rfl) ?_
                                                                                                                                                                          refine lv_aload_n hx hb dX12_paint_59 rfl (lv_at hl 1 rfl) ?_
                                                                                                                                                                          refine va_get (D := D) (ci := 12) (v := .int 0) (C := RX12) (T := TX12) (N := 24) hx hb hts hin12 hown hK hP 3 rfl rfl 0 (by decide) (hts (.fieldLink RX12 63 "MissedPointsModel" "many" "I") (by decide +kernel)) (fun _ h9 => h9) rfl dX12_paint_60 ?_
                                                                                                                                                                          refine lv_icmp_ge (tgt := 75) hx hb dX12_paint_63 (by decide) (fun c1226 => ?_) (fun c1226 => ?_)
                                                                                                                                                                          · refine lv_iconst (v := 0) hx hb dX12_paint_75 (by decide) ?_
                                                                                                                                                                            refine lz_astc hx hb hK hP hD hS 2 0 rfl rfl (lz_vp (x := 117) (n := 160) (by decide) (by decide)) dX12_paint_76 (fun H locs hP hD hS => ?_)
                                                                                                                                                                            refine lv_iinc (v := 38) (lv' := [(3, .int 38), (0, .ref h0), (1, .int 2), (2, .int x1)]) hx hb dX12_paint_77 hl (k := 0) rfl (by decide) (by decide) rfl (fun ls hl => ?_)
                                                                                                                                                                            refine lv_goto (tgt := 42) hx hb dX12_paint_80 (by decide) ?_
                                                                                                                                                                            refine lv_iload_n hx hb dX12_paint_42 rfl (lv_at hl 0 rfl) ?_
                                                                                                                                                                            refine lv_bipush (v := 40) hx hb dX12_paint_43 (by decide) ?_
                                                                                                                                                                            refine lv_icmp_ge (tgt := 83) hx hb dX12_paint_45 (by decide) (fun c1227 => ?_) (fun c1227 => ?_)
                                                                                                                                                                            · exact absurd c1227 (by decide)
                                                                                                                                                                            · refine lv_aload_n hx hb dX12_paint_48 rfl (lv_at hl 1 rfl) ?_
                                                                                                                                                                              refine va_get (D := D) (ci := 12) (v := .ref h11) (C := RX12) (T := TX12) (N := 24) hx hb hts hin12 hown hK hP 3 rfl rfl 18 (by decide) (hts (.fieldLink RX12 44 "MissedPointsModel" "items" "[I") (by decide +kernel)) (fun _ h9 => h9) rfl dX12_paint_49 ?_
                                                                                                                                                                              refine lv_bipush (v := 40) hx hb dX12_paint_52 (by decide) ?_
                                                                                                                                                                              refine lv_iload_n hx hb dX12_paint_54 rfl (lv_at hl 2 rfl) ?_
                                                                                                                                                                              refine lv_imul hx hb dX12_paint_55 ?_
                                                                                                                                                                              refine lz_top (y := 80) (by decide) ?_
                                                                                                                                                                              refine lv_iload_n hx hb dX12_paint_56 rfl (lv_at hl 0 rfl) ?_
                                                                                                                                                                              refine lv_iadd hx hb dX12_paint_57 ?_
                                                                                                                                                                              refine lz_top (y := 118) (by decide) ?_
                                                                                                                                                                              refine lv_iload_n hx hb dX12_paint_58 rfl (lv_at hl 0 rfl) ?_
                                                                                                                                                                              refine lv_aload_n hx hb dX12_paint_59 rfl (lv_at hl 1 rfl) ?_
                                                                                                                                                                              refine va_get (D := D) (ci := 12) (v := .int 0) (C := RX12) (T := TX12) (N := 24) hx hb hts hin12 hown hK hP 3 rfl rfl 0 (by decide) (hts (.fieldLink RX12 63 "MissedPointsModel" "many" "I") (by decide +kernel)) (fun _ h9 => h9) rfl dX12_paint_60 ?_
                                                                                                                                                                              refine lv_icmp_ge (tgt := 75) hx hb dX12_paint_63 (by decide) (fun c1228 => ?_) (fun c1228 => ?_)
                                                                                                                                                                              · refine lv_iconst (v := 0) hx hb dX12_paint_75 (by decide) ?_
                                                                                                                                                                                refine lz_astc hx hb hK hP hD hS 2 0 rfl rfl (lz_vp (x := 118) (n := 160) (by decide) (by decide)) dX12_paint_76 (fun H locs hP hD hS => ?_)
                                                                                                                                                                                refine lv_iinc (v := 39) (lv' := [(3, .int 39), (0, .ref h0), (1, .int 2), (2, .int x1)]) hx hb dX12_paint_77 hl (k := 0) rfl (by decide) (by decide) rfl (fun ls hl => ?_)
                                                                                                                                                                                refine lv_goto (tgt := 42) hx hb dX12_paint_80 (by decide) ?_
                                                                                                                                                                                refine lv_iload_n hx hb dX12_paint_42 rfl (lv_at hl 0 rfl) ?_
                                                                                                                                                                                refine lv_bipush (v := 40) hx hb dX12_paint_43 (by decide) ?_
                                                                                                                                                                                refine lv_icmp_ge (tgt := 83) hx hb dX12_paint_45 (by decide) (fun c1229 => ?_) (fun c1229 => ?_)
                                                                                                                                                                                · exact absurd c1229 (by decide)
                                                                                                                                                                                · refine lv_aload_n hx hb dX12_paint_48 rfl (lv_at hl 1 rfl) ?_
                                                                                                                                                                                  refine va_get (D := D) (ci := 12) (v := .ref h11) (C := RX12) (T := TX12) (N := 24) hx hb hts hin12 hown hK hP 3 rfl rfl 18 (by decide) (hts (.fieldLink RX12 44 "MissedPointsModel" "items" "[I") (by decide +kernel)) (fun _ h9 => h9) rfl dX12_paint_49 ?_
                                                                                                                                                                                  refine lv_bipush (v := 40) hx hb dX12_paint_52 (by decide) ?_
                                                                                                                                                                                  refine lv_iload_n hx hb dX12_paint_54 rfl (lv_at hl 2 rfl) ?_
                                                                                                                                                                                  refine lv_imul hx hb dX12_paint_55 ?_
                                                                                                                                                                                  refine lz_top (y := 80) (by decide) ?_
                                                                                                                                                                                  refine lv_iload_n hx hb dX12_paint_56 rfl (lv_at hl 0 rfl) ?_
                                                                                                                                                                                  refine lv_iadd hx hb dX12_paint_57 ?_
                                                                                                                                                                                  refine lz_top (y := 119) (by decide) ?_
                                                                                                                                                                                  refine lv_iload_n hx hb dX12_paint_58 rfl (lv_at hl 0 rfl) ?_
                                                                                                                                                                                  refine lv_aload_n hx hb dX12_paint_59 rfl (lv_at hl 1 rfl) ?_
                                                                                                                                                                                  refine va_get (D := D) (ci := 12) (v := .int 0) (C := RX12) (T := TX12) (N := 24) hx hb hts hin12 hown hK hP 3 rfl rfl 0 (by decide) (hts (.fieldLink RX12 63 "MissedPointsModel" "many" "I") (by decide +kernel)) (fun _ h9 => h9) rfl dX12_paint_60 ?_
                                                                                                                                                                                  refine lv_icmp_ge (tgt := 75) hx hb dX12_paint_63 (by decide) (fun c1230 => ?_) (fun c1230 => ?_)
                                                                                                                                                                                  · refine lv_iconst (v := 0) hx hb dX12_paint_75 (by decide) ?_
                                                                                                                                                                                    refine lz_astc hx hb hK hP hD hS 2 0 rfl rfl (lz_vp (x := 119) (n := 160) (by decide) (by decide)) dX12_paint_76 (fun H locs hP hD hS => ?_)
                                                                                                                                                                                    refine lv_iinc (v := 40) (lv' := [(3, .int 40), (0, .ref h0), (1, .int 2), (2, .int x1)]) hx hb dX12_paint_77 hl (k := 0) rfl (by decide) (by decide) rfl (fun ls hl => ?_)
                                                                                                                                                                                    refine lv_goto (tgt := 42) hx hb dX12_paint_80 (by decide) ?_
                                                                                                                                                                                    refine lv_iload_n hx hb dX12_paint_42 rfl (lv_at hl 0 rfl) ?_
                                                                                                                                                                                    refine lv_bipush (v := 40) hx hb dX12_paint_43 (by decide) ?_
                                                                                                                                                                                    refine lv_icmp_ge (tgt := 83) hx hb dX12_paint_45 (by decide) (fun c1231 => ?_) (fun c1231 => ?_)
                                                                                                                                                                                    · refine lv_aload_n hx hb dX12_paint_83 rfl (lv_at hl 1 rfl) ?_
                                                                                                                                                                                      refine va_get (D := D) (ci := 12) (v := .int 0) (C := RX12) (T := TX12) (N := 24) hx hb hts hin12 hown hK hP 3 rfl rfl 0 (by decide) (hts (.fieldLink RX12 63 "MissedPointsModel" "many" "I") (by decide +kernel)) (fun _ h9 => h9) rfl dX12_paint_84 ?_
                                                                                                                                                                                      have hP9 := hP.sub (ws' := []) [] rfl
                                                                                                                                                                                      have hD9 := hD.sub (ws' := []) [] (by decide) rfl
                                                                                                                                                                                      subst hAe
                                                                                                                                                                                      exact W.iret (v := 0) hx hb hr (fun t ht hW => ⟨⟨_, (), rfl, by rw [if_neg k974, if_neg k976, if_neg k980, if_neg k982], by rw [ht]; exact hP9, hD9⟩, hS.F ht⟩) hS.2.2 dX12_paint_87
                                                                                                                                                                                    · exact absurd c1231 (by decide)
                                                                                                                                                                                  · exact absurd c1230 (by decide)
                                                                                                                                                                              · exact absurd c1228 (by decide)
                                                                                                                                                                          · exact absurd c1226 (by decide)
                                                                                                                                                                      · exact absurd c1224 (by decide)
                                                                                                                                                                  · exact absurd c1222 (by decide)
                                                                                                                                                              · exact absurd c1220 (by decide)
                                                                                                                                                          · exact absurd c1218 (by decide)
                                                                                                                                                      · exact absurd c1216 (by decide)
                                                                                                                                                  · exact absurd c1214 (by decide)
                                                                                                                                              · exact absurd c1212 (by decide)
                                                                                                                                          · exact absurd c1210 (by decide)
                                                                                                                                      · exact absurd c1208 (by decide)
                                                                                                                                  · exact absurd c1206 (by decide)
                                                                                                                              · exact absurd c1204 (by decide)
                                                                                                                          · exact absurd c1202 (by decide)
                                                                                                                      · exact absurd c1200 (by decide)
                                                                                                                  · exact absurd c1198 (by decide)
                                                                                                              · exact absurd c1196 (by decide)
                                                                                                          · exact absurd c1194 (by decide)
                                                                                                      · exact absurd c1192 (by decide)
                                                                                                  · exact absurd c1190 (by decide)
                                                                                              · exact absurd c1188 (by decide)
                                                                                          · exact absurd c1186 (by decide)
                                                                                      · exact absurd c1184 (by decide)
                                                                                  · exact absurd c1182 (by decide)
                                                                              · exact absurd c1180 (by decide)
                                                                          · exact absurd c1178 (by decide)
                                                                      · exact absurd c1176 (by decide)
                                                                  · exact absurd c1174 (by decide)
                                                              · exact absurd c1172 (by decide)
                                                          · exact absurd c1170 (by decide)
                                                      · exact absurd c1168 (by decide)
                                                  · exact absurd c1166 (by decide)
                                              · exact absurd c1164 (by decide)
                                          · exact absurd c1162 (by decide)
                                      · exact absurd c1160 (by decide)
                                  · exact absurd c1158 (by decide)
                              · exact absurd c1156 (by decide)
                          · exact absurd c1154 (by decide)
                      · exact absurd c1152 (by decide)
                  · obtain rfl : x0 = 3 := by have zf1 := mt (lz_lt x0 (0 : Int32)).mpr k974; have zf2 := mt (lz_lt (3 : Int32) x0).mpr k976; have zf3 := mt (lz_lt x1 (0 : Int32)).mpr k980; have zf4 := mt (lz_lt (1 : Int32) x1).mpr k982; have zf5 := mt (lz_eq x0 (0 : Int32)).mpr k986; have zf6 := mt (lz_eq x0 (1 : Int32)).mpr k1068; have zf7 := mt (lz_eq x0 (2 : Int32)).mpr k1150; have zn0 : (0 : Int32).toInt = 0 := (by decide); have zn1 : (1 : Int32).toInt = 1 := (by decide); have zn2 : (2 : Int32).toInt = 2 := (by decide); have zn3 : (3 : Int32).toInt = 3 := (by decide); rw [lz_eq]; omega
                    refine va_iast hx hb hK hP hD hS 0 0 rfl rfl (lz_vp (x := 3) (n := 4) (by decide) (by decide)) dX12_paint_29 (fun H locs hP hD hS => ?_)
                    have hP : va_P D cls [(h9, .inl (cI, 4, .inl (upd (fun _ => -1) 3 x1))), (h10, .inl (cI, 4, .inl (fun _ => 0))), (h11, .inl (cI, 160, .inl (fun _ => 0))), (h0, .inr (12, [.int 0, .int 1, .ref h1, .ref h2, .ref h3, .ref h4, .ref h5, .ref h6, .ref h7, .ref h8, .int 0, .int 0, .int 0, .int 0, .int 0, .int 0, .ref h9, .ref h10, .ref h11, .ref h12, .ref h13, .ref h14, .ref h15, .int 0])), (h3, .inl (cI, 4096, .inl (upd (fun _ => 0) 0 1)))] H := hP
                    have hD : va_D A [(h9, .inl (cI, 4, .inl (upd (fun _ => -1) 3 x1))), (h10, .inl (cI, 4, .inl (fun _ => 0))), (h11, .inl (cI, 160, .inl (fun _ => 0))), (h0, .inr (12, [.int 0, .int 1, .ref h1, .ref h2, .ref h3, .ref h4, .ref h5, .ref h6, .ref h7, .ref h8, .int 0, .int 0, .int 0, .int 0, .int 0, .int 0, .ref h9, .ref h10, .ref h11, .ref h12, .ref h13, .ref h14, .ref h15, .int 0])), (h3, .inl (cI, 4096, .inl (upd (fun _ => 0) 0 1)))] := hD
                    refine lv_aload_n hx hb dX12_paint_30 rfl (lv_at hl 0 rfl) ?_
                    refine va_get (D := D) (ci := 12) (v := .ref h10) (C := RX12) (T := TX12) (N := 24) hx hb hts hin12 hown hK hP 3 rfl rfl 17 (by decide) (hts (.fieldLink RX12 41 "MissedPointsModel" "size" "[I") (by decide +kernel)) (fun _ h9 => h9) rfl dX12_paint_31 ?_
                    refine lv_iload_n hx hb dX12_paint_34 rfl (lv_at hl 1 rfl) ?_
                    refine lv_aload_n hx hb dX12_paint_35 rfl (lv_at hl 0 rfl) ?_
                    refine va_get (D := D) (ci := 12) (v := .int 0) (C := RX12) (T := TX12) (N := 24) hx hb hts hin12 hown hK hP 3 rfl rfl 0 (by decide) (hts (.fieldLink RX12 63 "MissedPointsModel" "many" "I") (by decide +kernel)) (fun _ h9 => h9) rfl dX12_paint_36 ?_
                    refine lz_astc hx hb hK hP hD hS 1 0 rfl rfl (lz_vp (x := 3) (n := 4) (by decide) (by decide)) dX12_paint_39 (fun H locs hP hD hS => ?_)
                    refine lv_iconst (v := 0) hx hb dX12_paint_40 (by decide) ?_
                    refine lv_istore_n (lv' := [(3, .int 0), (0, .ref h0), (1, .int 3), (2, .int x1)]) hx hb dX12_paint_41 rfl hl (by decide) rfl (fun ls hl => ?_)
                    refine lv_iload_n hx hb dX12_paint_42 rfl (lv_at hl 0 rfl) ?_
                    refine lv_bipush (v := 40) hx hb dX12_paint_43 (by decide) ?_
                    refine lv_icmp_ge (tgt := 83) hx hb dX12_paint_45 (by decide) (fun c1232 => ?_) (fun c1232 => ?_)
                    · exact absurd c1232 (by decide)
                    · refine lv_aload_n hx hb dX12_paint_48 rfl (lv_at hl 1 rfl) ?_
                      refine va_get (D := D) (ci := 12) (v := .ref h11) (C := RX12) (T := TX12) (N := 24) hx hb hts hin12 hown hK hP 3 rfl rfl 18 (by decide) (hts (.fieldLink RX12 44 "MissedPointsModel" "items" "[I") (by decide +kernel)) (fun _ h9 => h9) rfl dX12_paint_49 ?_
                      refine lv_bipush (v := 40) hx hb dX12_paint_52 (by decide) ?_
                      refine lv_iload_n hx hb dX12_paint_54 rfl (lv_at hl 2 rfl) ?_
                      refine lv_imul hx hb dX12_paint_55 ?_
                      refine lz_top (y := 120) (by decide) ?_
                      refine lv_iload_n hx hb dX12_paint_56 rfl (lv_at hl 0 rfl) ?_
                      refine lv_iadd hx hb dX12_paint_57 ?_
                      refine lz_top (y := 120) (by decide) ?_
                      refine lv_iload_n hx hb dX12_paint_58 rfl (lv_at hl 0 rfl) ?_
                      refine lv_aload_n hx hb dX12_paint_59 rfl (lv_at hl 1 rfl) ?_
                      refine va_get (D := D) (ci := 12) (v := .int 0) (C := RX12) (T := TX12) (N := 24) hx hb hts hin12 hown hK hP 3 rfl rfl 0 (by decide) (hts (.fieldLink RX12 63 "MissedPointsModel" "many" "I") (by decide +kernel)) (fun _ h9 => h9) rfl dX12_paint_60 ?_
                      refine lv_icmp_ge (tgt := 75) hx hb dX12_paint_63 (by decide) (fun c1233 => ?_) (fun c1233 => ?_)
                      · refine lv_iconst (v := 0) hx hb dX12_paint_75 (by decide) ?_
                        refine lz_astc hx hb hK hP hD hS 2 0 rfl rfl (lz_vp (x := 120) (n := 160) (by decide) (by decide)) dX12_paint_76 (fun H locs hP hD hS => ?_)
                        refine lv_iinc (v := 1) (lv' := [(3, .int 1), (0, .ref h0), (1, .int 3), (2, .int x1)]) hx hb dX12_paint_77 hl (k := 0) rfl (by decide) (by decide) rfl (fun ls hl => ?_)
                        refine lv_goto (tgt := 42) hx hb dX12_paint_80 (by decide) ?_
                        refine lv_iload_n hx hb dX12_paint_42 rfl (lv_at hl 0 rfl) ?_
                        refine lv_bipush (v := 40) hx hb dX12_paint_43 (by decide) ?_
                        refine lv_icmp_ge (tgt := 83) hx hb dX12_paint_45 (by decide) (fun c1234 => ?_) (fun c1234 => ?_)
                        · exact absurd c1234 (by decide)
                        · refine lv_aload_n hx hb dX12_paint_48 rfl (lv_at hl 1 rfl) ?_
                          refine va_get (D := D) (ci := 12) (v := .ref h11) (C := RX12) (T := TX12) (N := 24) hx hb hts hin12 hown hK hP 3 rfl rfl 18 (by decide) (hts (.fieldLink RX12 44 "MissedPointsModel" "items" "[I") (by decide +kernel)) (fun _ h9 => h9) rfl dX12_paint_49 ?_
                          refine lv_bipush (v := 40) hx hb dX12_paint_52 (by decide) ?_
                          refine lv_iload_n hx hb dX12_paint_54 rfl (lv_at hl 2 rfl) ?_
                          refine lv_imul hx hb dX12_paint_55 ?_
                          refine lz_top (y := 120) (by decide) ?_
                          refine lv_iload_n hx hb dX12_paint_56 rfl (lv_at hl 0 rfl) ?_
                          refine lv_iadd hx hb dX12_paint_57 ?_
                          refine lz_top (y := 121) (by decide) ?_
                          refine lv_iload_n hx hb dX12_paint_58 rfl (lv_at hl 0 rfl) ?_
                          refine lv_aload_n hx hb dX12_paint_59 rfl (lv_at hl 1 rfl) ?_
                          refine va_get (D := D) (ci := 12) (v := .int 0) (C := RX12) (T := TX12) (N := 24) hx hb hts hin12 hown hK hP 3 rfl rfl 0 (by decide) (hts (.fieldLink RX12 63 "MissedPointsModel" "many" "I") (by decide +kernel)) (fun _ h9 => h9) rfl dX12_paint_60 ?_
                          refine lv_icmp_ge (tgt := 75) hx hb dX12_paint_63 (by decide) (fun c1235 => ?_) (fun c1235 => ?_)
                          · refine lv_iconst (v := 0) hx hb dX12_paint_75 (by decide) ?_
                            refine lz_astc hx hb hK hP hD hS 2 0 rfl rfl (lz_vp (x := 121) (n := 160) (by decide) (by decide)) dX12_paint_76 (fun H locs hP hD hS => ?_)
                            refine lv_iinc (v := 2) (lv' := [(3, .int 2), (0, .ref h0), (1, .int 3), (2, .int x1)]) hx hb dX12_paint_77 hl (k := 0) rfl (by decide) (by decide) rfl (fun ls hl => ?_)
                            refine lv_goto (tgt := 42) hx hb dX12_paint_80 (by decide) ?_
                            refine lv_iload_n hx hb dX12_paint_42 rfl (lv_at hl 0 rfl) ?_
                            refine lv_bipush (v := 40) hx hb dX12_paint_43 (by decide) ?_
                            refine lv_icmp_ge (tgt := 83) hx hb dX12_paint_45 (by decide) (fun c1236 => ?_) (fun c1236 => ?_)
                            · exact absurd c1236 (by decide)
                            · refine lv_aload_n hx hb dX12_paint_48 rfl (lv_at hl 1 rfl) ?_
                              refine va_get (D := D) (ci := 12) (v := .ref h11) (C := RX12) (T := TX12) (N := 24) hx hb hts hin12 hown hK hP 3 rfl rfl 18 (by decide) (hts (.fieldLink RX12 44 "MissedPointsModel" "items" "[I") (by decide +kernel)) (fun _ h9 => h9) rfl dX12_paint_49 ?_
                              refine lv_bipush (v := 40) hx hb dX12_paint_52 (by decide) ?_
                              refine lv_iload_n hx hb dX12_paint_54 rfl (lv_at hl 2 rfl) ?_
                              refine lv_imul hx hb dX12_paint_55 ?_
                              refine lz_top (y := 120) (by decide) ?_
                              refine lv_iload_n hx hb dX12_paint_56 rfl (lv_at hl 0 rfl) ?_
                              refine lv_iadd hx hb dX12_paint_57 ?_
                              refine lz_top (y := 122) (by decide) ?_
                              refine lv_iload_n hx hb dX12_paint_58 rfl (lv_at hl 0 rfl) ?_
                              refine lv_aload_n hx hb dX12_paint_59 rfl (lv_at hl 1 rfl) ?_
                              refine va_get (D := D) (ci := 12) (v := .int 0) (C := RX12) (T := TX12) (N := 24) hx hb hts hin12 hown hK hP 3 rfl rfl 0 (by decide) (hts (.fieldLink RX12 63 "MissedPointsModel" "many" "I") (by decide +kernel)) (fun _ h9 => h9) rfl dX12_paint_60 ?_
                              refine lv_icmp_ge (tgt := 75) hx hb dX12_paint_63 (by decide) (fun c1237 => ?_) (fun c1237 => ?_)
                              · refine lv_iconst (v := 0) hx hb dX12_paint_75 (by decide) ?_
                                refine lz_astc hx hb hK hP hD hS 2 0 rfl rfl (lz_vp (x := 122) (n := 160) (by decide) (by decide)) dX12_paint_76 (fun H locs hP hD hS => ?_)
                                refine lv_iinc (v := 3) (lv' := [(3, .int 3), (0, .ref h0), (1, .int 3), (2, .int x1)]) hx hb dX12_paint_77 hl (k := 0) rfl (by decide) (by decide) rfl (fun ls hl => ?_)
                                refine lv_goto (tgt := 42) hx hb dX12_paint_80 (by decide) ?_
                                refine lv_iload_n hx hb dX12_paint_42 rfl (lv_at hl 0 rfl) ?_
                                refine lv_bipush (v := 40) hx hb dX12_paint_43 (by decide) ?_
                                refine lv_icmp_ge (tgt := 83) hx hb dX12_paint_45 (by decide) (fun c1238 => ?_) (fun c1238 => ?_)
                                · exact absurd c1238 (by decide)
                                · refine lv_aload_n hx hb dX12_paint_48 rfl (lv_at hl 1 rfl) ?_
                                  refine va_get (D := D) (ci := 12) (v := .ref h11) (C := RX12) (T := TX12) (N := 24) hx hb hts hin12 hown hK hP 3 rfl rfl 18 (by decide) (hts (.fieldLink RX12 44 "MissedPointsModel" "items" "[I") (by decide +kernel)) (fun _ h9 => h9) rfl dX12_paint_49 ?_
                                  refine lv_bipush (v := 40) hx hb dX12_paint_52 (by decide) ?_
                                  refine lv_iload_n hx hb dX12_paint_54 rfl (lv_at hl 2 rfl) ?_
                                  refine lv_imul hx hb dX12_paint_55 ?_
                                  refine lz_top (y := 120) (by decide) ?_
                                  refine lv_iload_n hx hb dX12_paint_56 rfl (lv_at hl 0 rfl) ?_
                                  refine lv_iadd hx hb dX12_paint_57 ?_
                                  refine lz_top (y := 123) (by decide) ?_
                                  refine lv_iload_n hx hb dX12_paint_58 rfl (lv_at hl 0 rfl) ?_
                                  refine lv_aload_n hx hb dX12_paint_59 rfl (lv_at hl 1 rfl) ?_
                                  refine va_get (D := D) (ci := 12) (v := .int 0) (C := RX12) (T := TX12) (N := 24) hx hb hts hin12 hown hK hP 3 rfl rfl 0 (by decide) (hts (.fieldLink RX12 63 "MissedPointsModel" "many" "I") (by decide +kernel)) (fun _ h9 => h9) rfl dX12_paint_60 ?_
                                  refine lv_icmp_ge (tgt := 75) hx hb dX12_paint_63 (by decide) (fun c1239 => ?_) (fun c1239 => ?_)
                                  · refine lv_iconst (v := 0) hx hb dX12_paint_75 (by decide) ?_
                                    refine lz_astc hx hb hK hP hD hS 2 0 rfl rfl (lz_vp (x := 123) (n := 160) (by decide) (by decide)) dX12_paint_76 (fun H locs hP hD hS => ?_)
                                    refine lv_iinc (v := 4) (lv' := [(3, .int 4), (0, .ref h0), (1, .int 3), (2, .int x1)]) hx hb dX12_paint_77 hl (k := 0) rfl (by decide) (by decide) rfl (fun ls hl => ?_)
                                    refine lv_goto (tgt := 42) hx hb dX12_paint_80 (by decide) ?_
                                    refine lv_iload_n hx hb dX12_paint_42 rfl (lv_at hl 0 rfl) ?_
                                    refine lv_bipush (v := 40) hx hb dX12_paint_43 (by decide) ?_
                                    refine lv_icmp_ge (tgt := 83) hx hb dX12_paint_45 (by decide) (fun c1240 => ?_) (fun c1240 => ?_)
                                    · exact absurd c1240 (by decide)
                                    · refine lv_aload_n hx hb dX12_paint_48 rfl (lv_at hl 1 rfl) ?_
                                      refine va_get (D := D) (ci := 12) (v := .ref h11) (C := RX12) (T := TX12) (N := 24) hx hb hts hin12 hown hK hP 3 rfl rfl 18 (by decide) (hts (.fieldLink RX12 44 "MissedPointsModel" "items" "[I") (by decide +kernel)) (fun _ h9 => h9) rfl dX12_paint_49 ?_
                                      refine lv_bipush (v := 40) hx hb dX12_paint_52 (by decide) ?_
                                      refine lv_iload_n hx hb dX12_paint_54 rfl (lv_at hl 2 rfl) ?_
                                      refine lv_imul hx hb dX12_paint_55 ?_
                                      refine lz_top (y := 120) (by decide) ?_
                                      refine lv_iload_n hx hb dX12_paint_56 rfl (lv_at hl 0 rfl) ?_
                                      refine lv_iadd hx hb dX12_paint_57 ?_
                                      refine lz_top (y := 124) (by decide) ?_
                                      refine lv_iload_n hx hb dX12_paint_58 rfl (lv_at hl 0 rfl) ?_
                                      refine lv_aload_n hx hb dX12_paint_59 rfl (lv_at hl 1 rfl) ?_
                                      refine va_get (D := D) (ci := 12) (v := .int 0) (C := RX12) (T := TX12) (N := 24) hx hb hts hin12 hown hK hP 3 rfl rfl 0 (by decide) (hts (.fieldLink RX12 63 "MissedPointsModel" "many" "I") (by decide +kernel)) (fun _ h9 => h9) rfl dX12_paint_60 ?_
                                      refine lv_icmp_ge (tgt := 75) hx hb dX12_paint_63 (by decide) (fun c1241 => ?_) (fun c1241 => ?_)
                                      · refine lv_iconst (v := 0) hx hb dX12_paint_75 (by decide) ?_
                                        refine lz_astc hx hb hK hP hD hS 2 0 rfl rfl (lz_vp (x := 124) (n := 160) (by decide) (by decide)) dX12_paint_76 (fun H locs hP hD hS => ?_)
                                        refine lv_iinc (v := 5) (lv' := [(3, .int 5), (0, .ref h0), (1, .int 3), (2, .int x1)]) hx hb dX12_paint_77 hl (k := 0) rfl (by decide) (by decide) rfl (fun ls hl => ?_)
                                        refine lv_goto (tgt := 42) hx hb dX12_paint_80 (by decide) ?_
                                        refine lv_iload_n hx hb dX12_paint_42 rfl (lv_at hl 0 rfl) ?_
                                        refine lv_bipush (v := 40) hx hb dX12_paint_43 (by decide) ?_
                                        refine lv_icmp_ge (tgt := 83) hx hb dX12_paint_45 (by decide) (fun c1242 => ?_) (fun c1242 => ?_)
                                        · exact absurd c1242 (by decide)
                                        · refine lv_aload_n hx hb dX12_paint_48 rfl (lv_at hl 1 rfl) ?_
                                          refine va_get (D := D) (ci := 12) (v := .ref h11) (C := RX12) (T := TX12) (N := 24) hx hb hts hin12 hown hK hP 3 rfl rfl 18 (by decide) (hts (.fieldLink RX12 44 "MissedPointsModel" "items" "[I") (by decide +kernel)) (fun _ h9 => h9) rfl dX12_paint_49 ?_
                                          refine lv_bipush (v := 40) hx hb dX12_paint_52 (by decide) ?_
                                          refine lv_iload_n hx hb dX12_paint_54 rfl (lv_at hl 2 rfl) ?_
                                          refine lv_imul hx hb dX12_paint_55 ?_
                                          refine lz_top (y := 120) (by decide) ?_
                                          refine lv_iload_n hx hb dX12_paint_56 rfl (lv_at hl 0 rfl) ?_
                                          refine lv_iadd hx hb dX12_paint_57 ?_
                                          refine lz_top (y := 125) (by decide) ?_
                                          refine lv_iload_n hx hb dX12_paint_58 rfl (lv_at hl 0 rfl) ?_
                                          refine lv_aload_n hx hb dX12_paint_59 rfl (lv_at hl 1 rfl) ?_
                                          refine va_get (D := D) (ci := 12) (v := .int 0) (C := RX12) (T := TX12) (N := 24) hx hb hts hin12 hown hK hP 3 rfl rfl 0 (by decide) (hts (.fieldLink RX12 63 "MissedPointsModel" "many" "I") (by decide +kernel)) (fun _ h9 => h9) rfl dX12_paint_60 ?_
                                          refine lv_icmp_ge (tgt := 75) hx hb dX12_paint_63 (by decide) (fun c1243 => ?_) (fun c1243 => ?_)
                                          · refine lv_iconst (v := 0) hx hb dX12_paint_75 (by decide) ?_
                                            refine lz_astc hx hb hK hP hD hS 2 0 rfl rfl (lz_vp (x := 125) (n := 160) (by decide) (by decide)) dX12_paint_76 (fun H locs hP hD hS => ?_)
                                            refine lv_iinc (v := 6) (lv' := [(3, .int 6), (0, .ref h0), (1, .int 3), (2, .int x1)]) hx hb dX12_paint_77 hl (k := 0) rfl (by decide) (by decide) rfl (fun ls hl => ?_)
                                            refine lv_goto (tgt := 42) hx hb dX12_paint_80 (by decide) ?_
                                            refine lv_iload_n hx hb dX12_paint_42 rfl (lv_at hl 0 rfl) ?_
                                            refine lv_bipush (v := 40) hx hb dX12_paint_43 (by decide) ?_
                                            refine lv_icmp_ge (tgt := 83) hx hb dX12_paint_45 (by decide) (fun c1244 => ?_) (fun c1244 => ?_)
                                            · exact absurd c1244 (by decide)
                                            · refine lv_aload_n hx hb dX12_paint_48 rfl (lv_at hl 1 rfl) ?_
                                              refine va_get (D := D) (ci := 12) (v := .ref h11) (C := RX12) (T := TX12) (N := 24) hx hb hts hin12 hown hK hP 3 rfl rfl 18 (by decide) (hts (.fieldLink RX12 44 "MissedPointsModel" "items" "[I") (by decide +kernel)) (fun _ h9 => h9) rfl dX12_paint_49 ?_
                                              refine lv_bipush (v := 40) hx hb dX12_paint_52 (by decide) ?_
                                              refine lv_iload_n hx hb dX12_paint_54 rfl (lv_at hl 2 rfl) ?_
                                              refine lv_imul hx hb dX12_paint_55 ?_
                                              refine lz_top (y := 120) (by decide) ?_
                                              refine lv_iload_n hx hb dX12_paint_56 rfl (lv_at hl 0 rfl) ?_
                                              refine lv_iadd hx hb dX12_paint_57 ?_
                                              refine lz_top (y := 126) (by decide) ?_
                                              refine lv_iload_n hx hb dX12_paint_58 rfl (lv_at hl 0 rfl) ?_
                                              refine lv_aload_n hx hb dX12_paint_59 rfl (lv_at hl 1 rfl) ?_
                                              refine va_get (D := D) (ci := 12) (v := .int 0) (C := RX12) (T := TX12) (N := 24) hx hb hts hin12 hown hK hP 3 rfl rfl 0 (by decide) (hts (.fieldLink RX12 63 "MissedPointsModel" "many" "I") (by decide +kernel)) (fun _ h9 => h9) rfl dX12_paint_60 ?_
                                              refine lv_icmp_ge (tgt := 75) hx hb dX12_paint_63 (by decide) (fun c1245 => ?_) (fun c1245 => ?_)
                                              · refine lv_iconst (v := 0) hx hb dX12_paint_75 (by decide) ?_
                                                refine lz_astc hx hb hK hP hD hS 2 0 rfl rfl (lz_vp (x := 126) (n := 160) (by decide) (by decide)) dX12_paint_76 (fun H locs hP hD hS => ?_)
                                                refine lv_iinc (v := 7) (lv' := [(3, .int 7), (0, .ref h0), (1, .int 3), (2, .int x1)]) hx hb dX12_paint_77 hl (k := 0) rfl (by decide) (by decide) rfl (fun ls hl => ?_)
                                                refine lv_goto (tgt := 42) hx hb dX12_paint_80 (by decide) ?_
                                                refine lv_iload_n hx hb dX12_paint_42 rfl (lv_at hl 0 rfl) ?_
                                                refine lv_bipush (v := 40) hx hb dX12_paint_43 (by decide) ?_
                                                refine lv_icmp_ge (tgt := 83) hx hb dX12_paint_45 (by decide) (fun c1246 => ?_) (fun c1246 => ?_)
                                                · exact absurd c1246 (by decide)
                                                · refine lv_aload_n hx hb dX12_paint_48 rfl (lv_at hl 1 rfl) ?_
                                                  refine va_get (D := D) (ci := 12) (v := .ref h11) (C := RX12) (T := TX12) (N := 24) hx hb hts hin12 hown hK hP 3 rfl rfl 18 (by decide) (hts (.fieldLink RX12 44 "MissedPointsModel" "items" "[I") (by decide +kernel)) (fun _ h9 => h9) rfl dX12_paint_49 ?_
                                                  refine lv_bipush (v := 40) hx hb dX12_paint_52 (by decide) ?_
                                                  refine lv_iload_n hx hb dX12_paint_54 rfl (lv_at hl 2 rfl) ?_
                                                  refine lv_imul hx hb dX12_paint_55 ?_
                                                  refine lz_top (y := 120) (by decide) ?_
                                                  refine lv_iload_n hx hb dX12_paint_56 rfl (lv_at hl 0 rfl) ?_
                                                  refine lv_iadd hx hb dX12_paint_57 ?_
                                                  refine lz_top (y := 127) (by decide) ?_
                                                  refine lv_iload_n hx hb dX12_paint_58 rfl (lv_at hl 0 rfl) ?_
                                                  refine lv_aload_n hx hb dX12_paint_59 rfl (lv_at hl 1 rfl) ?_
                                                  refine va_get (D := D) (ci := 12) (v := .int 0) (C := RX12) (T := TX12) (N := 24) hx hb hts hin12 hown hK hP 3 rfl rfl 0 (by decide) (hts (.fieldLink RX12 63 "MissedPointsModel" "many" "I") (by decide +kernel)) (fun _ h9 => h9) rfl dX12_paint_60 ?_
                                                  refine lv_icmp_ge (tgt := 75) hx hb dX12_paint_63 (by decide) (fun c1247 => ?_) (fun c1247 => ?_)
                                                  · refine lv_iconst (v := 0) hx hb dX12_paint_75 (by decide) ?_
                                                    refine lz_astc hx hb hK hP hD hS 2 0 rfl rfl (lz_vp (x := 127) (n := 160) (by decide) (by decide)) dX12_paint_76 (fun H locs hP hD hS => ?_)
                                                    refine lv_iinc (v := 8) (lv' := [(3, .int 8), (0, .ref h0), (1, .int 3), (2, .int x1)]) hx hb dX12_paint_77 hl (k := 0) rfl (by decide) (by decide) rfl (fun ls hl => ?_)
                                                    refine lv_goto (tgt := 42) hx hb dX12_paint_80 (by decide) ?_
                                                    refine lv_iload_n hx hb dX12_paint_42 rfl (lv_at hl 0 rfl) ?_
                                                    refine lv_bipush (v := 40) hx hb dX12_paint_43 (by decide) ?_
                                                    refine lv_icmp_ge (tgt := 83) hx hb dX12_paint_45 (by decide) (fun c1248 => ?_) (fun c1248 => ?_)
                                                    · exact absurd c1248 (by decide)
                                                    · refine lv_aload_n hx hb dX12_paint_48 rfl (lv_at hl 1 rfl) ?_
                                                      refine va_get (D := D) (ci := 12) (v := .ref h11) (C := RX12) (T := TX12) (N := 24) hx hb hts hin12 hown hK hP 3 rfl rfl 18 (by decide) (hts (.fieldLink RX12 44 "MissedPointsModel" "items" "[I") (by decide +kernel)) (fun _ h9 => h9) rfl dX12_paint_49 ?_
                                                      refine lv_bipush (v := 40) hx hb dX12_paint_52 (by decide) ?_
                                                      refine lv_iload_n hx hb dX12_paint_54 rfl (lv_at hl 2 rfl) ?_
                                                      refine lv_imul hx hb dX12_paint_55 ?_
                                                      refine lz_top (y := 120) (by decide) ?_
                                                      refine lv_iload_n hx hb dX12_paint_56 rfl (lv_at hl 0 rfl) ?_
                                                      refine lv_iadd hx hb dX12_paint_57 ?_
                                                      refine lz_top (y := 128) (by decide) ?_
                                                      refine lv_iload_n hx hb dX12_paint_58 rfl (lv_at hl 0 rfl) ?_
                                                      refine lv_aload_n hx hb dX12_paint_59 rfl (lv_at hl 1 rfl) ?_
                                                      refine va_get (D := D) (ci := 12) (v := .int 0) (C := RX12) (T := TX12) (N := 24) hx hb hts hin12 hown hK hP 3 rfl rfl 0 (by decide) (hts (.fieldLink RX12 63 "MissedPointsModel" "many" "I") (by decide +kernel)) (fun _ h9 => h9) rfl dX12_paint_60 ?_
                                                      refine lv_icmp_ge (tgt := 75) hx hb dX12_paint_63 (by decide) (fun c1249 => ?_) (fun c1249 => ?_)
                                                      · refine lv_iconst (v := 0) hx hb dX12_paint_75 (by decide) ?_
                                                        refine lz_astc hx hb hK hP hD hS 2 0 rfl rfl (lz_vp (x := 128) (n := 160) (by decide) (by decide)) dX12_paint_76 (fun H locs hP hD hS => ?_)
                                                        refine lv_iinc (v := 9) (lv' := [(3, .int 9), (0, .ref h0), (1, .int 3), (2, .int x1)]) hx hb dX12_paint_77 hl (k := 0) rfl (by decide) (by decide) rfl (fun ls hl => ?_)
                                                        refine lv_goto (tgt := 42) hx hb dX12_paint_80 (by decide) ?_
                                                        refine lv_iload_n hx hb dX12_paint_42 rfl (lv_at hl 0 rfl) ?_
                                                        refine lv_bipush (v := 40) hx hb dX12_paint_43 (by decide) ?_
                                                        refine lv_icmp_ge (tgt := 83) hx hb dX12_paint_45 (by decide) (fun c1250 => ?_) (fun c1250 => ?_)
                                                        · exact absurd c1250 (by decide)
                                                        · refine lv_aload_n hx hb dX12_paint_48 rfl (lv_at hl 1 rfl) ?_
                                                          refine va_get (D := D) (ci := 12) (v := .ref h11) (C := RX12) (T := TX12) (N := 24) hx hb hts hin12 hown hK hP 3 rfl rfl 18 (by decide) (hts (.fieldLink RX12 44 "MissedPointsModel" "items" "[I") (by decide +kernel)) (fun _ h9 => h9) rfl dX12_paint_49 ?_
                                                          refine lv_bipush (v := 40) hx hb dX12_paint_52 (by decide) ?_
                                                          refine lv_iload_n hx hb dX12_paint_54 rfl (lv_at hl 2 rfl) ?_
                                                          refine lv_imul hx hb dX12_paint_55 ?_
                                                          refine lz_top (y := 120) (by decide) ?_
                                                          refine lv_iload_n hx hb dX12_paint_56 rfl (lv_at hl 0 rfl) ?_
                                                          refine lv_iadd hx hb dX12_paint_57 ?_
                                                          refine lz_top (y := 129) (by decide) ?_
                                                          refine lv_iload_n hx hb dX12_paint_58 rfl (lv_at hl 0 rfl) ?_
                                                          refine lv_aload_n hx hb dX12_paint_59 rfl (lv_at hl 1 rfl) ?_
                                                          refine va_get (D := D) (ci := 12) (v := .int 0) (C := RX12) (T := TX12) (N := 24) hx hb hts hin12 hown hK hP 3 rfl rfl 0 (by decide) (hts (.fieldLink RX12 63 "MissedPointsModel" "many" "I") (by decide +kernel)) (fun _ h9 => h9) rfl dX12_paint_60 ?_
                                                          refine lv_icmp_ge (tgt := 75) hx hb dX12_paint_63 (by decide) (fun c1251 => ?_) (fun c1251 => ?_)
                                                          · refine lv_iconst (v := 0) hx hb dX12_paint_75 (by decide) ?_
                                                            refine lz_astc hx hb hK hP hD hS 2 0 rfl rfl (lz_vp (x := 129) (n := 160) (by decide) (by decide)) dX12_paint_76 (fun H locs hP hD hS => ?_)
                                                            refine lv_iinc (v := 10) (lv' := [(3, .int 10), (0, .ref h0), (1, .int 3), (2, .int x1)]) hx hb dX12_paint_77 hl (k := 0) rfl (by decide) (by decide) rfl (fun ls hl => ?_)
                                                            refine lv_goto (tgt := 42) hx hb dX12_paint_80 (by decide) ?_
                                                            refine lv_iload_n hx hb dX12_paint_42 rfl (lv_at hl 0 rfl) ?_
                                                            refine lv_bipush (v := 40) hx hb dX12_paint_43 (by decide) ?_
                                                            refine lv_icmp_ge (tgt := 83) hx hb dX12_paint_45 (by decide) (fun c1252 => ?_) (fun c1252 => ?_)
                                                            · exact absurd c1252 (by decide)
                                                            · refine lv_aload_n hx hb dX12_paint_48 rfl (lv_at hl 1 rfl) ?_
                                                              refine va_get (D := D) (ci := 12) (v := .ref h11) (C := RX12) (T := TX12) (N := 24) hx hb hts hin12 hown hK hP 3 rfl rfl 18 (by decide) (hts (.fieldLink RX12 44 "MissedPointsModel" "items" "[I") (by decide +kernel)) (fun _ h9 => h9) rfl dX12_paint_49 ?_
                                                              refine lv_bipush (v := 40) hx hb dX12_paint_52 (by decide) ?_
                                                              refine lv_iload_n hx hb dX12_paint_54 rfl (lv_at hl 2 rfl) ?_
                                                              refine lv_imul hx hb dX12_paint_55 ?_
                                                              refine lz_top (y := 120) (by decide) ?_
                                                              refine lv_iload_n hx hb dX12_paint_56 rfl (lv_at hl 0 rfl) ?_
                                                              refine lv_iadd hx hb dX12_paint_57 ?_
                                                              refine lz_top (y := 130) (by decide) ?_
                                                              refine lv_iload_n hx hb dX12_paint_58 rfl (lv_at hl 0 rfl) ?_
                                                              refine lv_aload_n hx hb dX12_paint_59 rfl (lv_at hl 1 rfl) ?_
                                                              refine va_get (D := D) (ci := 12) (v := .int 0) (C := RX12) (T := TX12) (N := 24) hx hb hts hin12 hown hK hP 3 rfl rfl 0 (by decide) (hts (.fieldLink RX12 63 "MissedPointsModel" "many" "I") (by decide +kernel)) (fun _ h9 => h9) rfl dX12_paint_60 ?_
                                                              refine lv_icmp_ge (tgt := 75) hx hb dX12_paint_63 (by decide) (fun c1253 => ?_) (fun c1253 => ?_)
                                                              · refine lv_iconst (v := 0) hx hb dX12_paint_75 (by decide) ?_
                                                                refine lz_astc hx hb hK hP hD hS 2 0 rfl rfl (lz_vp (x := 130) (n := 160) (by decide) (by decide)) dX12_paint_76 (fun H locs hP hD hS => ?_)
                                                                refine lv_iinc (v := 11) (lv' := [(3, .int 11), (0, .ref h0), (1, .int 3), (2, .int x1)]) hx hb dX12_paint_77 hl (k := 0) rfl (by decide) (by decide) rfl (fun ls hl => ?_)
                                                                refine lv_goto (tgt := 42) hx hb dX12_paint_80 (by decide) ?_
                                                                refine lv_iload_n hx hb dX12_paint_42 rfl (lv_at hl 0 rfl) ?_
                                                                refine lv_bipush (v := 40) hx hb dX12_paint_43 (by decide) ?_
                                                                refine lv_icmp_ge (tgt := 83) hx hb dX12_paint_45 (by decide) (fun c1254 => ?_) (fun c1254 => ?_)
                                                                · exact absurd c1254 (by decide)
                                                                · refine lv_aload_n hx hb dX12_paint_48 rfl (lv_at hl 1 rfl) ?_
                                                                  refine va_get (D := D) (ci := 12) (v := .ref h11) (C := RX12) (T := TX12) (N := 24) hx hb hts hin12 hown hK hP 3 rfl rfl 18 (by decide) (hts (.fieldLink RX12 44 "MissedPointsModel" "items" "[I") (by decide +kernel)) (fun _ h9 => h9) rfl dX12_paint_49 ?_
                                                                  refine lv_bipush (v := 40) hx hb dX12_paint_52 (by decide) ?_
                                                                  refine lv_iload_n hx hb dX12_paint_54 rfl (lv_at hl 2 rfl) ?_
                                                                  refine lv_imul hx hb dX12_paint_55 ?_
                                                                  refine lz_top (y := 120) (by decide) ?_
                                                                  refine lv_iload_n hx hb dX12_paint_56 rfl (lv_at hl 0 rfl) ?_
                                                                  refine lv_iadd hx hb dX12_paint_57 ?_
                                                                  refine lz_top (y := 131) (by decide) ?_
                                                                  refine lv_iload_n hx hb dX12_paint_58 rfl (lv_at hl 0 rfl) ?_
                                                                  refine lv_aload_n hx hb dX12_paint_59 rfl (lv_at hl 1 rfl) ?_
                                                                  refine va_get (D := D) (ci := 12) (v := .int 0) (C := RX12) (T := TX12) (N := 24) hx hb hts hin12 hown hK hP 3 rfl rfl 0 (by decide) (hts (.fieldLink RX12 63 "MissedPointsModel" "many" "I") (by decide +kernel)) (fun _ h9 => h9) rfl dX12_paint_60 ?_
                                                                  refine lv_icmp_ge (tgt := 75) hx hb dX12_paint_63 (by decide) (fun c1255 => ?_) (fun c1255 => ?_)
                                                                  · refine lv_iconst (v := 0) hx hb dX12_paint_75 (by decide) ?_
                                                                    refine lz_astc hx hb hK hP hD hS 2 0 rfl rfl (lz_vp (x := 131) (n := 160) (by decide) (by decide)) dX12_paint_76 (fun H locs hP hD hS => ?_)
                                                                    refine lv_iinc (v := 12) (lv' := [(3, .int 12), (0, .ref h0), (1, .int 3), (2, .int x1)]) hx hb dX12_paint_77 hl (k := 0) rfl (by decide) (by decide) rfl (fun ls hl => ?_)
                                                                    refine lv_goto (tgt := 42) hx hb dX12_paint_80 (by decide) ?_
                                                                    refine lv_iload_n hx hb dX12_paint_42 rfl (lv_at hl 0 rfl) ?_
                                                                    refine lv_bipush (v := 40) hx hb dX12_paint_43 (by decide) ?_
                                                                    refine lv_icmp_ge (tgt := 83) hx hb dX12_paint_45 (by decide) (fun c1256 => ?_) (fun c1256 => ?_)
                                                                    · exact absurd c1256 (by decide)
                                                                    · refine lv_aload_n hx hb dX12_paint_48 rfl (lv_at hl 1 rfl) ?_
                                                                      refine va_get (D := D) (ci := 12) (v := .ref h11) (C := RX12) (T := TX12) (N := 24) hx hb hts hin12 hown hK hP 3 rfl rfl 18 (by decide) (hts (.fieldLink RX12 44 "MissedPointsModel" "items" "[I") (by decide +kernel)) (fun _ h9 => h9) rfl dX12_paint_49 ?_
                                                                      refine lv_bipush (v := 40) hx hb dX12_paint_52 (by decide) ?_
                                                                      refine lv_iload_n hx hb dX12_paint_54 rfl (lv_at hl 2 rfl) ?_
                                                                      refine lv_imul hx hb dX12_paint_55 ?_
                                                                      refine lz_top (y := 120) (by decide) ?_
                                                                      refine lv_iload_n hx hb dX12_paint_56 rfl (lv_at hl 0 rfl) ?_
                                                                      refine lv_iadd hx hb dX12_paint_57 ?_
                                                                      refine lz_top (y := 132) (by decide) ?_
                                                                      refine lv_iload_n hx hb dX12_paint_58 rfl (lv_at hl 0 rfl) ?_
                                                                      refine lv_aload_n hx hb dX12_paint_59 rfl (lv_at hl 1 rfl) ?_
                                                                      refine va_get (D := D) (ci := 12) (v := .int 0) (C := RX12) (T := TX12) (N := 24) hx hb hts hin12 hown hK hP 3 rfl rfl 0 (by decide) (hts (.fieldLink RX12 63 "MissedPointsModel" "many" "I") (by decide +kernel)) (fun _ h9 => h9) rfl dX12_paint_60 ?_
                                                                      refine lv_icmp_ge (tgt := 75) hx hb dX12_paint_63 (by decide) (fun c1257 => ?_) (fun c1257 => ?_)
                                                                      · refine lv_iconst (v := 0) hx hb dX12_paint_75 (by decide) ?_
                                                                        refine lz_astc hx hb hK hP hD hS 2 0 rfl rfl (lz_vp (x := 132) (n := 160) (by decide) (by decide)) dX12_paint_76 (fun H locs hP hD hS => ?_)
                                                                        refine lv_iinc (v := 13) (lv' := [(3, .int 13), (0, .ref h0), (1, .int 3), (2, .int x1)]) hx hb dX12_paint_77 hl (k := 0) rfl (by decide) (by decide) rfl (fun ls hl => ?_)
                                                                        refine lv_goto (tgt := 42) hx hb dX12_paint_80 (by decide) ?_
                                                                        refine lv_iload_n hx hb dX12_paint_42 rfl (lv_at hl 0 rfl) ?_
                                                                        refine lv_bipush (v := 40) hx hb dX12_paint_43 (by decide) ?_
                                                                        refine lv_icmp_ge (tgt := 83) hx hb dX12_paint_45 (by decide) (fun c1258 => ?_) (fun c1258 => ?_)
                                                                        · exact absurd c1258 (by decide)
                                                                        · refine lv_aload_n hx hb dX12_paint_48 rfl (lv_at hl 1 rfl) ?_
                                                                          refine va_get (D := D) (ci := 12) (v := .ref h11) (C := RX12) (T := TX12) (N := 24) hx hb hts hin12 hown hK hP 3 rfl rfl 18 (by decide) (hts (.fieldLink RX12 44 "MissedPointsModel" "items" "[I") (by decide +kernel)) (fun _ h9 => h9) rfl dX12_paint_49 ?_
                                                                          refine lv_bipush (v := 40) hx hb dX12_paint_52 (by decide) ?_
                                                                          refine lv_iload_n hx hb dX12_paint_54 rfl (lv_at hl 2 rfl) ?_
                                                                          refine lv_imul hx hb dX12_paint_55 ?_
                                                                          refine lz_top (y := 120) (by decide) ?_
                                                                          refine lv_iload_n hx hb dX12_paint_56 rfl (lv_at hl 0 rfl) ?_
                                                                          refine lv_iadd hx hb dX12_paint_57 ?_
                                                                          refine lz_top (y := 133) (by decide) ?_
                                                                          refine lv_iload_n hx hb dX12_paint_58 rfl (lv_at hl 0 rfl) ?_
                                                                          refine lv_aload_n hx hb dX12_paint_59 rfl (lv_at hl 1 rfl) ?_
                                                                          refine va_get (D := D) (ci := 12) (v := .int 0) (C := RX12) (T := TX12) (N := 24) hx hb hts hin12 hown hK hP 3 rfl rfl 0 (by decide) (hts (.fieldLink RX12 63 "MissedPointsModel" "many" "I") (by decide +kernel)) (fun _ h9 => h9) rfl dX12_paint_60 ?_
                                                                          refine lv_icmp_ge (tgt := 75) hx hb dX12_paint_63 (by decide) (fun c1259 => ?_) (fun c1259 => ?_)
                                                                          · refine lv_iconst (v := 0) hx hb dX12_paint_75 (by decide) ?_
                                                                            refine lz_astc hx hb hK hP hD hS 2 0 rfl rfl (lz_vp (x := 133) (n := 160) (by decide) (by decide)) dX12_paint_76 (fun H locs hP hD hS => ?_)
                                                                            refine lv_iinc (v := 14) (lv' := [(3, .int 14), (0, .ref h0), (1, .int 3), (2, .int x1)]) hx hb dX12_paint_77 hl (k := 0) rfl (by decide) (by decide) rfl (fun ls hl => ?_)
                                                                            refine lv_goto (tgt := 42) hx hb dX12_paint_80 (by decide) ?_
                                                                            refine lv_iload_n hx hb dX12_paint_42 rfl (lv_at hl 0 rfl) ?_
                                                                            refine lv_bipush (v := 40) hx hb dX12_paint_43 (by decide) ?_
                                                                            refine lv_icmp_ge (tgt := 83) hx hb dX12_paint_45 (by decide) (fun c1260 => ?_) (fun c1260 => ?_)
                                                                            · exact absurd c1260 (by decide)
                                                                            · refine lv_aload_n hx hb dX12_paint_48 rfl (lv_at hl 1 rfl) ?_
                                                                              refine va_get (D := D) (ci := 12) (v := .ref h11) (C := RX12) (T := TX12) (N := 24) hx hb hts hin12 hown hK hP 3 rfl rfl 18 (by decide) (hts (.fieldLink RX12 44 "MissedPointsModel" "items" "[I") (by decide +kernel)) (fun _ h9 => h9) rfl dX12_paint_49 ?_
                                                                              refine lv_bipush (v := 40) hx hb dX12_paint_52 (by decide) ?_
                                                                              refine lv_iload_n hx hb dX12_paint_54 rfl (lv_at hl 2 rfl) ?_
                                                                              refine lv_imul hx hb dX12_paint_55 ?_
                                                                              refine lz_top (y := 120) (by decide) ?_
                                                                              refine lv_iload_n hx hb dX12_paint_56 rfl (lv_at hl 0 rfl) ?_
                                                                              refine lv_iadd hx hb dX12_paint_57 ?_
                                                                              refine lz_top (y := 134) (by decide) ?_
                                                                              refine lv_iload_n hx hb dX12_paint_58 rfl (lv_at hl 0 rfl) ?_
                                                                              refine lv_aload_n hx hb dX12_paint_59 rfl (lv_at hl 1 rfl) ?_
                                                                              refine va_get (D := D) (ci := 12) (v := .int 0) (C := RX12) (T := TX12) (N := 24) hx hb hts hin12 hown hK hP 3 rfl rfl 0 (by decide) (hts (.fieldLink RX12 63 "MissedPointsModel" "many" "I") (by decide +kernel)) (fun _ h9 => h9) rfl dX12_paint_60 ?_
                                                                              refine lv_icmp_ge (tgt := 75) hx hb dX12_paint_63 (by decide) (fun c1261 => ?_) (fun c1261 => ?_)
                                                                              · refine lv_iconst (v := 0) hx hb dX12_paint_75 (by decide) ?_
                                                                                refine lz_astc hx hb hK hP hD hS 2 0 rfl rfl (lz_vp (x := 134) (n := 160) (by decide) (by decide)) dX12_paint_76 (fun H locs hP hD hS => ?_)
                                                                                refine lv_iinc (v := 15) (lv' := [(3, .int 15), (0, .ref h0), (1, .int 3), (2, .int x1)]) hx hb dX12_paint_77 hl (k := 0) rfl (by decide) (by decide) rfl (fun ls hl => ?_)
                                                                                refine lv_goto (tgt := 42) hx hb dX12_paint_80 (by decide) ?_
                                                                                refine lv_iload_n hx hb dX12_paint_42 rfl (lv_at hl 0 rfl) ?_
                                                                                refine lv_bipush (v := 40) hx hb dX12_paint_43 (by decide) ?_
                                                                                refine lv_icmp_ge (tgt := 83) hx hb dX12_paint_45 (by decide) (fun c1262 => ?_) (fun c1262 => ?_)
                                                                                · exact absurd c1262 (by decide)
                                                                                · refine lv_aload_n hx hb dX12_paint_48 rfl (lv_at hl 1 rfl) ?_
                                                                                  refine va_get (D := D) (ci := 12) (v := .ref h11) (C := RX12) (T := TX12) (N := 24) hx hb hts hin12 hown hK hP 3 rfl rfl 18 (by decide) (hts (.fieldLink RX12 44 "MissedPointsModel" "items" "[I") (by decide +kernel)) (fun _ h9 => h9) rfl dX12_paint_49 ?_
                                                                                  refine lv_bipush (v := 40) hx hb dX12_paint_52 (by decide) ?_
                                                                                  refine lv_iload_n hx hb dX12_paint_54 rfl (lv_at hl 2 rfl) ?_
                                                                                  refine lv_imul hx hb dX12_paint_55 ?_
                                                                                  refine lz_top (y := 120) (by decide) ?_
                                                                                  refine lv_iload_n hx hb dX12_paint_56 rfl (lv_at hl 0 rfl) ?_
                                                                                  refine lv_iadd hx hb dX12_paint_57 ?_
                                                                                  refine lz_top (y := 135) (by decide) ?_
                                                                                  refine lv_iload_n hx hb dX12_paint_58 rfl (lv_at hl 0 rfl) ?_
                                                                                  refine lv_aload_n hx hb dX12_paint_59 rfl (lv_at hl 1 rfl) ?_
                                                                                  refine va_get (D := D) (ci := 12) (v := .int 0) (C := RX12) (T := TX12) (N := 24) hx hb hts hin12 hown hK hP 3 rfl rfl 0 (by decide) (hts (.fieldLink RX12 63 "MissedPointsModel" "many" "I") (by decide +kernel)) (fun _ h9 => h9) rfl dX12_paint_60 ?_
                                                                                  refine lv_icmp_ge (tgt := 75) hx hb dX12_paint_63 (by decide) (fun c1263 => ?_) (fun c1263 => ?_)
                                                                                  · refine lv_iconst (v := 0) hx hb dX12_paint_75 (by decide) ?_
                                                                                    refine lz_astc hx hb hK hP hD hS 2 0 rfl rfl (lz_vp (x := 135) (n := 160) (by decide) (by decide)) dX12_paint_76 (fun H locs hP hD hS => ?_)
                                                                                    refine lv_iinc (v := 16) (lv' := [(3, .int 16), (0, .ref h0), (1, .int 3), (2, .int x1)]) hx hb dX12_paint_77 hl (k := 0) rfl (by decide) (by decide) rfl (fun ls hl => ?_)
                                                                                    refine lv_goto (tgt := 42) hx hb dX12_paint_80 (by decide) ?_
                                                                                    refine lv_iload_n hx hb dX12_paint_42 rfl (lv_at hl 0 rfl) ?_
                                                                                    refine lv_bipush (v := 40) hx hb dX12_paint_43 (by decide) ?_
                                                                                    refine lv_icmp_ge (tgt := 83) hx hb dX12_paint_45 (by decide) (fun c1264 => ?_) (fun c1264 => ?_)
                                                                                    · exact absurd c1264 (by decide)
                                                                                    · refine lv_aload_n hx hb dX12_paint_48 rfl (lv_at hl 1 rfl) ?_
                                                                                      refine va_get (D := D) (ci := 12) (v := .ref h11) (C := RX12) (T := TX12) (N := 24) hx hb hts hin12 hown hK hP 3 rfl rfl 18 (by decide) (hts (.fieldLink RX12 44 "MissedPointsModel" "items" "[I") (by decide +kernel)) (fun _ h9 => h9) rfl dX12_paint_49 ?_
                                                                                      refine lv_bipush (v := 40) hx hb dX12_paint_52 (by decide) ?_
                                                                                      refine lv_iload_n hx hb dX12_paint_54 rfl (lv_at hl 2 rfl) ?_
                                                                                      refine lv_imul hx hb dX12_paint_55 ?_
                                                                                      refine lz_top (y := 120) (by decide) ?_
                                                                                      refine lv_iload_n hx hb dX12_paint_56 rfl (lv_at hl 0 rfl) ?_
                                                                                      refine lv_iadd hx hb dX12_paint_57 ?_
                                                                                      refine lz_top (y := 136) (by decide) ?_
                                                                                      refine lv_iload_n hx hb dX12_paint_58 rfl (lv_at hl 0 rfl) ?_
                                                                                      refine lv_aload_n hx hb dX12_paint_59 rfl (lv_at hl 1 rfl) ?_
                                                                                      refine va_get (D := D) (ci := 12) (v := .int 0) (C := RX12) (T := TX12) (N := 24) hx hb hts hin12 hown hK hP 3 rfl rfl 0 (by decide) (hts (.fieldLink RX12 63 "MissedPointsModel" "many" "I") (by decide +kernel)) (fun _ h9 => h9) rfl dX12_paint_60 ?_
                                                                                      refine lv_icmp_ge (tgt := 75) hx hb dX12_paint_63 (by decide) (fun c1265 => ?_) (fun c1265 => ?_)
                                                                                      · refine lv_iconst (v := 0) hx hb dX12_paint_75 (by decide) ?_
                                                                                        refine lz_astc hx hb hK hP hD hS 2 0 rfl rfl (lz_vp (x := 136) (n := 160) (by decide) (by decide)) dX12_paint_76 (fun H locs hP hD hS => ?_)
                                                                                        refine lv_iinc (v := 17) (lv' := [(3, .int 17), (0, .ref h0), (1, .int 3), (2, .int x1)]) hx hb dX12_paint_77 hl (k := 0) rfl (by decide) (by decide) rfl (fun ls hl => ?_)
                                                                                        refine lv_goto (tgt := 42) hx hb dX12_paint_80 (by decide) ?_
                                                                                        refine lv_iload_n hx hb dX12_paint_42 rfl (lv_at hl 0 rfl) ?_
                                                                                        refine lv_bipush (v := 40) hx hb dX12_paint_43 (by decide) ?_
                                                                                        refine lv_icmp_ge (tgt := 83) hx hb dX12_paint_45 (by decide) (fun c1266 => ?_) (fun c1266 => ?_)
                                                                                        · exact absurd c1266 (by decide)
                                                                                        · refine lv_aload_n hx hb dX12_paint_48 rfl (lv_at hl 1 rfl) ?_
                                                                                          refine va_get (D := D) (ci := 12) (v := .ref h11) (C := RX12) (T := TX12) (N := 24) hx hb hts hin12 hown hK hP 3 rfl rfl 18 (by decide) (hts (.fieldLink RX12 44 "MissedPointsModel" "items" "[I") (by decide +kernel)) (fun _ h9 => h9) rfl dX12_paint_49 ?_
                                                                                          refine lv_bipush (v := 40) hx hb dX12_paint_52 (by decide) ?_
                                                                                          refine lv_iload_n hx hb dX12_paint_54 rfl (lv_at hl 2 rfl) ?_
                                                                                          refine lv_imul hx hb dX12_paint_55 ?_
                                                                                          refine lz_top (y := 120) (by decide) ?_
                                                                                          refine lv_iload_n hx hb dX12_paint_56 rfl (lv_at hl 0 rfl) ?_
                                                                                          refine lv_iadd hx hb dX12_paint_57 ?_
                                                                                          refine lz_top (y := 137) (by decide) ?_
                                                                                          refine lv_iload_n hx hb dX12_paint_58 rfl (lv_at hl 0 rfl) ?_
                                                                                          refine lv_aload_n hx hb dX12_paint_59 rfl (lv_at hl 1 rfl) ?_
                                                                                          refine va_get (D := D) (ci := 12) (v := .int 0) (C := RX12) (T := TX12) (N := 24) hx hb hts hin12 hown hK hP 3 rfl rfl 0 (by decide) (hts (.fieldLink RX12 63 "MissedPointsModel" "many" "I") (by decide +kernel)) (fun _ h9 => h9) rfl dX12_paint_60 ?_
                                                                                          refine lv_icmp_ge (tgt := 75) hx hb dX12_paint_63 (by decide) (fun c1267 => ?_) (fun c1267 => ?_)
                                                                                          · refine lv_iconst (v := 0) hx hb dX12_paint_75 (by decide) ?_
                                                                                            refine lz_astc hx hb hK hP hD hS 2 0 rfl rfl (lz_vp (x := 137) (n := 160) (by decide) (by decide)) dX12_paint_76 (fun H locs hP hD hS => ?_)
                                                                                            refine lv_iinc (v := 18) (lv' := [(3, .int 18), (0, .ref h0), (1, .int 3), (2, .int x1)]) hx hb dX12_paint_77 hl (k := 0) rfl (by decide) (by decide) rfl (fun ls hl => ?_)
                                                                                            refine lv_goto (tgt := 42) hx hb dX12_paint_80 (by decide) ?_
                                                                                            refine lv_iload_n hx hb dX12_paint_42 rfl (lv_at hl 0 rfl) ?_
                                                                                            refine lv_bipush (v := 40) hx hb dX12_paint_43 (by decide) ?_
                                                                                            refine lv_icmp_ge (tgt := 83) hx hb dX12_paint_45 (by decide) (fun c1268 => ?_) (fun c1268 => ?_)
                                                                                            · exact absurd c1268 (by decide)
                                                                                            · refine lv_aload_n hx hb dX12_paint_48 rfl (lv_at hl 1 rfl) ?_
                                                                                              refine va_get (D := D) (ci := 12) (v := .ref h11) (C := RX12) (T := TX12) (N := 24) hx hb hts hin12 hown hK hP 3 rfl rfl 18 (by decide) (hts (.fieldLink RX12 44 "MissedPointsModel" "items" "[I") (by decide +kernel)) (fun _ h9 => h9) rfl dX12_paint_49 ?_
                                                                                              refine lv_bipush (v := 40) hx hb dX12_paint_52 (by decide) ?_
                                                                                              refine lv_iload_n hx hb dX12_paint_54 rfl (lv_at hl 2 rfl) ?_
                                                                                              refine lv_imul hx hb dX12_paint_55 ?_
                                                                                              refine lz_top (y := 120) (by decide) ?_
                                                                                              refine lv_iload_n hx hb dX12_paint_56 rfl (lv_at hl 0 rfl) ?_
                                                                                              refine lv_iadd hx hb dX12_paint_57 ?_
                                                                                              refine lz_top (y := 138) (by decide) ?_
                                                                                              refine lv_iload_n hx hb dX12_paint_58 rfl (lv_at hl 0 rfl) ?_
                                                                                              refine lv_aload_n hx hb dX12_paint_59 rfl (lv_at hl 1 rfl) ?_
                                                                                              refine va_get (D := D) (ci := 12) (v := .int 0) (C := RX12) (T := TX12) (N := 24) hx hb hts hin12 hown hK hP 3 rfl rfl 0 (by decide) (hts (.fieldLink RX12 63 "MissedPointsModel" "many" "I") (by decide +kernel)) (fun _ h9 => h9) rfl dX12_paint_60 ?_
                                                                                              refine lv_icmp_ge (tgt := 75) hx hb dX12_paint_63 (by decide) (fun c1269 => ?_) (fun c1269 => ?_)
                                                                                              · refine lv_iconst (v := 0) hx hb dX12_paint_75 (by decide) ?_
                                                                                                refine lz_astc hx hb hK hP hD hS 2 0 rfl rfl (lz_vp (x := 138) (n := 160) (by decide) (by decide)) dX12_paint_76 (fun H locs hP hD hS => ?_)
                                                                                                refine lv_iinc (v := 19) (lv' := [(3, .int 19), (0, .ref h0), (1, .int 3), (2, .int x1)]) hx hb dX12_paint_77 hl (k := 0) rfl (by decide) (by decide) rfl (fun ls hl => ?_)
                                                                                                refine lv_goto (tgt := 42) hx hb dX12_paint_80 (by decide) ?_
                                                                                                refine lv_iload_n hx hb dX12_paint_42 rfl (lv_at hl 0 rfl) ?_
                                                                                                refine lv_bipush (v := 40) hx hb dX12_paint_43 (by decide) ?_
                                                                                                refine lv_icmp_ge (tgt := 83) hx hb dX12_paint_45 (by decide) (fun c1270 => ?_) (fun c1270 => ?_)
                                                                                                · exact absurd c1270 (by decide)
                                                                                                · refine lv_aload_n hx hb dX12_paint_48 rfl (lv_at hl 1 rfl) ?_
                                                                                                  refine va_get (D := D) (ci := 12) (v := .ref h11) (C := RX12) (T := TX12) (N := 24) hx hb hts hin12 hown hK hP 3 rfl rfl 18 (by decide) (hts (.fieldLink RX12 44 "MissedPointsModel" "items" "[I") (by decide +kernel)) (fun _ h9 => h9) rfl dX12_paint_49 ?_
                                                                                                  refine lv_bipush (v := 40) hx hb dX12_paint_52 (by decide) ?_
                                                                                                  refine lv_iload_n hx hb dX12_paint_54 rfl (lv_at hl 2 rfl) ?_
                                                                                                  refine lv_imul hx hb dX12_paint_55 ?_
                                                                                                  refine lz_top (y := 120) (by decide) ?_
                                                                                                  refine lv_iload_n hx hb dX12_paint_56 rfl (lv_at hl 0 rfl) ?_
                                                                                                  refine lv_iadd hx hb dX12_paint_57 ?_
                                                                                                  refine lz_top (y := 139) (by decide) ?_
                                                                                                  refine lv_iload_n hx hb dX12_paint_58 rfl (lv_at hl 0 rfl) ?_
                                                                                                  refine lv_aload_n hx hb dX12_paint_59 rfl (lv_at hl 1 rfl) ?_
                                                                                                  refine va_get (D := D) (ci := 12) (v := .int 0) (C := RX12) (T := TX12) (N := 24) hx hb hts hin12 hown hK hP 3 rfl rfl 0 (by decide) (hts (.fieldLink RX12 63 "MissedPointsModel" "many" "I") (by decide +kernel)) (fun _ h9 => h9) rfl dX12_paint_60 ?_
                                                                                                  refine lv_icmp_ge (tgt := 75) hx hb dX12_paint_63 (by decide) (fun c1271 => ?_) (fun c1271 => ?_)
                                                                                                  · refine lv_iconst (v := 0) hx hb dX12_paint_75 (by decide) ?_
                                                                                                    refine lz_astc hx hb hK hP hD hS 2 0 rfl rfl (lz_vp (x := 139) (n := 160) (by decide) (by decide)) dX12_paint_76 (fun H locs hP hD hS => ?_)
                                                                                                    refine lv_iinc (v := 20) (lv' := [(3, .int 20), (0, .ref h0), (1, .int 3), (2, .int x1)]) hx hb dX12_paint_77 hl (k := 0) rfl (by decide) (by decide) rfl (fun ls hl => ?_)
                                                                                                    refine lv_goto (tgt := 42) hx hb dX12_paint_80 (by decide) ?_
                                                                                                    refine lv_iload_n hx hb dX12_paint_42 rfl (lv_at hl 0 rfl) ?_
                                                                                                    refine lv_bipush (v := 40) hx hb dX12_paint_43 (by decide) ?_
                                                                                                    refine lv_icmp_ge (tgt := 83) hx hb dX12_paint_45 (by decide) (fun c1272 => ?_) (fun c1272 => ?_)
                                                                                                    · exact absurd c1272 (by decide)
                                                                                                    · refine lv_aload_n hx hb dX12_paint_48 rfl (lv_at hl 1 rfl) ?_
                                                                                                      refine va_get (D := D) (ci := 12) (v := .ref h11) (C := RX12) (T := TX12) (N := 24) hx hb hts hin12 hown hK hP 3 rfl rfl 18 (by decide) (hts (.fieldLink RX12 44 "MissedPointsModel" "items" "[I") (by decide +kernel)) (fun _ h9 => h9) rfl dX12_paint_49 ?_
                                                                                                      refine lv_bipush (v := 40) hx hb dX12_paint_52 (by decide) ?_
                                                                                                      refine lv_iload_n hx hb dX12_paint_54 rfl (lv_at hl 2 rfl) ?_
                                                                                                      refine lv_imul hx hb dX12_paint_55 ?_
                                                                                                      refine lz_top (y := 120) (by decide) ?_
                                                                                                      refine lv_iload_n hx hb dX12_paint_56 rfl (lv_at hl 0 rfl) ?_
                                                                                                      refine lv_iadd hx hb dX12_paint_57 ?_
                                                                                                      refine lz_top (y := 140) (by decide) ?_
                                                                                                      refine lv_iload_n hx hb dX12_paint_58 rfl (lv_at hl 0 rfl) ?_
                                                                                                      refine lv_aload_n hx hb dX12_paint_59 rfl (lv_at hl 1 rfl) ?_
                                                                                                      refine va_get (D := D) (ci := 12) (v := .int 0) (C := RX12) (T := TX12) (N := 24) hx hb hts hin12 hown hK hP 3 rfl rfl 0 (by decide) (hts (.fieldLink RX12 63 "MissedPointsModel" "many" "I") (by decide +kernel)) (fun _ h9 => h9) rfl dX12_paint_60 ?_
                                                                                                      refine lv_icmp_ge (tgt := 75) hx hb dX12_paint_63 (by decide) (fun c1273 => ?_) (fun c1273 => ?_)
                                                                                                      · refine lv_iconst (v := 0) hx hb dX12_paint_75 (by decide) ?_
                                                                                                        refine lz_astc hx hb hK hP hD hS 2 0 rfl rfl (lz_vp (x := 140) (n := 160) (by decide) (by decide)) dX12_paint_76 (fun H locs hP hD hS => ?_)
                                                                                                        refine lv_iinc (v := 21) (lv' := [(3, .int 21), (0, .ref h0), (1, .int 3), (2, .int x1)]) hx hb dX12_paint_77 hl (k := 0) rfl (by decide) (by decide) rfl (fun ls hl => ?_)
                                                                                                        refine lv_goto (tgt := 42) hx hb dX12_paint_80 (by decide) ?_
                                                                                                        refine lv_iload_n hx hb dX12_paint_42 rfl (lv_at hl 0 rfl) ?_
                                                                                                        refine lv_bipush (v := 40) hx hb dX12_paint_43 (by decide) ?_
                                                                                                        refine lv_icmp_ge (tgt := 83) hx hb dX12_paint_45 (by decide) (fun c1274 => ?_) (fun c1274 => ?_)
                                                                                                        · exact absurd c1274 (by decide)
                                                                                                        · refine lv_aload_n hx hb dX12_paint_48 rfl (lv_at hl 1 rfl) ?_
                                                                                                          refine va_get (D := D) (ci := 12) (v := .ref h11) (C := RX12) (T := TX12) (N := 24) hx hb hts hin12 hown hK hP 3 rfl rfl 18 (by decide) (hts (.fieldLink RX12 44 "MissedPointsModel" "items" "[I") (by decide +kernel)) (fun _ h9 => h9) rfl dX12_paint_49 ?_
                                                                                                          refine lv_bipush (v := 40) hx hb dX12_paint_52 (by decide) ?_
                                                                                                          refine lv_iload_n hx hb dX12_paint_54 rfl (lv_at hl 2 rfl) ?_
                                                                                                          refine lv_imul hx hb dX12_paint_55 ?_
                                                                                                          refine lz_top (y := 120) (by decide) ?_
                                                                                                          refine lv_iload_n hx hb dX12_paint_56 rfl (lv_at hl 0 rfl) ?_
                                                                                                          refine lv_iadd hx hb dX12_paint_57 ?_
                                                                                                          refine lz_top (y := 141) (by decide) ?_
                                                                                                          refine lv_iload_n hx hb dX12_paint_58 rfl (lv_at hl 0 rfl) ?_
                                                                                                          refine lv_aload_n hx hb dX12_paint_59 rfl (lv_at hl 1 rfl) ?_
                                                                                                          refine va_get (D := D) (ci := 12) (v := .int 0) (C := RX12) (T := TX12) (N := 24) hx hb hts hin12 hown hK hP 3 rfl rfl 0 (by decide) (hts (.fieldLink RX12 63 "MissedPointsModel" "many" "I") (by decide +kernel)) (fun _ h9 => h9) rfl dX12_paint_60 ?_
                                                                                                          refine lv_icmp_ge (tgt := 75) hx hb dX12_paint_63 (by decide) (fun c1275 => ?_) (fun c1275 => ?_)
                                                                                                          · refine lv_iconst (v := 0) hx hb dX12_paint_75 (by decide) ?_
                                                                                                            refine lz_astc hx hb hK hP hD hS 2 0 rfl rfl (lz_vp (x := 141) (n := 160) (by decide) (by decide)) dX12_paint_76 (fun H locs hP hD hS => ?_)
                                                                                                            refine lv_iinc (v := 22) (lv' := [(3, .int 22), (0, .ref h0), (1, .int 3), (2, .int x1)]) hx hb dX12_paint_77 hl (k := 0) rfl (by decide) (by decide) rfl (fun ls hl => ?_)
                                                                                                            refine lv_goto (tgt := 42) hx hb dX12_paint_80 (by decide) ?_
                                                                                                            refine lv_iload_n hx hb dX12_paint_42 rfl (lv_at hl 0 rfl) ?_
                                                                                                            refine lv_bipush (v := 40) hx hb dX12_paint_43 (by decide) ?_
                                                                                                            refine lv_icmp_ge (tgt := 83) hx hb dX12_paint_45 (by decide) (fun c1276 => ?_) (fun c1276 => ?_)
                                                                                                            · exact absurd c1276 (by decide)
                                                                                                            · refine lv_aload_n hx hb dX12_paint_48 rfl (lv_at hl 1 rfl) ?_
                                                                                                              refine va_get (D := D) (ci := 12) (v := .ref h11) (C := RX12) (T := TX12) (N := 24) hx hb hts hin12 hown hK hP 3 rfl rfl 18 (by decide) (hts (.fieldLink RX12 44 "MissedPointsModel" "items" "[I") (by decide +kernel)) (fun _ h9 => h9) rfl dX12_paint_49 ?_
                                                                                                              refine lv_bipush (v := 40) hx hb dX12_paint_52 (by decide) ?_
                                                                                                              refine lv_iload_n hx hb dX12_paint_54 rfl (lv_at hl 2 rfl) ?_
                                                                                                              refine lv_imul hx hb dX12_paint_55 ?_
                                                                                                              refine lz_top (y := 120) (by decide) ?_
                                                                                                              refine lv_iload_n hx hb dX12_paint_56 rfl (lv_at hl 0 rfl) ?_
                                                                                                              refine lv_iadd hx hb dX12_paint_57 ?_
                                                                                                              refine lz_top (y := 142) (by decide) ?_
                                                                                                              refine lv_iload_n hx hb dX12_paint_58 rfl (lv_at hl 0 rfl) ?_
                                                                                                              refine lv_aload_n hx hb dX12_paint_59 rfl (lv_at hl 1 rfl) ?_
                                                                                                              refine va_get (D := D) (ci := 12) (v := .int 0) (C := RX12) (T := TX12) (N := 24) hx hb hts hin12 hown hK hP 3 rfl rfl 0 (by decide) (hts (.fieldLink RX12 63 "MissedPointsModel" "many" "I") (by decide +kernel)) (fun _ h9 => h9) rfl dX12_paint_60 ?_
                                                                                                              refine lv_icmp_ge (tgt := 75) hx hb dX12_paint_63 (by decide) (fun c1277 => ?_) (fun c1277 => ?_)
                                                                                                              · refine lv_iconst (v := 0) hx hb dX12_paint_75 (by decide) ?_
                                                                                                                refine lz_astc hx hb hK hP hD hS 2 0 rfl rfl (lz_vp (x := 142) (n := 160) (by decide) (by decide)) dX12_paint_76 (fun H locs hP hD hS => ?_)
                                                                                                                refine lv_iinc (v := 23) (lv' := [(3, .int 23), (0, .ref h0), (1, .int 3), (2, .int x1)]) hx hb dX12_paint_77 hl (k := 0) rfl (by decide) (by decide) rfl (fun ls hl => ?_)
                                                                                                                refine lv_goto (tgt := 42) hx hb dX12_paint_80 (by decide) ?_
                                                                                                                refine lv_iload_n hx hb dX12_paint_42 rfl (lv_at hl 0 rfl) ?_
                                                                                                                refine lv_bipush (v := 40) hx hb dX12_paint_43 (by decide) ?_
                                                                                                                refine lv_icmp_ge (tgt := 83) hx hb dX12_paint_45 (by decide) (fun c1278 => ?_) (fun c1278 => ?_)
                                                                                                                · exact absurd c1278 (by decide)
                                                                                                                · refine lv_aload_n hx hb dX12_paint_48 rfl (lv_at hl 1 rfl) ?_
                                                                                                                  refine va_get (D := D) (ci := 12) (v := .ref h11) (C := RX12) (T := TX12) (N := 24) hx hb hts hin12 hown hK hP 3 rfl rfl 18 (by decide) (hts (.fieldLink RX12 44 "MissedPointsModel" "items" "[I") (by decide +kernel)) (fun _ h9 => h9) rfl dX12_paint_49 ?_
                                                                                                                  refine lv_bipush (v := 40) hx hb dX12_paint_52 (by decide) ?_
                                                                                                                  refine lv_iload_n hx hb dX12_paint_54 rfl (lv_at hl 2 rfl) ?_
                                                                                                                  refine lv_imul hx hb dX12_paint_55 ?_
                                                                                                                  refine lz_top (y := 120) (by decide) ?_
                                                                                                                  refine lv_iload_n hx hb dX12_paint_56 rfl (lv_at hl 0 rfl) ?_
                                                                                                                  refine lv_iadd hx hb dX12_paint_57 ?_
                                                                                                                  refine lz_top (y := 143) (by decide) ?_
                                                                                                                  refine lv_iload_n hx hb dX12_paint_58 rfl (lv_at hl 0 rfl) ?_
                                                                                                                  refine lv_aload_n hx hb dX12_paint_59 rfl (lv_at hl 1 rfl) ?_
                                                                                                                  refine va_get (D := D) (ci := 12) (v := .int 0) (C := RX12) (T := TX12) (N := 24) hx hb hts hin12 hown hK hP 3 rfl rfl 0 (by decide) (hts (.fieldLink RX12 63 "MissedPointsModel" "many" "I") (by decide +kernel)) (fun _ h9 => h9) rfl dX12_paint_60 ?_
                                                                                                                  refine lv_icmp_ge (tgt := 75) hx hb dX12_paint_63 (by decide) (fun c1279 => ?_) (fun c1279 => ?_)
                                                                                                                  · refine lv_iconst (v := 0) hx hb dX12_paint_75 (by decide) ?_
                                                                                                                    refine lz_astc hx hb hK hP hD hS 2 0 rfl rfl (lz_vp (x := 143) (n := 160) (by decide) (by decide)) dX12_paint_76 (fun H locs hP hD hS => ?_)
                                                                                                                    refine lv_iinc (v := 24) (lv' := [(3, .int 24), (0, .ref h0), (1, .int 3), (2, .int x1)]) hx hb dX12_paint_77 hl (k := 0) rfl (by decide) (by decide) rfl (fun ls hl => ?_)
                                                                                                                    refine lv_goto (tgt := 42) hx hb dX12_paint_80 (by decide) ?_
                                                                                                                    refine lv_iload_n hx hb dX12_paint_42 rfl (lv_at hl 0 rfl) ?_
                                                                                                                    refine lv_bipush (v := 40) hx hb dX12_paint_43 (by decide) ?_
                                                                                                                    refine lv_icmp_ge (tgt := 83) hx hb dX12_paint_45 (by decide) (fun c1280 => ?_) (fun c1280 => ?_)
                                                                                                                    · exact absurd c1280 (by decide)
                                                                                                                    · refine lv_aload_n hx hb dX12_paint_48 rfl (lv_at hl 1 rfl) ?_
                                                                                                                      refine va_get (D := D) (ci := 12) (v := .ref h11) (C := RX12) (T := TX12) (N := 24) hx hb hts hin12 hown hK hP 3 rfl rfl 18 (by decide) (hts (.fieldLink RX12 44 "MissedPointsModel" "items" "[I") (by decide +kernel)) (fun _ h9 => h9) rfl dX12_paint_49 ?_
                                                                                                                      refine lv_bipush (v := 40) hx hb dX12_paint_52 (by decide) ?_
                                                                                                                      refine lv_iload_n hx hb dX12_paint_54 rfl (lv_at hl 2 rfl) ?_
                                                                                                                      refine lv_imul hx hb dX12_paint_55 ?_
                                                                                                                      refine lz_top (y := 120) (by decide) ?_
                                                                                                                      refine lv_iload_n hx hb dX12_paint_56 rfl (lv_at hl 0 rfl) ?_
                                                                                                                      refine lv_iadd hx hb dX12_paint_57 ?_
                                                                                                                      refine lz_top (y := 144) (by decide) ?_
                                                                                                                      refine lv_iload_n hx hb dX12_paint_58 rfl (lv_at hl 0 rfl) ?_
                                                                                                                      refine lv_aload_n hx hb dX12_paint_59 rfl (lv_at hl 1 rfl) ?_
                                                                                                                      refine va_get (D := D) (ci := 12) (v := .int 0) (C := RX12) (T := TX12) (N := 24) hx hb hts hin12 hown hK hP 3 rfl rfl 0 (by decide) (hts (.fieldLink RX12 63 "MissedPointsModel" "many" "I") (by decide +kernel)) (fun _ h9 => h9) rfl dX12_paint_60 ?_
                                                                                                                      refine lv_icmp_ge (tgt := 75) hx hb dX12_paint_63 (by decide) (fun c1281 => ?_) (fun c1281 => ?_)
                                                                                                                      · refine lv_iconst (v := 0) hx hb dX12_paint_75 (by decide) ?_
                                                                                                                        refine lz_astc hx hb hK hP hD hS 2 0 rfl rfl (lz_vp (x := 144) (n := 160) (by decide) (by decide)) dX12_paint_76 (fun H locs hP hD hS => ?_)
                                                                                                                        refine lv_iinc (v := 25) (lv' := [(3, .int 25), (0, .ref h0), (1, .int 3), (2, .int x1)]) hx hb dX12_paint_77 hl (k := 0) rfl (by decide) (by decide) rfl (fun ls hl => ?_)
                                                                                                                        refine lv_goto (tgt := 42) hx hb dX12_paint_80 (by decide) ?_
                                                                                                                        refine lv_iload_n hx hb dX12_paint_42 rfl (lv_at hl 0 rfl) ?_
                                                                                                                        refine lv_bipush (v := 40) hx hb dX12_paint_43 (by decide) ?_
                                                                                                                        refine lv_icmp_ge (tgt := 83) hx hb dX12_paint_45 (by decide) (fun c1282 => ?_) (fun c1282 => ?_)
                                                                                                                        · exact absurd c1282 (by decide)
                                                                                                                        · refine lv_aload_n hx hb dX12_paint_48 rfl (lv_at hl 1 rfl) ?_
                                                                                                                          refine va_get (D := D) (ci := 12) (v := .ref h11) (C := RX12) (T := TX12) (N := 24) hx hb hts hin12 hown hK hP 3 rfl rfl 18 (by decide) (hts (.fieldLink RX12 44 "MissedPointsModel" "items" "[I") (by decide +kernel)) (fun _ h9 => h9) rfl dX12_paint_49 ?_
                                                                                                                          refine lv_bipush (v := 40) hx hb dX12_paint_52 (by decide) ?_
                                                                                                                          refine lv_iload_n hx hb dX12_paint_54 rfl (lv_at hl 2 rfl) ?_
                                                                                                                          refine lv_imul hx hb dX12_paint_55 ?_
                                                                                                                          refine lz_top (y := 120) (by decide) ?_
                                                                                                                          refine lv_iload_n hx hb dX12_paint_56 rfl (lv_at hl 0 rfl) ?_
                                                                                                                          refine lv_iadd hx hb dX12_paint_57 ?_
                                                                                                                          refine lz_top (y := 145) (by decide) ?_
                                                                                                                          refine lv_iload_n hx hb dX12_paint_58 rfl (lv_at hl 0 rfl) ?_
                                                                                                                          refine lv_aload_n hx hb dX12_paint_59 rfl (lv_at hl 1 rfl) ?_
                                                                                                                          refine va_get (D := D) (ci := 12) (v := .int 0) (C := RX12) (T := TX12) (N := 24) hx hb hts hin12 hown hK hP 3 rfl rfl 0 (by decide) (hts (.fieldLink RX12 63 "MissedPointsModel" "many" "I") (by decide +kernel)) (fun _ h9 => h9) rfl dX12_paint_60 ?_
                                                                                                                          refine lv_icmp_ge (tgt := 75) hx hb dX12_paint_63 (by decide) (fun c1283 => ?_) (fun c1283 => ?_)
                                                                                                                          · refine lv_iconst (v := 0) hx hb dX12_paint_75 (by decide) ?_
                                                                                                                            refine lz_astc hx hb hK hP hD hS 2 0 rfl rfl (lz_vp (x := 145) (n := 160) (by decide) (by decide)) dX12_paint_76 (fun H locs hP hD hS => ?_)
                                                                                                                            refine lv_iinc (v := 26) (lv' := [(3, .int 26), (0, .ref h0), (1, .int 3), (2, .int x1)]) hx hb dX12_paint_77 hl (k := 0) rfl (by decide) (by decide) rfl (fun ls hl => ?_)
                                                                                                                            refine lv_goto (tgt := 42) hx hb dX12_paint_80 (by decide) ?_
                                                                                                                            refine lv_iload_n hx hb dX12_paint_42 rfl (lv_at hl 0 rfl) ?_
                                                                                                                            refine lv_bipush (v := 40) hx hb dX12_paint_43 (by decide) ?_
                                                                                                                            refine lv_icmp_ge (tgt := 83) hx hb dX12_paint_45 (by decide) (fun c1284 => ?_) (fun c1284 => ?_)
                                                                                                                            · exact absurd c1284 (by decide)
                                                                                                                            · refine lv_aload_n hx hb dX12_paint_48 rfl (lv_at hl 1 rfl) ?_
                                                                                                                              refine va_get (D := D) (ci := 12) (v := .ref h11) (C := RX12) (T := TX12) (N := 24) hx hb hts hin12 hown hK hP 3 rfl rfl 18 (by decide) (hts (.fieldLink RX12 44 "MissedPointsModel" "items" "[I") (by decide +kernel)) (fun _ h9 => h9) rfl dX12_paint_49 ?_
                                                                                                                              refine lv_bipush (v := 40) hx hb dX12_paint_52 (by decide) ?_
                                                                                                                              refine lv_iload_n hx hb dX12_paint_54 rfl (lv_at hl 2 rfl) ?_
                                                                                                                              refine lv_imul hx hb dX12_paint_55 ?_
                                                                                                                              refine lz_top (y := 120) (by decide) ?_
                                                                                                                              refine lv_iload_n hx hb dX12_paint_56 rfl (lv_at hl 0 rfl) ?_
                                                                                                                              refine lv_iadd hx hb dX12_paint_57 ?_
                                                                                                                              refine lz_top (y := 146) (by decide) ?_
                                                                                                                              refine lv_iload_n hx hb dX12_paint_58 rfl (lv_at hl 0 rfl) ?_
                                                                                                                              refine lv_aload_n hx hb dX12_paint_59 rfl (lv_at hl 1 rfl) ?_
                                                                                                                              refine va_get (D := D) (ci := 12) (v := .int 0) (C := RX12) (T := TX12) (N := 24) hx hb hts hin12 hown hK hP 3 rfl rfl 0 (by decide) (hts (.fieldLink RX12 63 "MissedPointsModel" "many" "I") (by decide +kernel)) (fun _ h9 => h9) rfl dX12_paint_60 ?_
                                                                                                                              refine lv_icmp_ge (tgt := 75) hx hb dX12_paint_63 (by decide) (fun c1285 => ?_) (fun c1285 => ?_)
                                                                                                                              · refine lv_iconst (v := 0) hx hb dX12_paint_75 (by decide) ?_
                                                                                                                                refine lz_astc hx hb hK hP hD hS 2 0 rfl rfl (lz_vp (x := 146) (n := 160) (by decide) (by decide)) dX12_paint_76 (fun H locs hP hD hS => ?_)
                                                                                                                                refine lv_iinc (v := 27) (lv' := [(3, .int 27), (0, .ref h0), (1, .int 3), (2, .int x1)]) hx hb dX12_paint_77 hl (k := 0) rfl (by decide) (by decide) rfl (fun ls hl => ?_)
                                                                                                                                refine lv_goto (tgt := 42) hx hb dX12_paint_80 (by decide) ?_
                                                                                                                                refine lv_iload_n hx hb dX12_paint_42 rfl (lv_at hl 0 rfl) ?_
                                                                                                                                refine lv_bipush (v := 40) hx hb dX12_paint_43 (by decide) ?_
                                                                                                                                refine lv_icmp_ge (tgt := 83) hx hb dX12_paint_45 (by decide) (fun c1286 => ?_) (fun c1286 => ?_)
                                                                                                                                · exact absurd c1286 (by decide)
                                                                                                                                · refine lv_aload_n hx hb dX12_paint_48 rfl (lv_at hl 1 rfl) ?_
                                                                                                                                  refine va_get (D := D) (ci := 12) (v := .ref h11) (C := RX12) (T := TX12) (N := 24) hx hb hts hin12 hown hK hP 3 rfl rfl 18 (by decide) (hts (.fieldLink RX12 44 "MissedPointsModel" "items" "[I") (by decide +kernel)) (fun _ h9 => h9) rfl dX12_paint_49 ?_
                                                                                                                                  refine lv_bipush (v := 40) hx hb dX12_paint_52 (by decide) ?_
                                                                                                                                  refine lv_iload_n hx hb dX12_paint_54 rfl (lv_at hl 2 rfl) ?_
                                                                                                                                  refine lv_imul hx hb dX12_paint_55 ?_
                                                                                                                                  refine lz_top (y := 120) (by decide) ?_
                                                                                                                                  refine lv_iload_n hx hb dX12_paint_56 rfl (lv_at hl 0 rfl) ?_
                                                                                                                                  refine lv_iadd hx hb dX12_paint_57 ?_
                                                                                                                                  refine lz_top (y := 147) (by decide) ?_
                                                                                                                                  refine lv_iload_n hx hb dX12_paint_58 rfl (lv_at hl 0 rfl) ?_
                                                                                                                                  refine lv_aload_n hx hb dX12_paint_59 rfl (lv_at hl 1 rfl) ?_
                                                                                                                                  refine va_get (D := D) (ci := 12) (v := .int 0) (C := RX12) (T := TX12) (N := 24) hx hb hts hin12 hown hK hP 3 rfl rfl 0 (by decide) (hts (.fieldLink RX12 63 "MissedPointsModel" "many" "I") (by decide +kernel)) (fun _ h9 => h9) rfl dX12_paint_60 ?_
                                                                                                                                  refine lv_icmp_ge (tgt := 75) hx hb dX12_paint_63 (by decide) (fun c1287 => ?_) (fun c1287 => ?_)
                                                                                                                                  · refine lv_iconst (v := 0) hx hb dX12_paint_75 (by decide) ?_
                                                                                                                                    refine lz_astc hx hb hK hP hD hS 2 0 rfl rfl (lz_vp (x := 147) (n := 160) (by decide) (by decide)) dX12_paint_76 (fun H locs hP hD hS => ?_)
                                                                                                                                    refine lv_iinc (v := 28) (lv' := [(3, .int 28), (0, .ref h0), (1, .int 3), (2, .int x1)]) hx hb dX12_paint_77 hl (k := 0) rfl (by decide) (by decide) rfl (fun ls hl => ?_)
                                                                                                                                    refine lv_goto (tgt := 42) hx hb dX12_paint_80 (by decide) ?_
                                                                                                                                    refine lv_iload_n hx hb dX12_paint_42 rfl (lv_at hl 0 rfl) ?_
                                                                                                                                    refine lv_bipush (v := 40) hx hb dX12_paint_43 (by decide) ?_
                                                                                                                                    refine lv_icmp_ge (tgt := 83) hx hb dX12_paint_45 (by decide) (fun c1288 => ?_) (fun c1288 => ?_)
                                                                                                                                    · exact absurd c1288 (by decide)
                                                                                                                                    · refine lv_aload_n hx hb dX12_paint_48 rfl (lv_at hl 1 rfl) ?_
                                                                                                                                      refine va_get (D := D) (ci := 12) (v := .ref h11) (C := RX12) (T := TX12) (N := 24) hx hb hts hin12 hown hK hP 3 rfl rfl 18 (by decide) (hts (.fieldLink RX12 44 "MissedPointsModel" "items" "[I") (by decide +kernel)) (fun _ h9 => h9) rfl dX12_paint_49 ?_
                                                                                                                                      refine lv_bipush (v := 40) hx hb dX12_paint_52 (by decide) ?_
                                                                                                                                      refine lv_iload_n hx hb dX12_paint_54 rfl (lv_at hl 2 rfl) ?_
                                                                                                                                      refine lv_imul hx hb dX12_paint_55 ?_
                                                                                                                                      refine lz_top (y := 120) (by decide) ?_
                                                                                                                                      refine lv_iload_n hx hb dX12_paint_56 rfl (lv_at hl 0 rfl) ?_
                                                                                                                                      refine lv_iadd hx hb dX12_paint_57 ?_
                                                                                                                                      refine lz_top (y := 148) (by decide) ?_
                                                                                                                                      refine lv_iload_n hx hb dX12_paint_58 rfl (lv_at hl 0 rfl) ?_
                                                                                                                                      refine lv_aload_n hx hb dX12_paint_59 rfl (lv_at hl 1 rfl) ?_
                                                                                                                                      refine va_get (D := D) (ci := 12) (v := .int 0) (C := RX12) (T := TX12) (N := 24) hx hb hts hin12 hown hK hP 3 rfl rfl 0 (by decide) (hts (.fieldLink RX12 63 "MissedPointsModel" "many" "I") (by decide +kernel)) (fun _ h9 => h9) rfl dX12_paint_60 ?_
                                                                                                                                      refine lv_icmp_ge (tgt := 75) hx hb dX12_paint_63 (by decide) (fun c1289 => ?_) (fun c1289 => ?_)
                                                                                                                                      · refine lv_iconst (v := 0) hx hb dX12_paint_75 (by decide) ?_
                                                                                                                                        refine lz_astc hx hb hK hP hD hS 2 0 rfl rfl (lz_vp (x := 148) (n := 160) (by decide) (by decide)) dX12_paint_76 (fun H locs hP hD hS => ?_)
                                                                                                                                        refine lv_iinc (v := 29) (lv' := [(3, .int 29), (0, .ref h0), (1, .int 3), (2, .int x1)]) hx hb dX12_paint_77 hl (k := 0) rfl (by decide) (by decide) rfl (fun ls hl => ?_)
                                                                                                                                        refine lv_goto (tgt := 42) hx hb dX12_paint_80 (by decide) ?_
                                                                                                                                        refine lv_iload_n hx hb dX12_paint_42 rfl (lv_at hl 0 rfl) ?_
                                                                                                                                        refine lv_bipush (v := 40) hx hb dX12_paint_43 (by decide) ?_
                                                                                                                                        refine lv_icmp_ge (tgt := 83) hx hb dX12_paint_45 (by decide) (fun c1290 => ?_) (fun c1290 => ?_)
                                                                                                                                        · exact absurd c1290 (by decide)
                                                                                                                                        · refine lv_aload_n hx hb dX12_paint_48 rfl (lv_at hl 1 rfl) ?_
                                                                                                                                          refine va_get (D := D) (ci := 12) (v := .ref h11) (C := RX12) (T := TX12) (N := 24) hx hb hts hin12 hown hK hP 3 rfl rfl 18 (by decide) (hts (.fieldLink RX12 44 "MissedPointsModel" "items" "[I") (by decide +kernel)) (fun _ h9 => h9) rfl dX12_paint_49 ?_
                                                                                                                                          refine lv_bipush (v := 40) hx hb dX12_paint_52 (by decide) ?_
                                                                                                                                          refine lv_iload_n hx hb dX12_paint_54 rfl (lv_at hl 2 rfl) ?_
                                                                                                                                          refine lv_imul hx hb dX12_paint_55 ?_
                                                                                                                                          refine lz_top (y := 120) (by decide) ?_
                                                                                                                                          refine lv_iload_n hx hb dX12_paint_56 rfl (lv_at hl 0 rfl) ?_
                                                                                                                                          refine lv_iadd hx hb dX12_paint_57 ?_
                                                                                                                                          refine lz_top (y := 149) (by decide) ?_
                                                                                                                                          refine lv_iload_n hx hb dX12_paint_58 rfl (lv_at hl 0 rfl) ?_
                                                                                                                                          refine lv_aload_n hx hb dX12_paint_59 rfl (lv_at hl 1 rfl) ?_
                                                                                                                                          refine va_get (D := D) (ci := 12) (v := .int 0) (C := RX12) (T := TX12) (N := 24) hx hb hts hin12 hown hK hP 3 rfl rfl 0 (by decide) (hts (.fieldLink RX12 63 "MissedPointsModel" "many" "I") (by decide +kernel)) (fun _ h9 => h9) rfl dX12_paint_60 ?_
                                                                                                                                          refine lv_icmp_ge (tgt := 75) hx hb dX12_paint_63 (by decide) (fun c1291 => ?_) (fun c1291 => ?_)
                                                                                                                                          · refine lv_iconst (v := 0) hx hb dX12_paint_75 (by decide) ?_
                                                                                                                                            refine lz_astc hx hb hK hP hD hS 2 0 rfl rfl (lz_vp (x := 149) (n := 160) (by decide) (by decide)) dX12_paint_76 (fun H locs hP hD hS => ?_)
                                                                                                                                            refine lv_iinc (v := 30) (lv' := [(3, .int 30), (0, .ref h0), (1, .int 3), (2, .int x1)]) hx hb dX12_paint_77 hl (k := 0) rfl (by decide) (by decide) rfl (fun ls hl => ?_)
                                                                                                                                            refine lv_goto (tgt := 42) hx hb dX12_paint_80 (by decide) ?_
                                                                                                                                            refine lv_iload_n hx hb dX12_paint_42 rfl (lv_at hl 0 rfl) ?_
                                                                                                                                            refine lv_bipush (v := 40) hx hb dX12_paint_43 (by decide) ?_
                                                                                                                                            refine lv_icmp_ge (tgt := 83) hx hb dX12_paint_45 (by decide) (fun c1292 => ?_) (fun c1292 => ?_)
                                                                                                                                            · exact absurd c1292 (by decide)
                                                                                                                                            · refine lv_aload_n hx hb dX12_paint_48 rfl (lv_at hl 1 rfl) ?_
                                                                                                                                              refine va_get (D := D) (ci := 12) (v := .ref h11) (C := RX12) (T := TX12) (N := 24) hx hb hts hin12 hown hK hP 3 rfl rfl 18 (by decide) (hts (.fieldLink RX12 44 "MissedPointsModel" "items" "[I") (by decide +kernel)) (fun _ h9 => h9) rfl dX12_paint_49 ?_
                                                                                                                                              refine lv_bipush (v := 40) hx hb dX12_paint_52 (by decide) ?_
                                                                                                                                              refine lv_iload_n hx hb dX12_paint_54 rfl (lv_at hl 2 rfl) ?_
                                                                                                                                              refine lv_imul hx hb dX12_paint_55 ?_
                                                                                                                                              refine lz_top (y := 120) (by decide) ?_
                                                                                                                                              refine lv_iload_n hx hb dX12_paint_56 rfl (lv_at hl 0 rfl) ?_
                                                                                                                                              refine lv_iadd hx hb dX12_paint_57 ?_
                                                                                                                                              refine lz_top (y := 150) (by decide) ?_
                                                                                                                                              refine lv_iload_n hx hb dX12_paint_58 rfl (lv_at hl 0 rfl) ?_
                                                                                                                                              refine lv_aload_n hx hb dX12_paint_59 rfl (lv_at hl 1 rfl) ?_
                                                                                                                                              refine va_get (D := D) (ci := 12) (v := .int 0) (C := RX12) (T := TX12) (N := 24) hx hb hts hin12 hown hK hP 3 rfl rfl 0 (by decide) (hts (.fieldLink RX12 63 "MissedPointsModel" "many" "I") (by decide +kernel)) (fun _ h9 => h9) rfl dX12_paint_60 ?_
                                                                                                                                              refine lv_icmp_ge (tgt := 75) hx hb dX12_paint_63 (by decide) (fun c1293 => ?_) (fun c1293 => ?_)
                                                                                                                                              · refine lv_iconst (v := 0) hx hb dX12_paint_75 (by decide) ?_
                                                                                                                                                refine lz_astc hx hb hK hP hD hS 2 0 rfl rfl (lz_vp (x := 150) (n := 160) (by decide) (by decide)) dX12_paint_76 (fun H locs hP hD hS => ?_)
                                                                                                                                                refine lv_iinc (v := 31) (lv' := [(3, .int 31), (0, .ref h0), (1, .int 3), (2, .int x1)]) hx hb dX12_paint_77 hl (k := 0) rfl (by decide) (by decide) rfl (fun ls hl => ?_)
                                                                                                                                                refine lv_goto (tgt := 42) hx hb dX12_paint_80 (by decide) ?_
                                                                                                                                                refine lv_iload_n hx hb dX12_paint_42 rfl (lv_at hl 0 rfl) ?_
                                                                                                                                                refine lv_bipush (v := 40) hx hb dX12_paint_43 (by decide) ?_
                                                                                                                                                refine lv_icmp_ge (tgt := 83) hx hb dX12_paint_45 (by decide) (fun c1294 => ?_) (fun c1294 => ?_)
                                                                                                                                                · exact absurd c1294 (by decide)
                                                                                                                                                · refine lv_aload_n hx hb dX12_paint_48 rfl (lv_at hl 1 rfl) ?_
                                                                                                                                                  refine va_get (D := D) (ci := 12) (v := .ref h11) (C := RX12) (T := TX12) (N := 24) hx hb hts hin12 hown hK hP 3 rfl rfl 18 (by decide) (hts (.fieldLink RX12 44 "MissedPointsModel" "items" "[I") (by decide +kernel)) (fun _ h9 => h9) rfl dX12_paint_49 ?_
                                                                                                                                                  refine lv_bipush (v := 40) hx hb dX12_paint_52 (by decide) ?_
                                                                                                                                                  refine lv_iload_n hx hb dX12_paint_54 rfl (lv_at hl 2 rfl) ?_
                                                                                                                                                  refine lv_imul hx hb dX12_paint_55 ?_
                                                                                                                                                  refine lz_top (y := 120) (by decide) ?_
                                                                                                                                                  refine lv_iload_n hx hb dX12_paint_56 rfl (lv_at hl 0 rfl) ?_
                                                                                                                                                  refine lv_iadd hx hb dX12_paint_57 ?_
                                                                                                                                                  refine lz_top (y := 151) (by decide) ?_
                                                                                                                                                  refine lv_iload_n hx hb dX12_paint_58 rfl (lv_at hl 0 rfl) ?_
                                                                                                                                                  refine lv_aload_n hx hb dX12_paint_59 rfl (lv_at hl 1 rfl) ?_
                                                                                                                                                  refine va_get (D := D) (ci := 12) (v := .int 0) (C := RX12) (T := TX12) (N := 24) hx hb hts hin12 hown hK hP 3 rfl rfl 0 (by decide) (hts (.fieldLink RX12 63 "MissedPointsModel" "many" "I") (by decide +kernel)) (fun _ h9 => h9) rfl dX12_paint_60 ?_
                                                                                                                                                  refine lv_icmp_ge (tgt := 75) hx hb dX12_paint_63 (by decide) (fun c1295 => ?_) (fun c1295 => ?_)
                                                                                                                                                  · refine lv_iconst (v := 0) hx hb dX12_paint_75 (by decide) ?_
                                                                                                                                                    refine lz_astc hx hb hK hP hD hS 2 0 rfl rfl (lz_vp (x := 151) (n := 160) (by decide) (by decide)) dX12_paint_76 (fun H locs hP hD hS => ?_)
                                                                                                                                                    refine lv_iinc (v := 32) (lv' := [(3, .int 32), (0, .ref h0), (1, .int 3), (2, .int x1)]) hx hb dX12_paint_77 hl (k := 0) rfl (by decide) (by decide) rfl (fun ls hl => ?_)
                                                                                                                                                    refine lv_goto (tgt := 42) hx hb dX12_paint_80 (by decide) ?_
                                                                                                                                                    refine lv_iload_n hx hb dX12_paint_42 rfl (lv_at hl 0 rfl) ?_
                                                                                                                                                    refine lv_bipush (v := 40) hx hb dX12_paint_43 (by decide) ?_
                                                                                                                                                    refine lv_icmp_ge (tgt := 83) hx hb dX12_paint_45 (by decide) (fun c1296 => ?_) (fun c1296 => ?_)
                                                                                                                                                    · exact absurd c1296 (by decide)
                                                                                                                                                    · refine lv_aload_n hx hb dX12_paint_48 rfl (lv_at hl 1 rfl) ?_
                                                                                                                                                      refine va_get (D := D) (ci := 12) (v := .ref h11) (C := RX12) (T := TX12) (N := 24) hx hb hts hin12 hown hK hP 3 rfl rfl 18 (by decide) (hts (.fieldLink RX12 44 "MissedPointsModel" "items" "[I") (by decide +kernel)) (fun _ h9 => h9) rfl dX12_paint_49 ?_
                                                                                                                                                      refine lv_bipush (v := 40) hx hb dX12_paint_52 (by decide) ?_
                                                                                                                                                      refine lv_iload_n hx hb dX12_paint_54 rfl (lv_at hl 2 rfl) ?_
                                                                                                                                                      refine lv_imul hx hb dX12_paint_55 ?_
                                                                                                                                                      refine lz_top (y := 120) (by decide) ?_
                                                                                                                                                      refine lv_iload_n hx hb dX12_paint_56 rfl (lv_at hl 0 rfl) ?_
                                                                                                                                                      refine lv_iadd hx hb dX12_paint_57 ?_
                                                                                                                                                      refine lz_top (y := 152) (by decide) ?_
                                                                                                                                                      refine lv_iload_n hx hb dX12_paint_58 rfl (lv_at hl 0 rfl) ?_
                                                                                                                                                      refine lv_aload_n hx hb dX12_paint_59 rfl (lv_at hl 1 rfl) ?_
                                                                                                                                                      refine va_get (D := D) (ci := 12) (v := .int 0) (C := RX12) (T := TX12) (N := 24) hx hb hts hin12 hown hK hP 3 rfl rfl 0 (by decide) (hts (.fieldLink RX12 63 "MissedPointsModel" "many" "I") (by decide +kernel)) (fun _ h9 => h9) rfl dX12_paint_60 ?_
                                                                                                                                                      refine lv_icmp_ge (tgt := 75) hx hb dX12_paint_63 (by decide) (fun c1297 => ?_) (fun c1297 => ?_)
                                                                                                                                                      · refine lv_iconst (v := 0) hx hb dX12_paint_75 (by decide) ?_
                                                                                                                                                        refine lz_astc hx hb hK hP hD hS 2 0 rfl rfl (lz_vp (x := 152) (n := 160) (by decide) (by decide)) dX12_paint_76 (fun H locs hP hD hS => ?_)
                                                                                                                                                        refine lv_iinc (v := 33) (lv' := [(3, .int 33), (0, .ref h0), (1, .int 3), (2, .int x1)]) hx hb dX12_paint_77 hl (k := 0) rfl (by decide) (by decide) rfl (fun ls hl => ?_)
                                                                                                                                                        refine lv_goto (tgt := 42) hx hb dX12_paint_80 (by decide) ?_
                                                                                                                                                        refine lv_iload_n hx hb dX12_paint_42 rfl (lv_at hl 0 rfl) ?_
                                                                                                                                                        refine lv_bipush (v := 40) hx hb dX12_paint_43 (by decide) ?_
                                                                                                                                                        refine lv_icmp_ge (tgt := 83) hx hb dX12_paint_45 (by decide) (fun c1298 => ?_) (fun c1298 => ?_)
                                                                                                                                                        · exact absurd c1298 (by decide)
                                                                                                                                                        · refine lv_aload_n hx hb dX12_paint_48 rfl (lv_at hl 1 rfl) ?_
                                                                                                                                                          refine va_get (D := D) (ci := 12) (v := .ref h11) (C := RX12) (T := TX12) (N := 24) hx hb hts hin12 hown hK hP 3 rfl rfl 18 (by decide) (hts (.fieldLink RX12 44 "MissedPointsModel" "items" "[I") (by decide +kernel)) (fun _ h9 => h9) rfl dX12_paint_49 ?_
                                                                                                                                                          refine lv_bipush (v := 40) hx hb dX12_paint_52 (by decide) ?_
                                                                                                                                                          refine lv_iload_n hx hb dX12_paint_54 rfl (lv_at hl 2 rfl) ?_
                                                                                                                                                          refine lv_imul hx hb dX12_paint_55 ?_
                                                                                                                                                          refine lz_top (y := 120) (by decide) ?_
                                                                                                                                                          refine lv_iload_n hx hb dX12_paint_56 rfl (lv_at hl 0 rfl) ?_
                                                                                                                                                          refine lv_iadd hx hb dX12_paint_57 ?_
                                                                                                                                                          refine lz_top (y := 153) (by decide) ?_
                                                                                                                                                          refine lv_iload_n hx hb dX12_paint_58 rfl (lv_at hl 0 rfl) ?_
                                                                                                                                                          refine lv_aload_n hx hb dX12_paint_59 rfl (lv_at hl 1 rfl) ?_
                                                                                                                                                          refine va_get (D := D) (ci := 12) (v := .int 0) (C := RX12) (T := TX12) (N := 24) hx hb hts hin12 hown hK hP 3 rfl rfl 0 (by decide) (hts (.fieldLink RX12 63 "MissedPointsModel" "many" "I") (by decide +kernel)) (fun _ h9 => h9) rfl dX12_paint_60 ?_
                                                                                                                                                          refine lv_icmp_ge (tgt := 75) hx hb dX12_paint_63 (by decide) (fun c1299 => ?_) (fun c1299 => ?_)
                                                                                                                                                          · refine lv_iconst (v := 0) hx hb dX12_paint_75 (by decide) ?_
                                                                                                                                                            refine lz_astc hx hb hK hP hD hS 2 0 rfl rfl (lz_vp (x := 153) (n := 160) (by decide) (by decide)) dX12_paint_76 (fun H locs hP hD hS => ?_)
                                                                                                                                                            refine lv_iinc (v := 34) (lv' := [(3, .int 34), (0, .ref h0), (1, .int 3), (2, .int x1)]) hx hb dX12_paint_77 hl (k := 0) rfl (by decide) (by decide) rfl (fun ls hl => ?_)
                                                                                                                                                            refine lv_goto (tgt := 42) hx hb dX12_paint_80 (by decide) ?_
                                                                                                                                                            refine lv_iload_n hx hb dX12_paint_42 rfl (lv_at hl 0 rfl) ?_
                                                                                                                                                            refine lv_bipush (v := 40) hx hb dX12_paint_43 (by decide) ?_
                                                                                                                                                            refine lv_icmp_ge (tgt := 83) hx hb dX12_paint_45 (by decide) (fun c1300 => ?_) (fun c1300 => ?_)
                                                                                                                                                            · exact absurd c1300 (by decide)
                                                                                                                                                            · refine lv_aload_n hx hb dX12_paint_48 rfl (lv_at hl 1 rfl) ?_
                                                                                                                                                              refine va_get (D := D) (ci := 12) (v := .ref h11) (C := RX12) (T := TX12) (N := 24) hx hb hts hin12 hown hK hP 3 rfl rfl 18 (by decide) (hts (.fieldLink RX12 44 "MissedPointsModel" "items" "[I") (by decide +kernel)) (fun _ h9 => h9) rfl dX12_paint_49 ?_
                                                                                                                                                              refine lv_bipush (v := 40) hx hb dX12_paint_52 (by decide) ?_
                                                                                                                                                              refine lv_iload_n hx hb dX12_paint_54 rfl (lv_at hl 2 rfl) ?_
                                                                                                                                                              refine lv_imul hx hb dX12_paint_55 ?_
                                                                                                                                                              refine lz_top (y := 120) (by decide) ?_
                                                                                                                                                              refine lv_iload_n hx hb dX12_paint_56 rfl (lv_at hl 0 rfl) ?_
                                                                                                                                                              refine lv_iadd hx hb dX12_paint_57 ?_
                                                                                                                                                              refine lz_top (y := 154) (by decide) ?_
                                                                                                                                                              refine lv_iload_n hx hb dX12_paint_58 rfl (lv_at hl 0 rfl) ?_
                                                                                                                                                              refine lv_aload_n hx hb dX12_paint_59 rfl (lv_at hl 1 rfl) ?_
                                                                                                                                                              refine va_get (D := D) (ci := 12) (v := .int 0) (C := RX12) (T := TX12) (N := 24) hx hb hts hin12 hown hK hP 3 rfl rfl 0 (by decide) (hts (.fieldLink RX12 63 "MissedPointsModel" "many" "I") (by decide +kernel)) (fun _ h9 => h9) rfl dX12_paint_60 ?_
                                                                                                                                                              refine lv_icmp_ge (tgt := 75) hx hb dX12_paint_63 (by decide) (fun c1301 => ?_) (fun c1301 => ?_)
                                                                                                                                                              · refine lv_iconst (v := 0) hx hb dX12_paint_75 (by decide) ?_
                                                                                                                                                                refine lz_astc hx hb hK hP hD hS 2 0 rfl rfl (lz_vp (x := 154) (n := 160) (by decide) (by decide)) dX12_paint_76 (fun H locs hP hD hS => ?_)
                                                                                                                                                                refine lv_iinc (v := 35) (lv' := [(3, .int 35), (0, .ref h0), (1, .int 3), (2, .int x1)]) hx hb dX12_paint_77 hl (k := 0) rfl (by decide) (by decide) rfl (fun ls hl => ?_)
                                                                                                                                                                refine lv_goto (tgt := 42) hx hb dX12_paint_80 (by decide) ?_
                                                                                                                                                                refine lv_iload_n hx hb dX12_paint_42 rfl (lv_at hl 0 rfl) ?_
                                                                                                                                                                refine lv_bipush (v := 40) hx hb dX12_paint_43 (by decide) ?_
                                                                                                                                                                refine lv_icmp_ge (tgt := 83) hx hb dX12_paint_45 (by decide) (fun c1302 => ?_) (fun c1302 => ?_)
                                                                                                                                                                · exact absurd c1302 (by decide)
                                                                                                                                                                · refine lv_aload_n hx hb dX12_paint_48 rfl (lv_at hl 1 rfl) ?_
                                                                                                                                                                  refine va_get (D := D) (ci := 12) (v := .ref h11) (C := RX12) (T := TX12) (N := 24) hx hb hts hin12 hown hK hP 3 rfl rfl 18 (by decide) (hts (.fieldLink RX12 44 "MissedPointsModel" "items" "[I") (by decide +kernel)) (fun _ h9 => h9) rfl dX12_paint_49 ?_
                                                                                                                                                                  refine lv_bipush (v := 40) hx hb dX12_paint_52 (by decide) ?_
                                                                                                                                                                  refine lv_iload_n hx hb dX12_paint_54 rfl (lv_at hl 2 rfl) ?_
                                                                                                                                                                  refine lv_imul hx hb dX12_paint_55 ?_
                                                                                                                                                                  refine lz_top (y := 120) (by decide) ?_
                                                                                                                                                                  refine lv_iload_n hx hb dX12_paint_56 rfl (lv_at hl 0 rfl) ?_
                                                                                                                                                                  refine lv_iadd hx hb dX12_paint_57 ?_
                                                                                                                                                                  refine lz_top (y := 155) (by decide) ?_
                                                                                                                                                                  refine lv_iload_n hx hb dX12_paint_58 rfl (lv_at hl 0 rfl) ?_
                                                                                                                                                                  refine lv_aload_n hx hb dX12_paint_59 rfl (lv_at hl 1 rfl) ?_
                                                                                                                                                                  refine va_get (D := D) (ci := 12) (v := .int 0) (C := RX12) (T := TX12) (N := 24) hx hb hts hin12 hown hK hP 3 rfl rfl 0 (by decide) (hts (.fieldLink RX12 63 "MissedPointsModel" "many" "I") (by decide +kernel)) (fun _ h9 => h9) rfl dX12_paint_60 ?_
                                                                                                                                                                  refine lv_icmp_ge (tgt := 75) hx hb dX12_paint_63 (by decide) (fun c1303 => ?_) (fun c1303 => ?_)
                                                                                                                                                                  · refine lv_iconst (v := 0) hx hb dX12_paint_75 (by decide) ?_
                                                                                                                                                                    refine lz_astc hx hb hK hP hD hS 2 0 rfl rfl (lz_vp (x := 155) (n := 160) (by decide) (by decide)) dX12_paint_76 (fun H locs hP hD hS => ?_)
                                                                                                                                                                    refine lv_iinc (v := 36) (lv' := [(3, .int 36), (0, .ref h0), (1, .int 3), (2, .int x1)]) hx hb dX12_paint_77 hl (k := 0) rfl (by decide) (by decide) rfl (fun ls hl => ?_)
                                                                                                                                                                    refine lv_goto (tgt := 42) hx hb dX12_paint_80 (by decide) ?_
                                                                                                                                                                    refine lv_iload_n hx hb dX12_paint_42 rfl (lv_at hl 0 rfl) ?_
                                                                                                                                                                    refine lv_bipush (v := 40) hx hb dX12_paint_43 (by decide) ?_
                                                                                                                                                                    refine lv_icmp_ge (tgt := 83) hx hb dX12_paint_45 (by decide) (fun c1304 => ?_) (fun c1304 => ?_)
                                                                                                                                                                    · exact absurd c1304 (by decide)
                                                                                                                                                                    · refine lv_aload_n hx hb dX12_paint_48 rfl (lv_at hl 1 rfl) ?_
                                                                                                                                                                      refine va_get (D := D) (ci := 12) (v := .ref h11) (C := RX12) (T := TX12) (N := 24) hx hb hts hin12 hown hK hP 3 rfl rfl 18 (by decide) (hts (.fieldLink RX12 44 "MissedPointsModel" "items" "[I") (by decide +kernel)) (fun _ h9 => h9) rfl dX12_paint_49 ?_
                                                                                                                                                                      refine lv_bipush (v := 40) hx hb dX12_paint_52 (by decide) ?_
                                                                                                                                                                      refine lv_iload_n hx hb dX12_paint_54 rfl (lv_at hl 2 rfl) ?_
                                                                                                                                                                      refine lv_imul hx hb dX12_paint_55 ?_
                                                                                                                                                                      refine lz_top (y := 120) (by decide) ?_
                                                                                                                                                                      refine lv_iload_n hx hb dX12_paint_56 rfl (lv_at hl 0 rfl) ?_
                                                                                                                                                                      refine lv_iadd hx hb dX12_paint_57 ?_
                                                                                                                                                                      refine lz_top (y := 156) (by decide) ?_
                                                                                                                                                                      refine lv_iload_n hx hb dX12_paint_58 rfl (lv_at hl 0 rfl) ?_
                                                                                                                                                                      refine lv_aload_n hx hb dX12_paint_59 rfl (lv_at hl 1 rfl) ?_
                                                                                                                                                                      refine va_get (D := D) (ci := 12) (v := .int 0) (C := RX12) (T := TX12) (N := 24) hx hb hts hin12 hown hK hP 3 rfl rfl 0 (by decide) (hts (.fieldLink RX12 63 "MissedPointsModel" "many" "I") (by decide +kernel)) (fun _ h9 => h9) rfl dX12_paint_60 ?_
                                                                                                                                                                      refine lv_icmp_ge (tgt := 75) hx hb dX12_paint_63 (by decide) (fun c1305 => ?_) (fun c1305 => ?_)
                                                                                                                                                                      · refine lv_iconst (v := 0) hx hb dX12_paint_75 (by decide) ?_
                                                                                                                                                                        refine lz_astc hx hb hK hP hD hS 2 0 rfl rfl (lz_vp (x := 156) (n := 160) (by decide) (by decide)) dX12_paint_76 (fun H locs hP hD hS => ?_)
                                                                                                                                                                        refine lv_iinc (v := 37) (lv' := [(3, .int 37), (0, .ref h0), (1, .int 3), (2, .int x1)]) hx hb dX12_paint_77 hl (k := 0) rfl (by decide) (by decide) rfl (fun ls hl => ?_)
                                                                                                                                                                        refine lv_goto (tgt := 42) hx hb dX12_paint_80 (by decide) ?_
                                                                                                                                                                        refine lv_iload_n hx hb dX12_paint_42 rfl (lv_at hl 0 rfl) ?_
                                                                                                                                                                        refine lv_bipush (v := 40) hx hb dX12_paint_43 (by decide) ?_
                                                                                                                                                                        refine lv_icmp_ge (tgt := 83) hx hb dX12_paint_45 (by decide) (fun c1306 => ?_) (fun c1306 => ?_)
                                                                                                                                                                        · exact absurd c1306 (by decide)
                                                                                                                                                                        · refine lv_aload_n hx hb dX12_paint_48 rfl (lv_at hl 1 rfl) ?_
                                                                                                                                                                          refine va_get (D := D) (ci := 12) (v := .ref h11) (C := RX12) (T := TX12) (N := 24) hx hb hts hin12 hown hK hP 3 rfl rfl 18 (by decide) (hts (.fieldLink RX12 44 "MissedPointsModel" "items" "[I") (by decide +kernel)) (fun _ h9 => h9) rfl dX12_paint_49 ?_
                                                                                                                                                                          refine lv_bipush (v := 40) hx hb dX12_paint_52 (by decide) ?_
                                                                                                                                                                          refine lv_iload_n hx hb dX12_paint_54 rfl (lv_at hl 2 rfl) ?_
                                                                                                                                                                          refine lv_imul hx hb dX12_paint_55 ?_
                                                                                                                                                                          refine lz_top (y := 120) (by decide) ?_
                                                                                                                                                                          refine lv_iload_n hx hb dX12_paint_56 rfl (lv_at hl 0 rfl) ?_
                                                                                                                                                                          refine lv_iadd hx hb dX12_paint_57 ?_
                                                                                                                                                                          refine lz_top (y := 157) (by decide) ?_
                                                                                                                                                                          refine lv_iload_n hx hb dX12_paint_58 rfl (lv_at hl 0 rfl) ?_
                                                                                                                                                                          refine lv_aload_n hx hb dX12_paint_59 rfl (lv_at hl 1 rfl) ?_
                                                                                                                                                                          refine va_get (D := D) (ci := 12) (v := .int 0) (C := RX12) (T := TX12) (N := 24) hx hb hts hin12 hown hK hP 3 rfl rfl 0 (by decide) (hts (.fieldLink RX12 63 "MissedPointsModel" "many" "I") (by decide +kernel)) (fun _ h9 => h9) rfl dX12_paint_60 ?_
                                                                                                                                                                          refine lv_icmp_ge (tgt := 75) hx hb dX12_paint_63 (by decide) (fun c1307 => ?_) (fun c1307 => ?_)
                                                                                                                                                                          · refine lv_iconst (v := 0) hx hb dX12_paint_75 (by decide) ?_
                                                                                                                                                                            refine lz_astc hx hb hK hP hD hS 2 0 rfl rfl (lz_vp (x := 157) (n := 160) (by decide) (by decide)) dX12_paint_76 (fun H locs hP hD hS => ?_)
                                                                                                                                                                            refine lv_iinc (v := 38) (lv' := [(3, .int 38), (0, .ref h0), (1, .int 3), (2, .int x1)]) hx hb dX12_paint_77 hl (k := 0) rfl (by decide) (by decide) rfl (fun ls hl => ?_)
                                                                                                                                                                            refine lv_goto (tgt := 42) hx hb dX12_paint_80 (by decide) ?_
                                                                                                                                                                            refine lv_iload_n hx hb dX12_paint_42 rfl (lv_at hl 0 rfl) ?_
                                                                                                                                                                            refine lv_bipush (v := 40) hx hb dX12_paint_43 (by decide) ?_
                                                                                                                                                                            refine lv_icmp_ge (tgt := 83) hx hb dX12_paint_45 (by decide) (fun c1308 => ?_) (fun c1308 => ?_)
                                                                                                                                                                            · exact absurd c1308 (by decide)
                                                                                                                                                                            · refine lv_aload_n hx hb dX12_paint_48 rfl (lv_at hl 1 rfl) ?_
                                                                                                                                                                              refine va_get (D := D) (ci := 12) (v := .ref h11) (C := RX12) (T := TX12) (N := 24) hx hb hts hin12 hown hK hP 3 rfl rfl 18 (by decide) (hts (.fieldLink RX12 44 "MissedPointsModel" "items" "[I") (by decide +kernel)) (fun _ h9 => h9) rfl dX12_paint_49 ?_
                                                                                                                                                                              refine lv_bipush (v := 40) hx hb dX12_paint_52 (by decide) ?_
                                                                                                                                                                              refine lv_iload_n hx hb dX12_paint_54 rfl (lv_at hl 2 rfl) ?_
                                                                                                                                                                              refine lv_imul hx hb dX12_paint_55 ?_
                                                                                                                                                                              refine lz_top (y := 120) (by decide) ?_
                                                                                                                                                                              refine lv_iload_n hx hb dX12_paint_56 rfl (lv_at hl 0 rfl) ?_
                                                                                                                                                                              refine lv_iadd hx hb dX12_paint_57 ?_
                                                                                                                                                                              refine lz_top (y := 158) (by decide) ?_
                                                                                                                                                                              refine lv_iload_n hx hb dX12_paint_58 rfl (lv_at hl 0 rfl) ?_
                                                                                                                                                                              refine lv_aload_n hx hb dX12_paint_59 rfl (lv_at hl 1 rfl) ?_
                                                                                                                                                                              refine va_get (D := D) (ci := 12) (v := .int 0) (C := RX12) (T := TX12) (N := 24) hx hb hts hin12 hown hK hP 3 rfl rfl 0 (by decide) (hts (.fieldLink RX12 63 "MissedPointsModel" "many" "I") (by decide +kernel)) (fun _ h9 => h9) rfl dX12_paint_60 ?_
                                                                                                                                                                              refine lv_icmp_ge (tgt := 75) hx hb dX12_paint_63 (by decide) (fun c1309 => ?_) (fun c1309 => ?_)
                                                                                                                                                                              · refine lv_iconst (v := 0) hx hb dX12_paint_75 (by decide) ?_
                                                                                                                                                                                refine lz_astc hx hb hK hP hD hS 2 0 rfl rfl (lz_vp (x := 158) (n := 160) (by decide) (by decide)) dX12_paint_76 (fun H locs hP hD hS => ?_)
                                                                                                                                                                                refine lv_iinc (v := 39) (lv' := [(3, .int 39), (0, .ref h0), (1, .int 3), (2, .int x1)]) hx hb dX12_paint_77 hl (k := 0) rfl (by decide) (by decide) rfl (fun ls hl => ?_)
                                                                                                                                                                                refine lv_goto (tgt := 42) hx hb dX12_paint_80 (by decide) ?_
                                                                                                                                                                                refine lv_iload_n hx hb dX12_paint_42 rfl (lv_at hl 0 rfl) ?_
                                                                                                                                                                                refine lv_bipush (v := 40) hx hb dX12_paint_43 (by decide) ?_
                                                                                                                                                                                refine lv_icmp_ge (tgt := 83) hx hb dX12_paint_45 (by decide) (fun c1310 => ?_) (fun c1310 => ?_)
                                                                                                                                                                                · exact absurd c1310 (by decide)
                                                                                                                                                                                · refine lv_aload_n hx hb dX12_paint_48 rfl (lv_at hl 1 rfl) ?_
                                                                                                                                                                                  refine va_get (D := D) (ci := 12) (v := .ref h11) (C := RX12) (T := TX12) (N := 24) hx hb hts hin12 hown hK hP 3 rfl rfl 18 (by decide) (hts (.fieldLink RX12 44 "MissedPointsModel" "items" "[I") (by decide +kernel)) (fun _ h9 => h9) rfl dX12_paint_49 ?_
                                                                                                                                                                                  refine lv_bipush (v := 40) hx hb dX12_paint_52 (by decide) ?_
                                                                                                                                                                                  refine lv_iload_n hx hb dX12_paint_54 rfl (lv_at hl 2 rfl) ?_
                                                                                                                                                                                  refine lv_imul hx hb dX12_paint_55 ?_
                                                                                                                                                                                  refine lz_top (y := 120) (by decide) ?_
                                                                                                                                                                                  refine lv_iload_n hx hb dX12_paint_56 rfl (lv_at hl 0 rfl) ?_
                                                                                                                                                                                  refine lv_iadd hx hb dX12_paint_57 ?_
                                                                                                                                                                                  refine lz_top (y := 159) (by decide) ?_
                                                                                                                                                                                  refine lv_iload_n hx hb dX12_paint_58 rfl (lv_at hl 0 rfl) ?_
                                                                                                                                                                                  refine lv_aload_n hx hb dX12_paint_59 rfl (lv_at hl 1 rfl) ?_
                                                                                                                                                                                  refine va_get (D := D) (ci := 12) (v := .int 0) (C := RX12) (T := TX12) (N := 24) hx hb hts hin12 hown hK hP 3 rfl rfl 0 (by decide) (hts (.fieldLink RX12 63 "MissedPointsModel" "many" "I") (by decide +kernel)) (fun _ h9 => h9) rfl dX12_paint_60 ?_
                                                                                                                                                                                  refine lv_icmp_ge (tgt := 75) hx hb dX12_paint_63 (by decide) (fun c1311 => ?_) (fun c1311 => ?_)
                                                                                                                                                                                  · refine lv_iconst (v := 0) hx hb dX12_paint_75 (by decide) ?_
                                                                                                                                                                                    refine lz_astc hx hb hK hP hD hS 2 0 rfl rfl (lz_vp (x := 159) (n := 160) (by decide) (by decide)) dX12_paint_76 (fun H locs hP hD hS => ?_)
                                                                                                                                                                                    refine lv_iinc (v := 40) (lv' := [(3, .int 40), (0, .ref h0), (1, .int 3), (2, .int x1)]) hx hb dX12_paint_77 hl (k := 0) rfl (by decide) (by decide) rfl (fun ls hl => ?_)
                                                                                                                                                                                    refine lv_goto (tgt := 42) hx hb dX12_paint_80 (by decide) ?_
                                                                                                                                                                                    refine lv_iload_n hx hb dX12_paint_42 rfl (lv_at hl 0 rfl) ?_
                                                                                                                                                                                    refine lv_bipush (v := 40) hx hb dX12_paint_43 (by decide) ?_
                                                                                                                                                                                    refine lv_icmp_ge (tgt := 83) hx hb dX12_paint_45 (by decide) (fun c1312 => ?_) (fun c1312 => ?_)
                                                                                                                                                                                    · refine lv_aload_n hx hb dX12_paint_83 rfl (lv_at hl 1 rfl) ?_
                                                                                                                                                                                      refine va_get (D := D) (ci := 12) (v := .int 0) (C := RX12) (T := TX12) (N := 24) hx hb hts hin12 hown hK hP 3 rfl rfl 0 (by decide) (hts (.fieldLink RX12 63 "MissedPointsModel" "many" "I") (by decide +kernel)) (fun _ h9 => h9) rfl dX12_paint_84 ?_
                                                                                                                                                                                      have hP9 := hP.sub (ws' := []) [] rfl
                                                                                                                                                                                      have hD9 := hD.sub (ws' := []) [] (by decide) rfl
                                                                                                                                                                                      subst hAe
                                                                                                                                                                                      exact W.iret (v := 0) hx hb hr (fun t ht hW => ⟨⟨_, (), rfl, by rw [if_neg k974, if_neg k976, if_neg k980, if_neg k982], by rw [ht]; exact hP9, hD9⟩, hS.F ht⟩) hS.2.2 dX12_paint_87
                                                                                                                                                                                    · exact absurd c1312 (by decide)
                                                                                                                                                                                  · exact absurd c1311 (by decide)
                                                                                                                                                                              · exact absurd c1309 (by decide)
                                                                                                                                                                          · exact absurd c1307 (by decide)
                                                                                                                                                                      · exact absurd c1305 (by decide)
                                                                                                                                                                  · exact absurd c1303 (by decide)
                                                                                                                                                              · exact absurd c1301 (by decide)
                                                                                                                                                          · exact absurd c1299 (by decide)
                                                                                                                                                      · exact absurd c1297 (by decide)
                                                                                                                                                  · exact absurd c1295 (by decide)
                                                                                                                                              · exact absurd c1293 (by decide)
                                                                                                                                          · exact absurd c1291 (by decide)
                                                                                                                                      · exact absurd c1289 (by decide)
                                                                                                                                  · exact absurd c1287 (by decide)
                                                                                                                              · exact absurd c1285 (by decide)
                                                                                                                          · exact absurd c1283 (by decide)
                                                                                                                      · exact absurd c1281 (by decide)
                                                                                                                  · exact absurd c1279 (by decide)
                                                                                                              · exact absurd c1277 (by decide)
                                                                                                          · exact absurd c1275 (by decide)
                                                                                                      · exact absurd c1273 (by decide)
                                                                                                  · exact absurd c1271 (by decide)
                                                                                              · exact absurd c1269 (by decide)
                                                                                          · exact absurd c1267 (by decide)
                                                                                      · exact absurd c1265 (by decide)
                                                                                  · exact absurd c1263 (by decide)
                                                                              · exact absurd c1261 (by decide)
                                                                          · exact absurd c1259 (by decide)
                                                                      · exact absurd c1257 (by decide)
                                                                  · exact absurd c1255 (by decide)
                                                              · exact absurd c1253 (by decide)
                                                          · exact absurd c1251 (by decide)
                                                      · exact absurd c1249 (by decide)
                                                  · exact absurd c1247 (by decide)
                                              · exact absurd c1245 (by decide)
                                          · exact absurd c1243 (by decide)
                                      · exact absurd c1241 (by decide)
                                  · exact absurd c1239 (by decide)
                              · exact absurd c1237 (by decide)
                          · exact absurd c1235 (by decide)
                      · exact absurd c1233 (by decide)
            · exact absurd c984 (by decide)
