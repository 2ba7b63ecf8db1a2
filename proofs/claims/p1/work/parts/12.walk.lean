set_option maxRecDepth 20000 in
theorem ggX12_paint_X12_in : GoodIn wsX12_paint wsX12_in := goodIn_r _ [12] (by decide +kernel) (by decide +kernel)
set_option maxRecDepth 20000 in
theorem gX12_paint_X12_in : GoodIn wsX12_paint (va_wsS RX12 66 yX12_in wsX12_in) := goodIn_app (goodIn_of _ (by decide +kernel)) ggX12_paint_X12_in
set_option maxRecDepth 20000 in
theorem ggX12_paint_X12_isSheet : GoodIn wsX12_paint wsX12_isSheet := goodIn_r _ [9, 10, 11, 8, 12] (by decide +kernel) (by decide +kernel)
set_option maxRecDepth 20000 in
theorem gX12_paint_X12_isSheet : GoodIn wsX12_paint (va_wsS RX12 157 yX12_isSheet wsX12_isSheet) := goodIn_app (goodIn_of _ (by decide +kernel)) ggX12_paint_X12_isSheet
set_option maxRecDepth 20000 in
theorem ggX12_paint_X12_laysMates : GoodIn wsX12_paint wsX12_laysMates := goodIn_r _ [16, 5, 17, 18, 19, 8, 20, 21, 22, 3, 23, 24, 25, 26, 27, 28, 29, 30, 31, 32, 33, 34, 35, 36, 37, 38, 39, 40, 41, 42, 43, 44, 45, 46, 47, 48, 49, 50, 51, 52, 53, 54, 55, 56, 57, 58, 59, 60, 61] (by decide +kernel) (by decide +kernel)
set_option maxRecDepth 20000 in
theorem gX12_paint_X12_laysMates : GoodIn wsX12_paint (wsV RX12 116 RX12 yX12_laysMates wsX12_laysMates) := goodIn_app (goodIn_of _ (by decide +kernel)) ggX12_paint_X12_laysMates
theorem dX12_paint_0 : decode cX12_paint 0 = .ok (.iload_n 1, 1) := by decide +kernel
theorem dX12_paint_1 : decode cX12_paint 1 = .ok (.invokestatic 157, 3) := by decide +kernel
theorem dX12_paint_10 : decode cX12_paint 10 = .ok (.invokestatic 66, 3) := by decide +kernel
theorem dX12_paint_13 : decode cX12_paint 13 = .ok (.ifCond .ne 6, 3) := by decide +kernel
theorem dX12_paint_16 : decode cX12_paint 16 = .ok (.bipush (-2), 2) := by decide +kernel
theorem dX12_paint_18 : decode cX12_paint 18 = .ok (.ireturn, 1) := by decide +kernel
theorem dX12_paint_19 : decode cX12_paint 19 = .ok (.aload_n 0, 1) := by decide +kernel
theorem dX12_paint_20 : decode cX12_paint 20 = .ok (.invokevirtual 116, 3) := by decide +kernel
theorem dX12_paint_23 : decode cX12_paint 23 = .ok (.aload_n 0, 1) := by decide +kernel
theorem dX12_paint_24 : decode cX12_paint 24 = .ok (.getfield 38, 3) := by decide +kernel
theorem dX12_paint_27 : decode cX12_paint 27 = .ok (.iload_n 1, 1) := by decide +kernel
theorem dX12_paint_28 : decode cX12_paint 28 = .ok (.iload_n 2, 1) := by decide +kernel
theorem dX12_paint_29 : decode cX12_paint 29 = .ok (.iastore, 1) := by decide +kernel
theorem dX12_paint_30 : decode cX12_paint 30 = .ok (.aload_n 0, 1) := by decide +kernel
theorem dX12_paint_31 : decode cX12_paint 31 = .ok (.getfield 41, 3) := by decide +kernel
theorem dX12_paint_34 : decode cX12_paint 34 = .ok (.iload_n 1, 1) := by decide +kernel
theorem dX12_paint_35 : decode cX12_paint 35 = .ok (.aload_n 0, 1) := by decide +kernel
theorem dX12_paint_36 : decode cX12_paint 36 = .ok (.getfield 63, 3) := by decide +kernel
theorem dX12_paint_39 : decode cX12_paint 39 = .ok (.iastore, 1) := by decide +kernel
theorem dX12_paint_4 : decode cX12_paint 4 = .ok (.ifCond .eq 12, 3) := by decide +kernel
theorem dX12_paint_40 : decode cX12_paint 40 = .ok (.iconst 0, 1) := by decide +kernel
theorem dX12_paint_41 : decode cX12_paint 41 = .ok (.istore_n 3, 1) := by decide +kernel
theorem dX12_paint_42 : decode cX12_paint 42 = .ok (.iload_n 3, 1) := by decide +kernel
theorem dX12_paint_43 : decode cX12_paint 43 = .ok (.bipush 40, 2) := by decide +kernel
theorem dX12_paint_45 : decode cX12_paint 45 = .ok (.if_icmp .ge 38, 3) := by decide +kernel
theorem dX12_paint_48 : decode cX12_paint 48 = .ok (.aload_n 0, 1) := by decide +kernel
theorem dX12_paint_49 : decode cX12_paint 49 = .ok (.getfield 44, 3) := by decide +kernel
theorem dX12_paint_52 : decode cX12_paint 52 = .ok (.bipush 40, 2) := by decide +kernel
theorem dX12_paint_54 : decode cX12_paint 54 = .ok (.iload_n 1, 1) := by decide +kernel
theorem dX12_paint_55 : decode cX12_paint 55 = .ok (.imul, 1) := by decide +kernel
theorem dX12_paint_56 : decode cX12_paint 56 = .ok (.iload_n 3, 1) := by decide +kernel
theorem dX12_paint_57 : decode cX12_paint 57 = .ok (.iadd, 1) := by decide +kernel
theorem dX12_paint_58 : decode cX12_paint 58 = .ok (.iload_n 3, 1) := by decide +kernel
theorem dX12_paint_59 : decode cX12_paint 59 = .ok (.aload_n 0, 1) := by decide +kernel
theorem dX12_paint_60 : decode cX12_paint 60 = .ok (.getfield 63, 3) := by decide +kernel
theorem dX12_paint_63 : decode cX12_paint 63 = .ok (.if_icmp .ge 12, 3) := by decide +kernel
theorem dX12_paint_7 : decode cX12_paint 7 = .ok (.iload_n 2, 1) := by decide +kernel
theorem dX12_paint_75 : decode cX12_paint 75 = .ok (.iconst 0, 1) := by decide +kernel
theorem dX12_paint_76 : decode cX12_paint 76 = .ok (.iastore, 1) := by decide +kernel
theorem dX12_paint_77 : decode cX12_paint 77 = .ok (.iinc 3 1, 3) := by decide +kernel
theorem dX12_paint_8 : decode cX12_paint 8 = .ok (.iconst 0, 1) := by decide +kernel
theorem dX12_paint_80 : decode cX12_paint 80 = .ok (.goto (-38), 3) := by decide +kernel
theorem dX12_paint_83 : decode cX12_paint 83 = .ok (.aload_n 0, 1) := by decide +kernel
theorem dX12_paint_84 : decode cX12_paint 84 = .ok (.getfield 63, 3) := by decide +kernel
theorem dX12_paint_87 : decode cX12_paint 87 = .ok (.ireturn, 1) := by decide +kernel
theorem dX12_paint_9 : decode cX12_paint 9 = .ok (.iconst 1, 1) := by decide +kernel
set_option maxHeartbeats 4000000 in
set_option maxRecDepth 100000 in
theorem c_X12_paint_0 (l : Launch) (D : va_G) (cI cS : ClassId) (sz : Nat) (h0 h1 h2 h3 h4 h5 h6 h7 h8 h9 h10 h11 h12 h13 h14 h15 : Nat) (x0 x1 : Int32) : Met l yX12_paint wsX12_paint ({ frames := 3, cells := 0, slots := 0, locals := 120 }) (PQ D cI cS [(h0, .inr (12, [.int 0, .int 1, .ref h1, .ref h2, .ref h3, .ref h4, .ref h5, .ref h6, .ref h7, .ref h8, .int 0, .int 0, .int 0, .int 0, .int 0, .int 0, .ref h9, .ref h10, .ref h11, .ref h12, .ref h13, .ref h14, .ref h15, .int 0])), (h3, .inl (cI, 4096, .inl (fun _ => 0))), (h9, .inl (cI, 4, .inl (fun _ => -1))), (h10, .inl (cI, 4, .inl (fun _ => 0))), (h11, .inl (cI, 160, .inl (fun _ => 0)))] sz [.ref h0, .int x0, .int x1]) (QI D [(h0, .inr (12, [.int 0, .int 1, .ref h1, .ref h2, .ref h3, .ref h4, .ref h5, .ref h6, .ref h7, .ref h8, .int 0, .int 0, .int 0, .int 0, .int 0, .int 0, .ref h9, .ref h10, .ref h11, .ref h12, .ref h13, .ref h14, .ref h15, .int 0])), (h3, .inl (cI, 4096, .inl (fun _ => 0))), (h9, .inl (cI, 4, .inl (fun _ => -1))), (h10, .inl (cI, 4, .inl (fun _ => 0))), (h11, .inl (cI, 160, .inl (fun _ => 0)))] [] sz (fun r => r = if x0 < 0 then ((-2) : Int32) else (if (3 : Int32) < x0 then ((-2) : Int32) else (if x1 < 0 then ((-2) : Int32) else (if (1 : Int32) < x1 then ((-2) : Int32) else (0 : Int32)))))) 0 0 (va_A [(h0, .inr (12, [.int 0, .int 1, .ref h1, .ref h2, .ref h3, .ref h4, .ref h5, .ref h6, .ref h7, .ref h8, .int 0, .int 0, .int 0, .int 0, .int 0, .int 0, .ref h9, .ref h10, .ref h11, .ref h12, .ref h13, .ref h14, .ref h15, .int 0])), (h3, .inl (cI, 4096, .inl (fun _ => 0))), (h9, .inl (cI, 4, .inl (fun _ => -1))), (h10, .inl (cI, 4, .inl (fun _ => 0))), (h11, .inl (cI, 160, .inl (fun _ => 0)))] sz) := by
  refine Met.ofW (cc := cX12_paint) (maxL := 4) (ret := (some .int)) (by decide) rfl ?_
  intro p e s m args below meth c s₁ B hml hv
  obtain ⟨rfl, hsz, hP, hKK, hD0⟩ := hv
  have hx := B.exec
  have hb := B.bytes
  have hr := B.returns
  have hts := atoms_spec (ws := wsX12_paint) B.pre
  have hown : s.vm.findClass RX12 = some m.cls := findClass_of_methodNamed B.named
  have hlocks := B.notSynchronized
  have hK := hKK.1
  have hN := hKK.2
  have hin12 : ∀ w ∈ wsX120, w ∈ wsX12_paint := by decide +kernel
  subst hsz
  have hD := hD0.self (sz := s.heap.size)
  obtain ⟨A, hAe⟩ : ∃ A, A = va_A [(h0, .inr (12, [.int 0, .int 1, .ref h1, .ref h2, .ref h3, .ref h4, .ref h5, .ref h6, .ref h7, .ref h8, .int 0, .int 0, .int 0, .int 0, .int 0, .int 0, .ref h9, .ref h10, .ref h11, .ref h12, .ref h13, .ref h14, .ref h15, .int 0])), (h3, .inl (cI, 4096, .inl (fun _ => 0))), (h9, .inl (cI, 4, .inl (fun _ => -1))), (h10, .inl (cI, 4, .inl (fun _ => 0))), (h11, .inl (cI, 160, .inl (fun _ => 0)))] s.heap.size := ⟨_, rfl⟩
  rw [← hAe] at hD
  have hA : ∀ q : Nat, s.heap.size ≤ q → A q := fun q h => by rw [hAe]; exact Or.inr h
  have hS : va_S A s.heap s.heap [] := va_S.rf
  have hl := lv_entry ([.ref h0, .int x0, .int x1]) (n := 4) (Nat.le_of_ble_eq_true rfl)
  rw [lg_entry_eq]
  generalize (lg_sl ([.ref h0, .int x0, .int x1]) ++ List.replicate (4 - (lg_sl ([.ref h0, .int x0, .int x1])).length) Slot.unset).toArray = ls at hl ⊢
  have hl : lv_has ls 4 [(0, .ref h0), (1, .int x0), (2, .int x1)] := hl
  refine lv_iload_n hx hb dX12_paint_0 rfl (lv_at hl 1 rfl) ?_
  have hPc := hP.sub (ws' := []) [] rfl
  refine lz_ss (As := [.int x0]) (rest := []) ⟨hx, hb, hml, hown, hts⟩ (c_X12_isSheet_0 l D cI cS x0) hKK hPc (va_cwS 1 hts gX12_paint_X12_isSheet rfl rfl rfl (by decide +kernel) ⟨Nat.le_of_ble_eq_true rfl, Nat.le_of_ble_eq_true rfl⟩) rfl hl.1 rfl (Nat.le_of_ble_eq_true rfl) dX12_paint_1 ⟨Nat.le_of_ble_eq_true rfl, Nat.le_of_ble_eq_true rfl⟩ (fun r314 hw => ?_)
  by_cases k315 : x0 < 0
  · rw [if_pos k315] at hw
    subst hw
    refine lv_if_eq (tgt := 16) hx hb dX12_paint_4 (by decide) (fun c316 => ?_) (fun c316 => ?_)
    · refine lv_bipush (v := (-2)) hx hb dX12_paint_16 (by decide) ?_
      have hP9 := hP.sub (ws' := []) [] rfl
      have hD9 := hD.sub (ws' := []) [] (by decide) rfl
      subst hAe
      exact W.iret (v := (-2)) hx hb hr (fun t ht hW => ⟨⟨_, (), rfl, by rw [if_pos k315], by rw [ht]; exact hP9, hD9⟩, hS.F ht⟩) hS.2.2 dX12_paint_18
    · exact absurd c316 (by decide)
  · rw [if_neg k315] at hw
    by_cases k317 : (3 : Int32) < x0
    · rw [if_pos k317] at hw
      subst hw
      refine lv_if_eq (tgt := 16) hx hb dX12_paint_4 (by decide) (fun c318 => ?_) (fun c318 => ?_)
      · refine lv_bipush (v := (-2)) hx hb dX12_paint_16 (by decide) ?_
        have hP9 := hP.sub (ws' := []) [] rfl
        have hD9 := hD.sub (ws' := []) [] (by decide) rfl
        subst hAe
        exact W.iret (v := (-2)) hx hb hr (fun t ht hW => ⟨⟨_, (), rfl, by rw [if_neg k315, if_pos k317], by rw [ht]; exact hP9, hD9⟩, hS.F ht⟩) hS.2.2 dX12_paint_18
      · exact absurd c318 (by decide)
    · rw [if_neg k317] at hw
      subst hw
      refine lv_if_eq (tgt := 16) hx hb dX12_paint_4 (by decide) (fun c319 => ?_) (fun c319 => ?_)
      · exact absurd c319 (by decide)
      · refine lv_iload_n hx hb dX12_paint_7 rfl (lv_at hl 2 rfl) ?_
        refine lv_iconst (v := 0) hx hb dX12_paint_8 (by decide) ?_
        refine lv_iconst (v := 1) hx hb dX12_paint_9 (by decide) ?_
        have hPc := hP.sub (ws' := []) [] rfl
        refine lz_ss (As := [.int x1, .int 0, .int 1]) (rest := []) ⟨hx, hb, hml, hown, hts⟩ (c_X12_in_4 l D cI cS x1) hKK hPc (va_cwS 3 hts gX12_paint_X12_in rfl rfl rfl (by decide +kernel) ⟨Nat.le_of_ble_eq_true rfl, Nat.le_of_ble_eq_true rfl⟩) rfl hl.1 rfl (Nat.le_of_ble_eq_true rfl) dX12_paint_10 ⟨Nat.le_of_ble_eq_true rfl, Nat.le_of_ble_eq_true rfl⟩ (fun r320 hw => ?_)
        by_cases k321 : x1 < 0
        · rw [if_pos k321] at hw
          subst hw
          refine lv_if_ne (tgt := 19) hx hb dX12_paint_13 (by decide) (fun c322 => ?_) (fun c322 => ?_)
          · exact absurd c322 (by decide)
          · refine lv_bipush (v := (-2)) hx hb dX12_paint_16 (by decide) ?_
            have hP9 := hP.sub (ws' := []) [] rfl
            have hD9 := hD.sub (ws' := []) [] (by decide) rfl
            subst hAe
            exact W.iret (v := (-2)) hx hb hr (fun t ht hW => ⟨⟨_, (), rfl, by rw [if_neg k315, if_neg k317, if_pos k321], by rw [ht]; exact hP9, hD9⟩, hS.F ht⟩) hS.2.2 dX12_paint_18
        · rw [if_neg k321] at hw
          by_cases k323 : (1 : Int32) < x1
          · rw [if_pos k323] at hw
            subst hw
            refine lv_if_ne (tgt := 19) hx hb dX12_paint_13 (by decide) (fun c324 => ?_) (fun c324 => ?_)
            · exact absurd c324 (by decide)
            · refine lv_bipush (v := (-2)) hx hb dX12_paint_16 (by decide) ?_
              have hP9 := hP.sub (ws' := []) [] rfl
              have hD9 := hD.sub (ws' := []) [] (by decide) rfl
              subst hAe
              exact W.iret (v := (-2)) hx hb hr (fun t ht hW => ⟨⟨_, (), rfl, by rw [if_neg k315, if_neg k317, if_neg k321, if_pos k323], by rw [ht]; exact hP9, hD9⟩, hS.F ht⟩) hS.2.2 dX12_paint_18
          · rw [if_neg k323] at hw
            subst hw
            refine lv_if_ne (tgt := 19) hx hb dX12_paint_13 (by decide) (fun c325 => ?_) (fun c325 => ?_)
            · refine lv_aload_n hx hb dX12_paint_19 rfl (lv_at hl 0 rfl) ?_
              have hPc := hP.sub (ws' := [(h0, .inr (12, [.int 0, .int 1, .ref h1, .ref h2, .ref h3, .ref h4, .ref h5, .ref h6, .ref h7, .ref h8, .int 0, .int 0, .int 0, .int 0, .int 0, .int 0, .ref h9, .ref h10, .ref h11, .ref h12, .ref h13, .ref h14, .ref h15, .int 0])), (h3, .inl (cI, 4096, .inl (fun _ => 0)))]) [0, 3] rfl
              have hDc := hD.sub (ws' := [(h0, .inr (12, [.int 0, .int 1, .ref h1, .ref h2, .ref h3, .ref h4, .ref h5, .ref h6, .ref h7, .ref h8, .int 0, .int 0, .int 0, .int 0, .int 0, .int 0, .ref h9, .ref h10, .ref h11, .ref h12, .ref h13, .ref h14, .ref h15, .int 0])), (h3, .inl (cI, 4096, .inl (fun _ => 0)))]) [0, 3] (by decide) rfl
              refine lz_qv (wr := [(h1, .inl (cI, 12, .inl (fun _ => 0))), (h2, .inl (cI, 4096, .inl (fun _ => 0))), (h4, .inl (cI, 28672, .inl (fun _ => 0))), (h5, .inl (cI, 12, .inl (fun _ => 0))), (h6, .inl (cI, 12, .inl (fun _ => 0))), (h7, .inl (cI, 12, .inl (fun _ => 0))), (h8, .inl (cI, 120, .inl (fun _ => 0))), (h9, .inl (cI, 4, .inl (fun _ => -1))), (h10, .inl (cI, 4, .inl (fun _ => 0))), (h11, .inl (cI, 160, .inl (fun _ => 0))), (h12, .inl (cI, 4, .inl (fun _ => -1))), (h13, .inl (cI, 4, .inl (fun _ => 0))), (h14, .inl (cI, 4, .inl (fun _ => 0))), (h15, .inl (cI, 28, .inl (fun _ => 0)))]) (w1 := [(h0, .inr (12, [.int 0, .int 1, .ref h1, .ref h2, .ref h3, .ref h4, .ref h5, .ref h6, .ref h7, .ref h8, .int 0, .int 0, .int 0, .int 0, .int 0, .int 0, .ref h9, .ref h10, .ref h11, .ref h12, .ref h13, .ref h14, .ref h15, .int 0])), (h3, .inl (cI, 4096, .inl (upd (fun _ => 0) 0 1)))]) (As := []) (rest := []) ⟨hx, hb, hml, hown, hts⟩ (c_X12_laysMates_0 l D cI cS H.size h0 h1 h2 h3 h4 h5 h6 h7 h8 h9 h10 h11 h12 h13 h14 h15) hKK hP hD hS hA [0, 3] [1, 2, 4, 5, 6, 7, 8, 9, 10, 11, 12, 13, 14, 15] (by decide) rfl rfl (by decide) (by decide) hPc hDc (ci := 12) rfl rfl (cwV 0 hts gX12_paint_X12_laysMates rfl rfl rfl (by decide +kernel) ⟨Nat.le_of_ble_eq_true rfl, Nat.le_of_ble_eq_true rfl⟩) rfl hl.1 rfl (Nat.le_of_ble_eq_true rfl) dX12_paint_20 ⟨Nat.le_of_ble_eq_true rfl, Nat.le_of_ble_eq_true rfl⟩ (fun H locs hP hD hS => ?_)
              have hP : va_P D cls [(h1, .inl (cI, 12, .inl (fun _ => 0))), (h2, .inl (cI, 4096, .inl (fun _ => 0))), (h4, .inl (cI, 28672, .inl (fun _ => 0))), (h5, .inl (cI, 12, .inl (fun _ => 0))), (h6, .inl (cI, 12, .inl (fun _ => 0))), (h7, .inl (cI, 12, .inl (fun _ => 0))), (h8, .inl (cI, 120, .inl (fun _ => 0))), (h9, .inl (cI, 4, .inl (fun _ => -1))), (h10, .inl (cI, 4, .inl (fun _ => 0))), (h11, .inl (cI, 160, .inl (fun _ => 0))), (h12, .inl (cI, 4, .inl (fun _ => -1))), (h13, .inl (cI, 4, .inl (fun _ => 0))), (h14, .inl (cI, 4, .inl (fun _ => 0))), (h15, .inl (cI, 28, .inl (fun _ => 0))), (h0, .inr (12, [.int 0, .int 1, .ref h1, .ref h2, .ref h3, .ref h4, .ref h5, .ref h6, .ref h7, .ref h8, .int 0, .int 0, .int 0, .int 0, .int 0, .int 0, .ref h9, .ref h10, .ref h11, .ref h12, .ref h13, .ref h14, .ref h15, .int 0])), (h3, .inl (cI, 4096, .inl (upd (fun _ => 0) 0 1)))] H := hP
              have hD : va_D A [(h1, .inl (cI, 12, .inl (fun _ => 0))), (h2, .inl (cI, 4096, .inl (fun _ => 0))), (h4, .inl (cI, 28672, .inl (fun _ => 0))), (h5, .inl (cI, 12, .inl (fun _ => 0))), (h6, .inl (cI, 12, .inl (fun _ => 0))), (h7, .inl (cI, 12, .inl (fun _ => 0))), (h8, .inl (cI, 120, .inl (fun _ => 0))), (h9, .inl (cI, 4, .inl (fun _ => -1))), (h10, .inl (cI, 4, .inl (fun _ => 0))), (h11, .inl (cI, 160, .inl (fun _ => 0))), (h12, .inl (cI, 4, .inl (fun _ => -1))), (h13, .inl (cI, 4, .inl (fun _ => 0))), (h14, .inl (cI, 4, .inl (fun _ => 0))), (h15, .inl (cI, 28, .inl (fun _ => 0))), (h0, .inr (12, [.int 0, .int 1, .ref h1, .ref h2, .ref h3, .ref h4, .ref h5, .ref h6, .ref h7, .ref h8, .int 0, .int 0, .int 0, .int 0, .int 0, .int 0, .ref h9, .ref h10, .ref h11, .ref h12, .ref h13, .ref h14, .ref h15, .int 0])), (h3, .inl (cI, 4096, .inl (upd (fun _ => 0) 0 1)))] := hD
              refine lv_aload_n hx hb dX12_paint_23 rfl (lv_at hl 0 rfl) ?_
              refine va_get (D := D) (ci := 12) (v := .ref h9) (C := RX12) (T := TX12) (N := 24) hx hb hts hin12 hown hK hP 14 rfl rfl 16 (by decide) (hts (.fieldLink RX12 38 "MissedPointsModel" "sort" "[I") (by decide +kernel)) (fun _ h9 => h9) rfl dX12_paint_24 ?_
              refine lv_iload_n hx hb dX12_paint_27 rfl (lv_at hl 1 rfl) ?_
              refine lv_iload_n hx hb dX12_paint_28 rfl (lv_at hl 2 rfl) ?_
              by_cases k330 : x0 = 0
              · subst k330
                refine va_iast hx hb hK hP hD hS 7 0 rfl rfl (lz_vp (x := 0) (n := 4) (by decide) (by decide)) dX12_paint_29 (fun H locs hP hD hS => ?_)
                have hP : va_P D cls [(h1, .inl (cI, 12, .inl (fun _ => 0))), (h2, .inl (cI, 4096, .inl (fun _ => 0))), (h4, .inl (cI, 28672, .inl (fun _ => 0))), (h5, .inl (cI, 12, .inl (fun _ => 0))), (h6, .inl (cI, 12, .inl (fun _ => 0))), (h7, .inl (cI, 12, .inl (fun _ => 0))), (h8, .inl (cI, 120, .inl (fun _ => 0))), (h9, .inl (cI, 4, .inl (upd (fun _ => -1) 0 x1))), (h10, .inl (cI, 4, .inl (fun _ => 0))), (h11, .inl (cI, 160, .inl (fun _ => 0))), (h12, .inl (cI, 4, .inl (fun _ => -1))), (h13, .inl (cI, 4, .inl (fun _ => 0))), (h14, .inl (cI, 4, .inl (fun _ => 0))), (h15, .inl (cI, 28, .inl (fun _ => 0))), (h0, .inr (12, [.int 0, .int 1, .ref h1, .ref h2, .ref h3, .ref h4, .ref h5, .ref h6, .ref h7, .ref h8, .int 0, .int 0, .int 0, .int 0, .int 0, .int 0, .ref h9, .ref h10, .ref h11, .ref h12, .ref h13, .ref h14, .ref h15, .int 0])), (h3, .inl (cI, 4096, .inl (upd (fun _ => 0) 0 1)))] H := hP
                have hD : va_D A [(h1, .inl (cI, 12, .inl (fun _ => 0))), (h2, .inl (cI, 4096, .inl (fun _ => 0))), (h4, .inl (cI, 28672, .inl (fun _ => 0))), (h5, .inl (cI, 12, .inl (fun _ => 0))), (h6, .inl (cI, 12, .inl (fun _ => 0))), (h7, .inl (cI, 12, .inl (fun _ => 0))), (h8, .inl (cI, 120, .inl (fun _ => 0))), (h9, .inl (cI, 4, .inl (upd (fun _ => -1) 0 x1))), (h10, .inl (cI, 4, .inl (fun _ => 0))), (h11, .inl (cI, 160, .inl (fun _ => 0))), (h12, .inl (cI, 4, .inl (fun _ => -1))), (h13, .inl (cI, 4, .inl (fun _ => 0))), (h14, .inl (cI, 4, .inl (fun _ => 0))), (h15, .inl (cI, 28, .inl (fun _ => 0))), (h0, .inr (12, [.int 0, .int 1, .ref h1, .ref h2, .ref h3, .ref h4, .ref h5, .ref h6, .ref h7, .ref h8, .int 0, .int 0, .int 0, .int 0, .int 0, .int 0, .ref h9, .ref h10, .ref h11, .ref h12, .ref h13, .ref h14, .ref h15, .int 0])), (h3, .inl (cI, 4096, .inl (upd (fun _ => 0) 0 1)))] := hD
                refine lv_aload_n hx hb dX12_paint_30 rfl (lv_at hl 0 rfl) ?_
                refine va_get (D := D) (ci := 12) (v := .ref h10) (C := RX12) (T := TX12) (N := 24) hx hb hts hin12 hown hK hP 14 rfl rfl 17 (by decide) (hts (.fieldLink RX12 41 "MissedPointsModel" "size" "[I") (by decide +kernel)) (fun _ h9 => h9) rfl dX12_paint_31 ?_
                refine lv_iload_n hx hb dX12_paint_34 rfl (lv_at hl 1 rfl) ?_
                refine lv_aload_n hx hb dX12_paint_35 rfl (lv_at hl 0 rfl) ?_
                refine va_get (D := D) (ci := 12) (v := .int 0) (C := RX12) (T := TX12) (N := 24) hx hb hts hin12 hown hK hP 14 rfl rfl 0 (by decide) (hts (.fieldLink RX12 63 "MissedPointsModel" "many" "I") (by decide +kernel)) (fun _ h9 => h9) rfl dX12_paint_36 ?_
                refine lz_astc hx hb hK hP hD hS 8 0 rfl rfl (lz_vp (x := 0) (n := 4) (by decide) (by decide)) dX12_paint_39 (fun H locs hP hD hS => ?_)
                refine lv_iconst (v := 0) hx hb dX12_paint_40 (by decide) ?_
                refine lv_istore_n (lv' := [(3, .int 0), (0, .ref h0), (1, .int 0), (2, .int x1)]) hx hb dX12_paint_41 rfl hl (by decide) rfl (fun ls hl => ?_)
                refine lv_iload_n hx hb dX12_paint_42 rfl (lv_at hl 0 rfl) ?_
                refine lv_bipush (v := 40) hx hb dX12_paint_43 (by decide) ?_
                refine lv_icmp_ge (tgt := 83) hx hb dX12_paint_45 (by decide) (fun c331 => ?_) (fun c331 => ?_)
                · exact absurd c331 (by decide)
                · refine lv_aload_n hx hb dX12_paint_48 rfl (lv_at hl 1 rfl) ?_
                  refine va_get (D := D) (ci := 12) (v := .ref h11) (C := RX12) (T := TX12) (N := 24) hx hb hts hin12 hown hK hP 14 rfl rfl 18 (by decide) (hts (.fieldLink RX12 44 "MissedPointsModel" "items" "[I") (by decide +kernel)) (fun _ h9 => h9) rfl dX12_paint_49 ?_
                  refine lv_bipush (v := 40) hx hb dX12_paint_52 (by decide) ?_
                  refine lv_iload_n hx hb dX12_paint_54 rfl (lv_at hl 2 rfl) ?_
                  refine lv_imul hx hb dX12_paint_55 ?_
                  refine lz_top (y := 0) (by decide) ?_
                  refine lv_iload_n hx hb dX12_paint_56 rfl (lv_at hl 0 rfl) ?_
                  refine lv_iadd hx hb dX12_paint_57 ?_
                  refine lz_top (y := 0) (by decide) ?_
                  refine lv_iload_n hx hb dX12_paint_58 rfl (lv_at hl 0 rfl) ?_
                  refine lv_aload_n hx hb dX12_paint_59 rfl (lv_at hl 1 rfl) ?_
                  refine va_get (D := D) (ci := 12) (v := .int 0) (C := RX12) (T := TX12) (N := 24) hx hb hts hin12 hown hK hP 14 rfl rfl 0 (by decide) (hts (.fieldLink RX12 63 "MissedPointsModel" "many" "I") (by decide +kernel)) (fun _ h9 => h9) rfl dX12_paint_60 ?_
                  refine lv_icmp_ge (tgt := 75) hx hb dX12_paint_63 (by decide) (fun c332 => ?_) (fun c332 => ?_)
                  · refine lv_iconst (v := 0) hx hb dX12_paint_75 (by decide) ?_
                    refine lz_astc hx hb hK hP hD hS 9 0 rfl rfl (lz_vp (x := 0) (n := 160) (by decide) (by decide)) dX12_paint_76 (fun H locs hP hD hS => ?_)
                    refine lv_iinc (v := 1) (lv' := [(3, .int 1), (0, .ref h0), (1, .int 0), (2, .int x1)]) hx hb dX12_paint_77 hl (k := 0) rfl (by decide) (by decide) rfl (fun ls hl => ?_)
                    refine lv_goto (tgt := 42) hx hb dX12_paint_80 (by decide) ?_
                    refine lv_iload_n hx hb dX12_paint_42 rfl (lv_at hl 0 rfl) ?_
                    refine lv_bipush (v := 40) hx hb dX12_paint_43 (by decide) ?_
                    refine lv_icmp_ge (tgt := 83) hx hb dX12_paint_45 (by decide) (fun c333 => ?_) (fun c333 => ?_)
                    · exact absurd c333 (by decide)
                    · refine lv_aload_n hx hb dX12_paint_48 rfl (lv_at hl 1 rfl) ?_
                      refine va_get (D := D) (ci := 12) (v := .ref h11) (C := RX12) (T := TX12) (N := 24) hx hb hts hin12 hown hK hP 14 rfl rfl 18 (by decide) (hts (.fieldLink RX12 44 "MissedPointsModel" "items" "[I") (by decide +kernel)) (fun _ h9 => h9) rfl dX12_paint_49 ?_
                      refine lv_bipush (v := 40) hx hb dX12_paint_52 (by decide) ?_
                      refine lv_iload_n hx hb dX12_paint_54 rfl (lv_at hl 2 rfl) ?_
                      refine lv_imul hx hb dX12_paint_55 ?_
                      refine lz_top (y := 0) (by decide) ?_
                      refine lv_iload_n hx hb dX12_paint_56 rfl (lv_at hl 0 rfl) ?_
                      refine lv_iadd hx hb dX12_paint_57 ?_
                      refine lz_top (y := 1) (by decide) ?_
                      refine lv_iload_n hx hb dX12_paint_58 rfl (lv_at hl 0 rfl) ?_
                      refine lv_aload_n hx hb dX12_paint_59 rfl (lv_at hl 1 rfl) ?_
                      refine va_get (D := D) (ci := 12) (v := .int 0) (C := RX12) (T := TX12) (N := 24) hx hb hts hin12 hown hK hP 14 rfl rfl 0 (by decide) (hts (.fieldLink RX12 63 "MissedPointsModel" "many" "I") (by decide +kernel)) (fun _ h9 => h9) rfl dX12_paint_60 ?_
                      refine lv_icmp_ge (tgt := 75) hx hb dX12_paint_63 (by decide) (fun c334 => ?_) (fun c334 => ?_)
                      · refine lv_iconst (v := 0) hx hb dX12_paint_75 (by decide) ?_
                        refine lz_astc hx hb hK hP hD hS 9 0 rfl rfl (lz_vp (x := 1) (n := 160) (by decide) (by decide)) dX12_paint_76 (fun H locs hP hD hS => ?_)
                        refine lv_iinc (v := 2) (lv' := [(3, .int 2), (0, .ref h0), (1, .int 0), (2, .int x1)]) hx hb dX12_paint_77 hl (k := 0) rfl (by decide) (by decide) rfl (fun ls hl => ?_)
                        refine lv_goto (tgt := 42) hx hb dX12_paint_80 (by decide) ?_
                        refine lv_iload_n hx hb dX12_paint_42 rfl (lv_at hl 0 rfl) ?_
                        refine lv_bipush (v := 40) hx hb dX12_paint_43 (by decide) ?_
                        refine lv_icmp_ge (tgt := 83) hx hb dX12_paint_45 (by decide) (fun c335 => ?_) (fun c335 => ?_)
                        · exact absurd c335 (by decide)
                        · refine lv_aload_n hx hb dX12_paint_48 rfl (lv_at hl 1 rfl) ?_
                          refine va_get (D := D) (ci := 12) (v := .ref h11) (C := RX12) (T := TX12) (N := 24) hx hb hts hin12 hown hK hP 14 rfl rfl 18 (by decide) (hts (.fieldLink RX12 44 "MissedPointsModel" "items" "[I") (by decide +kernel)) (fun _ h9 => h9) rfl dX12_paint_49 ?_
                          refine lv_bipush (v := 40) hx hb dX12_paint_52 (by decide) ?_
                          refine lv_iload_n hx hb dX12_paint_54 rfl (lv_at hl 2 rfl) ?_
                          refine lv_imul hx hb dX12_paint_55 ?_
                          refine lz_top (y := 0) (by decide) ?_
                          refine lv_iload_n hx hb dX12_paint_56 rfl (lv_at hl 0 rfl) ?_
                          refine lv_iadd hx hb dX12_paint_57 ?_
                          refine lz_top (y := 2) (by decide) ?_
                          refine lv_iload_n hx hb dX12_paint_58 rfl (lv_at hl 0 rfl) ?_
                          refine lv_aload_n hx hb dX12_paint_59 rfl (lv_at hl 1 rfl) ?_
                          refine va_get (D := D) (ci := 12) (v := .int 0) (C := RX12) (T := TX12) (N := 24) hx hb hts hin12 hown hK hP 14 rfl rfl 0 (by decide) (hts (.fieldLink RX12 63 "MissedPointsModel" "many" "I") (by decide +kernel)) (fun _ h9 => h9) rfl dX12_paint_60 ?_
                          refine lv_icmp_ge (tgt := 75) hx hb dX12_paint_63 (by decide) (fun c336 => ?_) (fun c336 => ?_)
                          · refine lv_iconst (v := 0) hx hb dX12_paint_75 (by decide) ?_
                            refine lz_astc hx hb hK hP hD hS 9 0 rfl rfl (lz_vp (x := 2) (n := 160) (by decide) (by decide)) dX12_paint_76 (fun H locs hP hD hS => ?_)
                            refine lv_iinc (v := 3) (lv' := [(3, .int 3), (0, .ref h0), (1, .int 0), (2, .int x1)]) hx hb dX12_paint_77 hl (k := 0) rfl (by decide) (by decide) rfl (fun ls hl => ?_)
                            refine lv_goto (tgt := 42) hx hb dX12_paint_80 (by decide) ?_
                            refine lv_iload_n hx hb dX12_paint_42 rfl (lv_at hl 0 rfl) ?_
                            refine lv_bipush (v := 40) hx hb dX12_paint_43 (by decide) ?_
                            refine lv_icmp_ge (tgt := 83) hx hb dX12_paint_45 (by decide) (fun c337 => ?_) (fun c337 => ?_)
                            · exact absurd c337 (by decide)
                            · refine lv_aload_n hx hb dX12_paint_48 rfl (lv_at hl 1 rfl) ?_
                              refine va_get (D := D) (ci := 12) (v := .ref h11) (C := RX12) (T := TX12) (N := 24) hx hb hts hin12 hown hK hP 14 rfl rfl 18 (by decide) (hts (.fieldLink RX12 44 "MissedPointsModel" "items" "[I") (by decide +kernel)) (fun _ h9 => h9) rfl dX12_paint_49 ?_
                              refine lv_bipush (v := 40) hx hb dX12_paint_52 (by decide) ?_
                              refine lv_iload_n hx hb dX12_paint_54 rfl (lv_at hl 2 rfl) ?_
                              refine lv_imul hx hb dX12_paint_55 ?_
                              refine lz_top (y := 0) (by decide) ?_
                              refine lv_iload_n hx hb dX12_paint_56 rfl (lv_at hl 0 rfl) ?_
                              refine lv_iadd hx hb dX12_paint_57 ?_
                              refine lz_top (y := 3) (by decide) ?_
                              refine lv_iload_n hx hb dX12_paint_58 rfl (lv_at hl 0 rfl) ?_
                              refine lv_aload_n hx hb dX12_paint_59 rfl (lv_at hl 1 rfl) ?_
                              refine va_get (D := D) (ci := 12) (v := .int 0) (C := RX12) (T := TX12) (N := 24) hx hb hts hin12 hown hK hP 14 rfl rfl 0 (by decide) (hts (.fieldLink RX12 63 "MissedPointsModel" "many" "I") (by decide +kernel)) (fun _ h9 => h9) rfl dX12_paint_60 ?_
                              refine lv_icmp_ge (tgt := 75) hx hb dX12_paint_63 (by decide) (fun c338 => ?_) (fun c338 => ?_)
                              · refine lv_iconst (v := 0) hx hb dX12_paint_75 (by decide) ?_
                                refine lz_astc hx hb hK hP hD hS 9 0 rfl rfl (lz_vp (x := 3) (n := 160) (by decide) (by decide)) dX12_paint_76 (fun H locs hP hD hS => ?_)
                                refine lv_iinc (v := 4) (lv' := [(3, .int 4), (0, .ref h0), (1, .int 0), (2, .int x1)]) hx hb dX12_paint_77 hl (k := 0) rfl (by decide) (by decide) rfl (fun ls hl => ?_)
                                refine lv_goto (tgt := 42) hx hb dX12_paint_80 (by decide) ?_
                                refine lv_iload_n hx hb dX12_paint_42 rfl (lv_at hl 0 rfl) ?_
                                refine lv_bipush (v := 40) hx hb dX12_paint_43 (by decide) ?_
                                refine lv_icmp_ge (tgt := 83) hx hb dX12_paint_45 (by decide) (fun c339 => ?_) (fun c339 => ?_)
                                · exact absurd c339 (by decide)
                                · refine lv_aload_n hx hb dX12_paint_48 rfl (lv_at hl 1 rfl) ?_
                                  refine va_get (D := D) (ci := 12) (v := .ref h11) (C := RX12) (T := TX12) (N := 24) hx hb hts hin12 hown hK hP 14 rfl rfl 18 (by decide) (hts (.fieldLink RX12 44 "MissedPointsModel" "items" "[I") (by decide +kernel)) (fun _ h9 => h9) rfl dX12_paint_49 ?_
                                  refine lv_bipush (v := 40) hx hb dX12_paint_52 (by decide) ?_
                                  refine lv_iload_n hx hb dX12_paint_54 rfl (lv_at hl 2 rfl) ?_
                                  refine lv_imul hx hb dX12_paint_55 ?_
                                  refine lz_top (y := 0) (by decide) ?_
                                  refine lv_iload_n hx hb dX12_paint_56 rfl (lv_at hl 0 rfl) ?_
                                  refine lv_iadd hx hb dX12_paint_57 ?_
                                  refine lz_top (y := 4) (by decide) ?_
                                  refine lv_iload_n hx hb dX12_paint_58 rfl (lv_at hl 0 rfl) ?_
                                  refine lv_aload_n hx hb dX12_paint_59 rfl (lv_at hl 1 rfl) ?_
                                  refine va_get (D := D) (ci := 12) (v := .int 0) (C := RX12) (T := TX12) (N := 24) hx hb hts hin12 hown hK hP 14 rfl rfl 0 (by decide) (hts (.fieldLink RX12 63 "MissedPointsModel" "many" "I") (by decide +kernel)) (fun _ h9 => h9) rfl dX12_paint_60 ?_
                                  refine lv_icmp_ge (tgt := 75) hx hb dX12_paint_63 (by decide) (fun c340 => ?_) (fun c340 => ?_)
                                  · refine lv_iconst (v := 0) hx hb dX12_paint_75 (by decide) ?_
                                    refine lz_astc hx hb hK hP hD hS 9 0 rfl rfl (lz_vp (x := 4) (n := 160) (by decide) (by decide)) dX12_paint_76 (fun H locs hP hD hS => ?_)
                                    refine lv_iinc (v := 5) (lv' := [(3, .int 5), (0, .ref h0), (1, .int 0), (2, .int x1)]) hx hb dX12_paint_77 hl (k := 0) rfl (by decide) (by decide) rfl (fun ls hl => ?_)
                                    refine lv_goto (tgt := 42) hx hb dX12_paint_80 (by decide) ?_
                                    refine lv_iload_n hx hb dX12_paint_42 rfl (lv_at hl 0 rfl) ?_
                                    refine lv_bipush (v := 40) hx hb dX12_paint_43 (by decide) ?_
                                    refine lv_icmp_ge (tgt := 83) hx hb dX12_paint_45 (by decide) (fun c341 => ?_) (fun c341 => ?_)
                                    · exact absurd c341 (by decide)
                                    · refine lv_aload_n hx hb dX12_paint_48 rfl (lv_at hl 1 rfl) ?_
                                      refine va_get (D := D) (ci := 12) (v := .ref h11) (C := RX12) (T := TX12) (N := 24) hx hb hts hin12 hown hK hP 14 rfl rfl 18 (by decide) (hts (.fieldLink RX12 44 "MissedPointsModel" "items" "[I") (by decide +kernel)) (fun _ h9 => h9) rfl dX12_paint_49 ?_
                                      refine lv_bipush (v := 40) hx hb dX12_paint_52 (by decide) ?_
                                      refine lv_iload_n hx hb dX12_paint_54 rfl (lv_at hl 2 rfl) ?_
                                      refine lv_imul hx hb dX12_paint_55 ?_
                                      refine lz_top (y := 0) (by decide) ?_
                                      refine lv_iload_n hx hb dX12_paint_56 rfl (lv_at hl 0 rfl) ?_
                                      refine lv_iadd hx hb dX12_paint_57 ?_
                                      refine lz_top (y := 5) (by decide) ?_
                                      refine lv_iload_n hx hb dX12_paint_58 rfl (lv_at hl 0 rfl) ?_
                                      refine lv_aload_n hx hb dX12_paint_59 rfl (lv_at hl 1 rfl) ?_
                                      refine va_get (D := D) (ci := 12) (v := .int 0) (C := RX12) (T := TX12) (N := 24) hx hb hts hin12 hown hK hP 14 rfl rfl 0 (by decide) (hts (.fieldLink RX12 63 "MissedPointsModel" "many" "I") (by decide +kernel)) (fun _ h9 => h9) rfl dX12_paint_60 ?_
                                      refine lv_icmp_ge (tgt := 75) hx hb dX12_paint_63 (by decide) (fun c342 => ?_) (fun c342 => ?_)
                                      · refine lv_iconst (v := 0) hx hb dX12_paint_75 (by decide) ?_
                                        refine lz_astc hx hb hK hP hD hS 9 0 rfl rfl (lz_vp (x := 5) (n := 160) (by decide) (by decide)) dX12_paint_76 (fun H locs hP hD hS => ?_)
                                        refine lv_iinc (v := 6) (lv' := [(3, .int 6), (0, .ref h0), (1, .int 0), (2, .int x1)]) hx hb dX12_paint_77 hl (k := 0) rfl (by decide) (by decide) rfl (fun ls hl => ?_)
                                        refine lv_goto (tgt := 42) hx hb dX12_paint_80 (by decide) ?_
                                        refine lv_iload_n hx hb dX12_paint_42 rfl (lv_at hl 0 rfl) ?_
                                        refine lv_bipush (v := 40) hx hb dX12_paint_43 (by decide) ?_
                                        refine lv_icmp_ge (tgt := 83) hx hb dX12_paint_45 (by decide) (fun c343 => ?_) (fun c343 => ?_)
                                        · exact absurd c343 (by decide)
                                        · refine lv_aload_n hx hb dX12_paint_48 rfl (lv_at hl 1 rfl) ?_
                                          refine va_get (D := D) (ci := 12) (v := .ref h11) (C := RX12) (T := TX12) (N := 24) hx hb hts hin12 hown hK hP 14 rfl rfl 18 (by decide) (hts (.fieldLink RX12 44 "MissedPointsModel" "items" "[I") (by decide +kernel)) (fun _ h9 => h9) rfl dX12_paint_49 ?_
                                          refine lv_bipush (v := 40) hx hb dX12_paint_52 (by decide) ?_
                                          refine lv_iload_n hx hb dX12_paint_54 rfl (lv_at hl 2 rfl) ?_
                                          refine lv_imul hx hb dX12_paint_55 ?_
                                          refine lz_top (y := 0) (by decide) ?_
                                          refine lv_iload_n hx hb dX12_paint_56 rfl (lv_at hl 0 rfl) ?_
                                          refine lv_iadd hx hb dX12_paint_57 ?_
                                          refine lz_top (y := 6) (by decide) ?_
                                          refine lv_iload_n hx hb dX12_paint_58 rfl (lv_at hl 0 rfl) ?_
                                          refine lv_aload_n hx hb dX12_paint_59 rfl (lv_at hl 1 rfl) ?_
                                          refine va_get (D := D) (ci := 12) (v := .int 0) (C := RX12) (T := TX12) (N := 24) hx hb hts hin12 hown hK hP 14 rfl rfl 0 (by decide) (hts (.fieldLink RX12 63 "MissedPointsModel" "many" "I") (by decide +kernel)) (fun _ h9 => h9) rfl dX12_paint_60 ?_
                                          refine lv_icmp_ge (tgt := 75) hx hb dX12_paint_63 (by decide) (fun c344 => ?_) (fun c344 => ?_)
                                          · refine lv_iconst (v := 0) hx hb dX12_paint_75 (by decide) ?_
                                            refine lz_astc hx hb hK hP hD hS 9 0 rfl rfl (lz_vp (x := 6) (n := 160) (by decide) (by decide)) dX12_paint_76 (fun H locs hP hD hS => ?_)
                                            refine lv_iinc (v := 7) (lv' := [(3, .int 7), (0, .ref h0), (1, .int 0), (2, .int x1)]) hx hb dX12_paint_77 hl (k := 0) rfl (by decide) (by decide) rfl (fun ls hl => ?_)
                                            refine lv_goto (tgt := 42) hx hb dX12_paint_80 (by decide) ?_
                                            refine lv_iload_n hx hb dX12_paint_42 rfl (lv_at hl 0 rfl) ?_
                                            refine lv_bipush (v := 40) hx hb dX12_paint_43 (by decide) ?_
                                            refine lv_icmp_ge (tgt := 83) hx hb dX12_paint_45 (by decide) (fun c345 => ?_) (fun c345 => ?_)
                                            · exact absurd c345 (by decide)
                                            · refine lv_aload_n hx hb dX12_paint_48 rfl (lv_at hl 1 rfl) ?_
                                              refine va_get (D := D) (ci := 12) (v := .ref h11) (C := RX12) (T := TX12) (N := 24) hx hb hts hin12 hown hK hP 14 rfl rfl 18 (by decide) (hts (.fieldLink RX12 44 "MissedPointsModel" "items" "[I") (by decide +kernel)) (fun _ h9 => h9) rfl dX12_paint_49 ?_
                                              refine lv_bipush (v := 40) hx hb dX12_paint_52 (by decide) ?_
                                              refine lv_iload_n hx hb dX12_paint_54 rfl (lv_at hl 2 rfl) ?_
                                              refine lv_imul hx hb dX12_paint_55 ?_
                                              refine lz_top (y := 0) (by decide) ?_
                                              refine lv_iload_n hx hb dX12_paint_56 rfl (lv_at hl 0 rfl) ?_
                                              refine lv_iadd hx hb dX12_paint_57 ?_
                                              refine lz_top (y := 7) (by decide) ?_
                                              refine lv_iload_n hx hb dX12_paint_58 rfl (lv_at hl 0 rfl) ?_
                                              refine lv_aload_n hx hb dX12_paint_59 rfl (lv_at hl 1 rfl) ?_
                                              refine va_get (D := D) (ci := 12) (v := .int 0) (C := RX12) (T := TX12) (N := 24) hx hb hts hin12 hown hK hP 14 rfl rfl 0 (by decide) (hts (.fieldLink RX12 63 "MissedPointsModel" "many" "I") (by decide +kernel)) (fun _ h9 => h9) rfl dX12_paint_60 ?_
                                              refine lv_icmp_ge (tgt := 75) hx hb dX12_paint_63 (by decide) (fun c346 => ?_) (fun c346 => ?_)
                                              · refine lv_iconst (v := 0) hx hb dX12_paint_75 (by decide) ?_
                                                refine lz_astc hx hb hK hP hD hS 9 0 rfl rfl (lz_vp (x := 7) (n := 160) (by decide) (by decide)) dX12_paint_76 (fun H locs hP hD hS => ?_)
                                                refine lv_iinc (v := 8) (lv' := [(3, .int 8), (0, .ref h0), (1, .int 0), (2, .int x1)]) hx hb dX12_paint_77 hl (k := 0) rfl (by decide) (by decide) rfl (fun ls hl => ?_)
                                                refine lv_goto (tgt := 42) hx hb dX12_paint_80 (by decide) ?_
                                                refine lv_iload_n hx hb dX12_paint_42 rfl (lv_at hl 0 rfl) ?_
                                                refine lv_bipush (v := 40) hx hb dX12_paint_43 (by decide) ?_
                                                refine lv_icmp_ge (tgt := 83) hx hb dX12_paint_45 (by decide) (fun c347 => ?_) (fun c347 => ?_)
                                                · exact absurd c347 (by decide)
                                                · refine lv_aload_n hx hb dX12_paint_48 rfl (lv_at hl 1 rfl) ?_
                                                  refine va_get (D := D) (ci := 12) (v := .ref h11) (C := RX12) (T := TX12) (N := 24) hx hb hts hin12 hown hK hP 14 rfl rfl 18 (by decide) (hts (.fieldLink RX12 44 "MissedPointsModel" "items" "[I") (by decide +kernel)) (fun _ h9 => h9) rfl dX12_paint_49 ?_
                                                  refine lv_bipush (v := 40) hx hb dX12_paint_52 (by decide) ?_
                                                  refine lv_iload_n hx hb dX12_paint_54 rfl (lv_at hl 2 rfl) ?_
                                                  refine lv_imul hx hb dX12_paint_55 ?_
                                                  refine lz_top (y := 0) (by decide) ?_
                                                  refine lv_iload_n hx hb dX12_paint_56 rfl (lv_at hl 0 rfl) ?_
                                                  refine lv_iadd hx hb dX12_paint_57 ?_
                                                  refine lz_top (y := 8) (by decide) ?_
                                                  refine lv_iload_n hx hb dX12_paint_58 rfl (lv_at hl 0 rfl) ?_
                                                  refine lv_aload_n hx hb dX12_paint_59 rfl (lv_at hl 1 rfl) ?_
                                                  refine va_get (D := D) (ci := 12) (v := .int 0) (C := RX12) (T := TX12) (N := 24) hx hb hts hin12 hown hK hP 14 rfl rfl 0 (by decide) (hts (.fieldLink RX12 63 "MissedPointsModel" "many" "I") (by decide +kernel)) (fun _ h9 => h9) rfl dX12_paint_60 ?_
                                                  refine lv_icmp_ge (tgt := 75) hx hb dX12_paint_63 (by decide) (fun c348 => ?_) (fun c348 => ?_)
                                                  · refine lv_iconst (v := 0) hx hb dX12_paint_75 (by decide) ?_
                                                    refine lz_astc hx hb hK hP hD hS 9 0 rfl rfl (lz_vp (x := 8) (n := 160) (by decide) (by decide)) dX12_paint_76 (fun H locs hP hD hS => ?_)
                                                    refine lv_iinc (v := 9) (lv' := [(3, .int 9), (0, .ref h0), (1, .int 0), (2, .int x1)]) hx hb dX12_paint_77 hl (k := 0) rfl (by decide) (by decide) rfl (fun ls hl => ?_)
                                                    refine lv_goto (tgt := 42) hx hb dX12_paint_80 (by decide) ?_
                                                    refine lv_iload_n hx hb dX12_paint_42 rfl (lv_at hl 0 rfl) ?_
                                                    refine lv_bipush (v := 40) hx hb dX12_paint_43 (by decide) ?_
                                                    refine lv_icmp_ge (tgt := 83) hx hb dX12_paint_45 (by decide) (fun c349 => ?_) (fun c349 => ?_)
                                                    · exact absurd c349 (by decide)
                                                    · refine lv_aload_n hx hb dX12_paint_48 rfl (lv_at hl 1 rfl) ?_
                                                      refine va_get (D := D) (ci := 12) (v := .ref h11) (C := RX12) (T := TX12) (N := 24) hx hb hts hin12 hown hK hP 14 rfl rfl 18 (by decide) (hts (.fieldLink RX12 44 "MissedPointsModel" "items" "[I") (by decide +kernel)) (fun _ h9 => h9) rfl dX12_paint_49 ?_
                                                      refine lv_bipush (v := 40) hx hb dX12_paint_52 (by decide) ?_
                                                      refine lv_iload_n hx hb dX12_paint_54 rfl (lv_at hl 2 rfl) ?_
                                                      refine lv_imul hx hb dX12_paint_55 ?_
                                                      refine lz_top (y := 0) (by decide) ?_
                                                      refine lv_iload_n hx hb dX12_paint_56 rfl (lv_at hl 0 rfl) ?_
                                                      refine lv_iadd hx hb dX12_paint_57 ?_
                                                      refine lz_top (y := 9) (by decide) ?_
                                                      refine lv_iload_n hx hb dX12_paint_58 rfl (lv_at hl 0 rfl) ?_
                                                      refine lv_aload_n hx hb dX12_paint_59 rfl (lv_at hl 1 rfl) ?_
                                                      refine va_get (D := D) (ci := 12) (v := .int 0) (C := RX12) (T := TX12) (N := 24) hx hb hts hin12 hown hK hP 14 rfl rfl 0 (by decide) (hts (.fieldLink RX12 63 "MissedPointsModel" "many" "I") (by decide +kernel)) (fun _ h9 => h9) rfl dX12_paint_60 ?_
                                                      refine lv_icmp_ge (tgt := 75) hx hb dX12_paint_63 (by decide) (fun c350 => ?_) (fun c350 => ?_)
                                                      · refine lv_iconst (v := 0) hx hb dX12_paint_75 (by decide) ?_
                                                        refine lz_astc hx hb hK hP hD hS 9 0 rfl rfl (lz_vp (x := 9) (n := 160) (by decide) (by decide)) dX12_paint_76 (fun H locs hP hD hS => ?_)
                                                        refine lv_iinc (v := 10) (lv' := [(3, .int 10), (0, .ref h0), (1, .int 0), (2, .int x1)]) hx hb dX12_paint_77 hl (k := 0) rfl (by decide) (by decide) rfl (fun ls hl => ?_)
                                                        refine lv_goto (tgt := 42) hx hb dX12_paint_80 (by decide) ?_
                                                        refine lv_iload_n hx hb dX12_paint_42 rfl (lv_at hl 0 rfl) ?_
                                                        refine lv_bipush (v := 40) hx hb dX12_paint_43 (by decide) ?_
                                                        refine lv_icmp_ge (tgt := 83) hx hb dX12_paint_45 (by decide) (fun c351 => ?_) (fun c351 => ?_)
                                                        · exact absurd c351 (by decide)
                                                        · refine lv_aload_n hx hb dX12_paint_48 rfl (lv_at hl 1 rfl) ?_
                                                          refine va_get (D := D) (ci := 12) (v := .ref h11) (C := RX12) (T := TX12) (N := 24) hx hb hts hin12 hown hK hP 14 rfl rfl 18 (by decide) (hts (.fieldLink RX12 44 "MissedPointsModel" "items" "[I") (by decide +kernel)) (fun _ h9 => h9) rfl dX12_paint_49 ?_
                                                          refine lv_bipush (v := 40) hx hb dX12_paint_52 (by decide) ?_
                                                          refine lv_iload_n hx hb dX12_paint_54 rfl (lv_at hl 2 rfl) ?_
                                                          refine lv_imul hx hb dX12_paint_55 ?_
                                                          refine lz_top (y := 0) (by decide) ?_
                                                          refine lv_iload_n hx hb dX12_paint_56 rfl (lv_at hl 0 rfl) ?_
                                                          refine lv_iadd hx hb dX12_paint_57 ?_
                                                          refine lz_top (y := 10) (by decide) ?_
                                                          refine lv_iload_n hx hb dX12_paint_58 rfl (lv_at hl 0 rfl) ?_
                                                          refine lv_aload_n hx hb dX12_paint_59 rfl (lv_at hl 1 rfl) ?_
                                                          refine va_get (D := D) (ci := 12) (v := .int 0) (C := RX12) (T := TX12) (N := 24) hx hb hts hin12 hown hK hP 14 rfl rfl 0 (by decide) (hts (.fieldLink RX12 63 "MissedPointsModel" "many" "I") (by decide +kernel)) (fun _ h9 => h9) rfl dX12_paint_60 ?_
                                                          refine lv_icmp_ge (tgt := 75) hx hb dX12_paint_63 (by decide) (fun c352 => ?_) (fun c352 => ?_)
                                                          · refine lv_iconst (v := 0) hx hb dX12_paint_75 (by decide) ?_
                                                            refine lz_astc hx hb hK hP hD hS 9 0 rfl rfl (lz_vp (x := 10) (n := 160) (by decide) (by decide)) dX12_paint_76 (fun H locs hP hD hS => ?_)
                                                            refine lv_iinc (v := 11) (lv' := [(3, .int 11), (0, .ref h0), (1, .int 0), (2, .int x1)]) hx hb dX12_paint_77 hl (k := 0) rfl (by decide) (by decide) rfl (fun ls hl => ?_)
                                                            refine lv_goto (tgt := 42) hx hb dX12_paint_80 (by decide) ?_
                                                            refine lv_iload_n hx hb dX12_paint_42 rfl (lv_at hl 0 rfl) ?_
                                                            refine lv_bipush (v := 40) hx hb dX12_paint_43 (by decide) ?_
                                                            refine lv_icmp_ge (tgt := 83) hx hb dX12_paint_45 (by decide) (fun c353 => ?_) (fun c353 => ?_)
                                                            · exact absurd c353 (by decide)
                                                            · refine lv_aload_n hx hb dX12_paint_48 rfl (lv_at hl 1 rfl) ?_
                                                              refine va_get (D := D) (ci := 12) (v := .ref h11) (C := RX12) (T := TX12) (N := 24) hx hb hts hin12 hown hK hP 14 rfl rfl 18 (by decide) (hts (.fieldLink RX12 44 "MissedPointsModel" "items" "[I") (by decide +kernel)) (fun _ h9 => h9) rfl dX12_paint_49 ?_
                                                              refine lv_bipush (v := 40) hx hb dX12_paint_52 (by decide) ?_
                                                              refine lv_iload_n hx hb dX12_paint_54 rfl (lv_at hl 2 rfl) ?_
                                                              refine lv_imul hx hb dX12_paint_55 ?_
                                                              refine lz_top (y := 0) (by decide) ?_
                                                              refine lv_iload_n hx hb dX12_paint_56 rfl (lv_at hl 0 rfl) ?_
                                                              refine lv_iadd hx hb dX12_paint_57 ?_
                                                              refine lz_top (y := 11) (by decide) ?_
                                                              refine lv_iload_n hx hb dX12_paint_58 rfl (lv_at hl 0 rfl) ?_
                                                              refine lv_aload_n hx hb dX12_paint_59 rfl (lv_at hl 1 rfl) ?_
                                                              refine va_get (D := D) (ci := 12) (v := .int 0) (C := RX12) (T := TX12) (N := 24) hx hb hts hin12 hown hK hP 14 rfl rfl 0 (by decide) (hts (.fieldLink RX12 63 "MissedPointsModel" "many" "I") (by decide +kernel)) (fun _ h9 => h9) rfl dX12_paint_60 ?_
                                                              refine lv_icmp_ge (tgt := 75) hx hb dX12_paint_63 (by decide) (fun c354 => ?_) (fun c354 => ?_)
                                                              · refine lv_iconst (v := 0) hx hb dX12_paint_75 (by decide) ?_
                                                                refine lz_astc hx hb hK hP hD hS 9 0 rfl rfl (lz_vp (x := 11) (n := 160) (by decide) (by decide)) dX12_paint_76 (fun H locs hP hD hS => ?_)
                                                                refine lv_iinc (v := 12) (lv' := [(3, .int 12), (0, .ref h0), (1, .int 0), (2, .int x1)]) hx hb dX12_paint_77 hl (k := 0) rfl (by decide) (by decide) rfl (fun ls hl => ?_)
                                                                refine lv_goto (tgt := 42) hx hb dX12_paint_80 (by decide) ?_
                                                                refine lv_iload_n hx hb dX12_paint_42 rfl (lv_at hl 0 rfl) ?_
                                                                refine lv_bipush (v := 40) hx hb dX12_paint_43 (by decide) ?_
                                                                refine lv_icmp_ge (tgt := 83) hx hb dX12_paint_45 (by decide) (fun c355 => ?_) (fun c355 => ?_)
                                                                · exact absurd c355 (by decide)
                                                                · refine lv_aload_n hx hb dX12_paint_48 rfl (lv_at hl 1 rfl) ?_
                                                                  refine va_get (D := D) (ci := 12) (v := .ref h11) (C := RX12) (T := TX12) (N := 24) hx hb hts hin12 hown hK hP 14 rfl rfl 18 (by decide) (hts (.fieldLink RX12 44 "MissedPointsModel" "items" "[I") (by decide +kernel)) (fun _ h9 => h9) rfl dX12_paint_49 ?_
                                                                  refine lv_bipush (v := 40) hx hb dX12_paint_52 (by decide) ?_
                                                                  refine lv_iload_n hx hb dX12_paint_54 rfl (lv_at hl 2 rfl) ?_
                                                                  refine lv_imul hx hb dX12_paint_55 ?_
                                                                  refine lz_top (y := 0) (by decide) ?_
                                                                  refine lv_iload_n hx hb dX12_paint_56 rfl (lv_at hl 0 rfl) ?_
                                                                  refine lv_iadd hx hb dX12_paint_57 ?_
                                                                  refine lz_top (y := 12) (by decide) ?_
                                                                  refine lv_iload_n hx hb dX12_paint_58 rfl (lv_at hl 0 rfl) ?_
                                                                  refine lv_aload_n hx hb dX12_paint_59 rfl (lv_at hl 1 rfl) ?_
                                                                  refine va_get (D := D) (ci := 12) (v := .int 0) (C := RX12) (T := TX12) (N := 24) hx hb hts hin12 hown hK hP 14 rfl rfl 0 (by decide) (hts (.fieldLink RX12 63 "MissedPointsModel" "many" "I") (by decide +kernel)) (fun _ h9 => h9) rfl dX12_paint_60 ?_
                                                                  refine lv_icmp_ge (tgt := 75) hx hb dX12_paint_63 (by decide) (fun c356 => ?_) (fun c356 => ?_)
                                                                  · refine lv_iconst (v := 0) hx hb dX12_paint_75 (by decide) ?_
                                                                    refine lz_astc hx hb hK hP hD hS 9 0 rfl rfl (lz_vp (x := 12) (n := 160) (by decide) (by decide)) dX12_paint_76 (fun H locs hP hD hS => ?_)
                                                                    refine lv_iinc (v := 13) (lv' := [(3, .int 13), (0, .ref h0), (1, .int 0), (2, .int x1)]) hx hb dX12_paint_77 hl (k := 0) rfl (by decide) (by decide) rfl (fun ls hl => ?_)
                                                                    refine lv_goto (tgt := 42) hx hb dX12_paint_80 (by decide) ?_
                                                                    refine lv_iload_n hx hb dX12_paint_42 rfl (lv_at hl 0 rfl) ?_
                                                                    refine lv_bipush (v := 40) hx hb dX12_paint_43 (by decide) ?_
                                                                    refine lv_icmp_ge (tgt := 83) hx hb dX12_paint_45 (by decide) (fun c357 => ?_) (fun c357 => ?_)
                                                                    · exact absurd c357 (by decide)
                                                                    · refine lv_aload_n hx hb dX12_paint_48 rfl (lv_at hl 1 rfl) ?_
                                                                      refine va_get (D := D) (ci := 12) (v := .ref h11) (C := RX12) (T := TX12) (N := 24) hx hb hts hin12 hown hK hP 14 rfl rfl 18 (by decide) (hts (.fieldLink RX12 44 "MissedPointsModel" "items" "[I") (by decide +kernel)) (fun _ h9 => h9) rfl dX12_paint_49 ?_
                                                                      refine lv_bipush (v := 40) hx hb dX12_paint_52 (by decide) ?_
                                                                      refine lv_iload_n hx hb dX12_paint_54 rfl (lv_at hl 2 rfl) ?_
                                                                      refine lv_imul hx hb dX12_paint_55 ?_
                                                                      refine lz_top (y := 0) (by decide) ?_
                                                                      refine lv_iload_n hx hb dX12_paint_56 rfl (lv_at hl 0 rfl) ?_
                                                                      refine lv_iadd hx hb dX12_paint_57 ?_
                                                                      refine lz_top (y := 13) (by decide) ?_
                                                                      refine lv_iload_n hx hb dX12_paint_58 rfl (lv_at hl 0 rfl) ?_
                                                                      refine lv_aload_n hx hb dX12_paint_59 rfl (lv_at hl 1 rfl) ?_
                                                                      refine va_get (D := D) (ci := 12) (v := .int 0) (C := RX12) (T := TX12) (N := 24) hx hb hts hin12 hown hK hP 14 rfl rfl 0 (by decide) (hts (.fieldLink RX12 63 "MissedPointsModel" "many" "I") (by decide +kernel)) (fun _ h9 => h9) rfl dX12_paint_60 ?_
                                                                      refine lv_icmp_ge (tgt := 75) hx hb dX12_paint_63 (by decide) (fun c358 => ?_) (fun c358 => ?_)
                                                                      · refine lv_iconst (v := 0) hx hb dX12_paint_75 (by decide) ?_
                                                                        refine lz_astc hx hb hK hP hD hS 9 0 rfl rfl (lz_vp (x := 13) (n := 160) (by decide) (by decide)) dX12_paint_76 (fun H locs hP hD hS => ?_)
                                                                        refine lv_iinc (v := 14) (lv' := [(3, .int 14), (0, .ref h0), (1, .int 0), (2, .int x1)]) hx hb dX12_paint_77 hl (k := 0) rfl (by decide) (by decide) rfl (fun ls hl => ?_)
                                                                        refine lv_goto (tgt := 42) hx hb dX12_paint_80 (by decide) ?_
                                                                        refine lv_iload_n hx hb dX12_paint_42 rfl (lv_at hl 0 rfl) ?_
                                                                        refine lv_bipush (v := 40) hx hb dX12_paint_43 (by decide) ?_
                                                                        refine lv_icmp_ge (tgt := 83) hx hb dX12_paint_45 (by decide) (fun c359 => ?_) (fun c359 => ?_)
                                                                        · exact absurd c359 (by decide)
                                                                        · refine lv_aload_n hx hb dX12_paint_48 rfl (lv_at hl 1 rfl) ?_
                                                                          refine va_get (D := D) (ci := 12) (v := .ref h11) (C := RX12) (T := TX12) (N := 24) hx hb hts hin12 hown hK hP 14 rfl rfl 18 (by decide) (hts (.fieldLink RX12 44 "MissedPointsModel" "items" "[I") (by decide +kernel)) (fun _ h9 => h9) rfl dX12_paint_49 ?_
                                                                          refine lv_bipush (v := 40) hx hb dX12_paint_52 (by decide) ?_
                                                                          refine lv_iload_n hx hb dX12_paint_54 rfl (lv_at hl 2 rfl) ?_
                                                                          refine lv_imul hx hb dX12_paint_55 ?_
                                                                          refine lz_top (y := 0) (by decide) ?_
                                                                          refine lv_iload_n hx hb dX12_paint_56 rfl (lv_at hl 0 rfl) ?_
                                                                          refine lv_iadd hx hb dX12_paint_57 ?_
                                                                          refine lz_top (y := 14) (by decide) ?_
                                                                          refine lv_iload_n hx hb dX12_paint_58 rfl (lv_at hl 0 rfl) ?_
                                                                          refine lv_aload_n hx hb dX12_paint_59 rfl (lv_at hl 1 rfl) ?_
                                                                          refine va_get (D := D) (ci := 12) (v := .int 0) (C := RX12) (T := TX12) (N := 24) hx hb hts hin12 hown hK hP 14 rfl rfl 0 (by decide) (hts (.fieldLink RX12 63 "MissedPointsModel" "many" "I") (by decide +kernel)) (fun _ h9 => h9) rfl dX12_paint_60 ?_
                                                                          refine lv_icmp_ge (tgt := 75) hx hb dX12_paint_63 (by decide) (fun c360 => ?_) (fun c360 => ?_)
                                                                          · refine lv_iconst (v := 0) hx hb dX12_paint_75 (by decide) ?_
                                                                            refine lz_astc hx hb hK hP hD hS 9 0 rfl rfl (lz_vp (x := 14) (n := 160) (by decide) (by decide)) dX12_paint_76 (fun H locs hP hD hS => ?_)
                                                                            refine lv_iinc (v := 15) (lv' := [(3, .int 15), (0, .ref h0), (1, .int 0), (2, .int x1)]) hx hb dX12_paint_77 hl (k := 0) rfl (by decide) (by decide) rfl (fun ls hl => ?_)
                                                                            refine lv_goto (tgt := 42) hx hb dX12_paint_80 (by decide) ?_
                                                                            refine lv_iload_n hx hb dX12_paint_42 rfl (lv_at hl 0 rfl) ?_
                                                                            refine lv_bipush (v := 40) hx hb dX12_paint_43 (by decide) ?_
                                                                            refine lv_icmp_ge (tgt := 83) hx hb dX12_paint_45 (by decide) (fun c361 => ?_) (fun c361 => ?_)
                                                                            · exact absurd c361 (by decide)
                                                                            · refine lv_aload_n hx hb dX12_paint_48 rfl (lv_at hl 1 rfl) ?_
                                                                              refine va_get (D := D) (ci := 12) (v := .ref h11) (C := RX12) (T := TX12) (N := 24) hx hb hts hin12 hown hK hP 14 rfl rfl 18 (by decide) (hts (.fieldLink RX12 44 "MissedPointsModel" "items" "[I") (by decide +kernel)) (fun _ h9 => h9) rfl dX12_paint_49 ?_
                                                                              refine lv_bipush (v := 40) hx hb dX12_paint_52 (by decide) ?_
                                                                              refine lv_iload_n hx hb dX12_paint_54 rfl (lv_at hl 2 rfl) ?_
                                                                              refine lv_imul hx hb dX12_paint_55 ?_
                                                                              refine lz_top (y := 0) (by decide) ?_
                                                                              refine lv_iload_n hx hb dX12_paint_56 rfl (lv_at hl 0 rfl) ?_
                                                                              refine lv_iadd hx hb dX12_paint_57 ?_
                                                                              refine lz_top (y := 15) (by decide) ?_
                                                                              refine lv_iload_n hx hb dX12_paint_58 rfl (lv_at hl 0 rfl) ?_
                                                                              refine lv_aload_n hx hb dX12_paint_59 rfl (lv_at hl 1 rfl) ?_
                                                                              refine va_get (D := D) (ci := 12) (v := .int 0) (C := RX12) (T := TX12) (N := 24) hx hb hts hin12 hown hK hP 14 rfl rfl 0 (by decide) (hts (.fieldLink RX12 63 "MissedPointsModel" "many" "I") (by decide +kernel)) (fun _ h9 => h9) rfl dX12_paint_60 ?_
                                                                              refine lv_icmp_ge (tgt := 75) hx hb dX12_paint_63 (by decide) (fun c362 => ?_) (fun c362 => ?_)
                                                                              · refine lv_iconst (v := 0) hx hb dX12_paint_75 (by decide) ?_
                                                                                refine lz_astc hx hb hK hP hD hS 9 0 rfl rfl (lz_vp (x := 15) (n := 160) (by decide) (by decide)) dX12_paint_76 (fun H locs hP hD hS => ?_)
                                                                                refine lv_iinc (v := 16) (lv' := [(3, .int 16), (0, .ref h0), (1, .int 0), (2, .int x1)]) hx hb dX12_paint_77 hl (k := 0) rfl (by decide) (by decide) rfl (fun ls hl => ?_)
                                                                                refine lv_goto (tgt := 42) hx hb dX12_paint_80 (by decide) ?_
                                                                                refine lv_iload_n hx hb dX12_paint_42 rfl (lv_at hl 0 rfl) ?_
                                                                                refine lv_bipush (v := 40) hx hb dX12_paint_43 (by decide) ?_
                                                                                refine lv_icmp_ge (tgt := 83) hx hb dX12_paint_45 (by decide) (fun c363 => ?_) (fun c363 => ?_)
                                                                                · exact absurd c363 (by decide)
                                                                                · refine lv_aload_n hx hb dX12_paint_48 rfl (lv_at hl 1 rfl) ?_
                                                                                  refine va_get (D := D) (ci := 12) (v := .ref h11) (C := RX12) (T := TX12) (N := 24) hx hb hts hin12 hown hK hP 14 rfl rfl 18 (by decide) (hts (.fieldLink RX12 44 "MissedPointsModel" "items" "[I") (by decide +kernel)) (fun _ h9 => h9) rfl dX12_paint_49 ?_
                                                                                  refine lv_bipush (v := 40) hx hb dX12_paint_52 (by decide) ?_
                                                                                  refine lv_iload_n hx hb dX12_paint_54 rfl (lv_at hl 2 rfl) ?_
                                                                                  refine lv_imul hx hb dX12_paint_55 ?_
                                                                                  refine lz_top (y := 0) (by decide) ?_
                                                                                  refine lv_iload_n hx hb dX12_paint_56 rfl (lv_at hl 0 rfl) ?_
                                                                                  refine lv_iadd hx hb dX12_paint_57 ?_
                                                                                  refine lz_top (y := 16) (by decide) ?_
                                                                                  refine lv_iload_n hx hb dX12_paint_58 rfl (lv_at hl 0 rfl) ?_
                                                                                  refine lv_aload_n hx hb dX12_paint_59 rfl (lv_at hl 1 rfl) ?_
                                                                                  refine va_get (D := D) (ci := 12) (v := .int 0) (C := RX12) (T := TX12) (N := 24) hx hb hts hin12 hown hK hP 14 rfl rfl 0 (by decide) (hts (.fieldLink RX12 63 "MissedPointsModel" "many" "I") (by decide +kernel)) (fun _ h9 => h9) rfl dX12_paint_60 ?_
                                                                                  refine lv_icmp_ge (tgt := 75) hx hb dX12_paint_63 (by decide) (fun c364 => ?_) (fun c364 => ?_)
                                                                                  · refine lv_iconst (v := 0) hx hb dX12_paint_75 (by decide) ?_
                                                                                    refine lz_astc hx hb hK hP hD hS 9 0 rfl rfl (lz_vp (x := 16) (n := 160) (by decide) (by decide)) dX12_paint_76 (fun H locs hP hD hS => ?_)
                                                                                    refine lv_iinc (v := 17) (lv' := [(3, .int 17), (0, .ref h0), (1, .int 0), (2, .int x1)]) hx hb dX12_paint_77 hl (k := 0) rfl (by decide) (by decide) rfl (fun ls hl => ?_)
                                                                                    refine lv_goto (tgt := 42) hx hb dX12_paint_80 (by decide) ?_
                                                                                    refine lv_iload_n hx hb dX12_paint_42 rfl (lv_at hl 0 rfl) ?_
                                                                                    refine lv_bipush (v := 40) hx hb dX12_paint_43 (by decide) ?_
                                                                                    refine lv_icmp_ge (tgt := 83) hx hb dX12_paint_45 (by decide) (fun c365 => ?_) (fun c365 => ?_)
                                                                                    · exact absurd c365 (by decide)
                                                                                    · refine lv_aload_n hx hb dX12_paint_48 rfl (lv_at hl 1 rfl) ?_
                                                                                      refine va_get (D := D) (ci := 12) (v := .ref h11) (C := RX12) (T := TX12) (N := 24) hx hb hts hin12 hown hK hP 14 rfl rfl 18 (by decide) (hts (.fieldLink RX12 44 "MissedPointsModel" "items" "[I") (by decide +kernel)) (fun _ h9 => h9) rfl dX12_paint_49 ?_
                                                                                      refine lv_bipush (v := 40) hx hb dX12_paint_52 (by decide) ?_
                                                                                      refine lv_iload_n hx hb dX12_paint_54 rfl (lv_at hl 2 rfl) ?_
                                                                                      refine lv_imul hx hb dX12_paint_55 ?_
                                                                                      refine lz_top (y := 0) (by decide) ?_
                                                                                      refine lv_iload_n hx hb dX12_paint_56 rfl (lv_at hl 0 rfl) ?_
                                                                                      refine lv_iadd hx hb dX12_paint_57 ?_
                                                                                      refine lz_top (y := 17) (by decide) ?_
                                                                                      refine lv_iload_n hx hb dX12_paint_58 rfl (lv_at hl 0 rfl) ?_
                                                                                      refine lv_aload_n hx hb dX12_paint_59 rfl (lv_at hl 1 rfl) ?_
                                                                                      refine va_get (D := D) (ci := 12) (v := .int 0) (C := RX12) (T := TX12) (N := 24) hx hb hts hin12 hown hK hP 14 rfl rfl 0 (by decide) (hts (.fieldLink RX12 63 "MissedPointsModel" "many" "I") (by decide +kernel)) (fun _ h9 => h9) rfl dX12_paint_60 ?_
                                                                                      refine lv_icmp_ge (tgt := 75) hx hb dX12_paint_63 (by decide) (fun c366 => ?_) (fun c366 => ?_)
                                                                                      · refine lv_iconst (v := 0) hx hb dX12_paint_75 (by decide) ?_
                                                                                        refine lz_astc hx hb hK hP hD hS 9 0 rfl rfl (lz_vp (x := 17) (n := 160) (by decide) (by decide)) dX12_paint_76 (fun H locs hP hD hS => ?_)
                                                                                        refine lv_iinc (v := 18) (lv' := [(3, .int 18), (0, .ref h0), (1, .int 0), (2, .int x1)]) hx hb dX12_paint_77 hl (k := 0) rfl (by decide) (by decide) rfl (fun ls hl => ?_)
                                                                                        refine lv_goto (tgt := 42) hx hb dX12_paint_80 (by decide) ?_
                                                                                        refine lv_iload_n hx hb dX12_paint_42 rfl (lv_at hl 0 rfl) ?_
                                                                                        refine lv_bipush (v := 40) hx hb dX12_paint_43 (by decide) ?_
                                                                                        refine lv_icmp_ge (tgt := 83) hx hb dX12_paint_45 (by decide) (fun c367 => ?_) (fun c367 => ?_)
                                                                                        · exact absurd c367 (by decide)
                                                                                        · refine lv_aload_n hx hb dX12_paint_48 rfl (lv_at hl 1 rfl) ?_
                                                                                          refine va_get (D := D) (ci := 12) (v := .ref h11) (C := RX12) (T := TX12) (N := 24) hx hb hts hin12 hown hK hP 14 rfl rfl 18 (by decide) (hts (.fieldLink RX12 44 "MissedPointsModel" "items" "[I") (by decide +kernel)) (fun _ h9 => h9) rfl dX12_paint_49 ?_
                                                                                          refine lv_bipush (v := 40) hx hb dX12_paint_52 (by decide) ?_
                                                                                          refine lv_iload_n hx hb dX12_paint_54 rfl (lv_at hl 2 rfl) ?_
                                                                                          refine lv_imul hx hb dX12_paint_55 ?_
                                                                                          refine lz_top (y := 0) (by decide) ?_
                                                                                          refine lv_iload_n hx hb dX12_paint_56 rfl (lv_at hl 0 rfl) ?_
                                                                                          refine lv_iadd hx hb dX12_paint_57 ?_
                                                                                          refine lz_top (y := 18) (by decide) ?_
                                                                                          refine lv_iload_n hx hb dX12_paint_58 rfl (lv_at hl 0 rfl) ?_
                                                                                          refine lv_aload_n hx hb dX12_paint_59 rfl (lv_at hl 1 rfl) ?_
                                                                                          refine va_get (D := D) (ci := 12) (v := .int 0) (C := RX12) (T := TX12) (N := 24) hx hb hts hin12 hown hK hP 14 rfl rfl 0 (by decide) (hts (.fieldLink RX12 63 "MissedPointsModel" "many" "I") (by decide +kernel)) (fun _ h9 => h9) rfl dX12_paint_60 ?_
                                                                                          refine lv_icmp_ge (tgt := 75) hx hb dX12_paint_63 (by decide) (fun c368 => ?_) (fun c368 => ?_)
                                                                                          · refine lv_iconst (v := 0) hx hb dX12_paint_75 (by decide) ?_
                                                                                            refine lz_astc hx hb hK hP hD hS 9 0 rfl rfl (lz_vp (x := 18) (n := 160) (by decide) (by decide)) dX12_paint_76 (fun H locs hP hD hS => ?_)
                                                                                            refine lv_iinc (v := 19) (lv' := [(3, .int 19), (0, .ref h0), (1, .int 0), (2, .int x1)]) hx hb dX12_paint_77 hl (k := 0) rfl (by decide) (by decide) rfl (fun ls hl => ?_)
                                                                                            refine lv_goto (tgt := 42) hx hb dX12_paint_80 (by decide) ?_
                                                                                            refine lv_iload_n hx hb dX12_paint_42 rfl (lv_at hl 0 rfl) ?_
                                                                                            refine lv_bipush (v := 40) hx hb dX12_paint_43 (by decide) ?_
                                                                                            refine lv_icmp_ge (tgt := 83) hx hb dX12_paint_45 (by decide) (fun c369 => ?_) (fun c369 => ?_)
                                                                                            · exact absurd c369 (by decide)
                                                                                            · refine lv_aload_n hx hb dX12_paint_48 rfl (lv_at hl 1 rfl) ?_
                                                                                              refine va_get (D := D) (ci := 12) (v := .ref h11) (C := RX12) (T := TX12) (N := 24) hx hb hts hin12 hown hK hP 14 rfl rfl 18 (by decide) (hts (.fieldLink RX12 44 "MissedPointsModel" "items" "[I") (by decide +kernel)) (fun _ h9 => h9) rfl dX12_paint_49 ?_
                                                                                              refine lv_bipush (v := 40) hx hb dX12_paint_52 (by decide) ?_
                                                                                              refine lv_iload_n hx hb dX12_paint_54 rfl (lv_at hl 2 rfl) ?_
                                                                                              refine lv_imul hx hb dX12_paint_55 ?_
                                                                                              refine lz_top (y := 0) (by decide) ?_
                                                                                              refine lv_iload_n hx hb dX12_paint_56 rfl (lv_at hl 0 rfl) ?_
                                                                                              refine lv_iadd hx hb dX12_paint_57 ?_
                                                                                              refine lz_top (y := 19) (by decide) ?_
                                                                                              refine lv_iload_n hx hb dX12_paint_58 rfl (lv_at hl 0 rfl) ?_
                                                                                              refine lv_aload_n hx hb dX12_paint_59 rfl (lv_at hl 1 rfl) ?_
                                                                                              refine va_get (D := D) (ci := 12) (v := .int 0) (C := RX12) (T := TX12) (N := 24) hx hb hts hin12 hown hK hP 14 rfl rfl 0 (by decide) (hts (.fieldLink RX12 63 "MissedPointsModel" "many" "I") (by decide +kernel)) (fun _ h9 => h9) rfl dX12_paint_60 ?_
                                                                                              refine lv_icmp_ge (tgt := 75) hx hb dX12_paint_63 (by decide) (fun c370 => ?_) (fun c370 => ?_)
                                                                                              · refine lv_iconst (v := 0) hx hb dX12_paint_75 (by decide) ?_
                                                                                                refine lz_astc hx hb hK hP hD hS 9 0 rfl rfl (lz_vp (x := 19) (n := 160) (by decide) (by decide)) dX12_paint_76 (fun H locs hP hD hS => ?_)
                                                                                                refine lv_iinc (v := 20) (lv' := [(3, .int 20), (0, .ref h0), (1, .int 0), (2, .int x1)]) hx hb dX12_paint_77 hl (k := 0) rfl (by decide) (by decide) rfl (fun ls hl => ?_)
                                                                                                refine lv_goto (tgt := 42) hx hb dX12_paint_80 (by decide) ?_
                                                                                                refine lv_iload_n hx hb dX12_paint_42 rfl (lv_at hl 0 rfl) ?_
                                                                                                refine lv_bipush (v := 40) hx hb dX12_paint_43 (by decide) ?_
                                                                                                refine lv_icmp_ge (tgt := 83) hx hb dX12_paint_45 (by decide) (fun c371 => ?_) (fun c371 => ?_)
                                                                                                · exact absurd c371 (by decide)
                                                                                                · refine lv_aload_n hx hb dX12_paint_48 rfl (lv_at hl 1 rfl) ?_
                                                                                                  refine va_get (D := D) (ci := 12) (v := .ref h11) (C := RX12) (T := TX12) (N := 24) hx hb hts hin12 hown hK hP 14 rfl rfl 18 (by decide) (hts (.fieldLink RX12 44 "MissedPointsModel" "items" "[I") (by decide +kernel)) (fun _ h9 => h9) rfl dX12_paint_49 ?_
                                                                                                  refine lv_bipush (v := 40) hx hb dX12_paint_52 (by decide) ?_
                                                                                                  refine lv_iload_n hx hb dX12_paint_54 rfl (lv_at hl 2 rfl) ?_
                                                                                                  refine lv_imul hx hb dX12_paint_55 ?_
                                                                                                  refine lz_top (y := 0) (by decide) ?_
                                                                                                  refine lv_iload_n hx hb dX12_paint_56 rfl (lv_at hl 0 rfl) ?_
                                                                                                  refine lv_iadd hx hb dX12_paint_57 ?_
                                                                                                  refine lz_top (y := 20) (by decide) ?_
                                                                                                  refine lv_iload_n hx hb dX12_paint_58 rfl (lv_at hl 0 rfl) ?_
                                                                                                  refine lv_aload_n hx hb dX12_paint_59 rfl (lv_at hl 1 rfl) ?_
                                                                                                  refine va_get (D := D) (ci := 12) (v := .int 0) (C := RX12) (T := TX12) (N := 24) hx hb hts hin12 hown hK hP 14 rfl rfl 0 (by decide) (hts (.fieldLink RX12 63 "MissedPointsModel" "many" "I") (by decide +kernel)) (fun _ h9 => h9) rfl dX12_paint_60 ?_
                                                                                                  refine lv_icmp_ge (tgt := 75) hx hb dX12_paint_63 (by decide) (fun c372 => ?_) (fun c372 => ?_)
                                                                                                  · refine lv_iconst (v := 0) hx hb dX12_paint_75 (by decide) ?_
                                                                                                    refine lz_astc hx hb hK hP hD hS 9 0 rfl rfl (lz_vp (x := 20) (n := 160) (by decide) (by decide)) dX12_paint_76 (fun H locs hP hD hS => ?_)
                                                                                                    refine lv_iinc (v := 21) (lv' := [(3, .int 21), (0, .ref h0), (1, .int 0), (2, .int x1)]) hx hb dX12_paint_77 hl (k := 0) rfl (by decide) (by decide) rfl (fun ls hl => ?_)
                                                                                                    refine lv_goto (tgt := 42) hx hb dX12_paint_80 (by decide) ?_
                                                                                                    refine lv_iload_n hx hb dX12_paint_42 rfl (lv_at hl 0 rfl) ?_
                                                                                                    refine lv_bipush (v := 40) hx hb dX12_paint_43 (by decide) ?_
                                                                                                    refine lv_icmp_ge (tgt := 83) hx hb dX12_paint_45 (by decide) (fun c373 => ?_) (fun c373 => ?_)
                                                                                                    · exact absurd c373 (by decide)
                                                                                                    · refine lv_aload_n hx hb dX12_paint_48 rfl (lv_at hl 1 rfl) ?_
                                                                                                      refine va_get (D := D) (ci := 12) (v := .ref h11) (C := RX12) (T := TX12) (N := 24) hx hb hts hin12 hown hK hP 14 rfl rfl 18 (by decide) (hts (.fieldLink RX12 44 "MissedPointsModel" "items" "[I") (by decide +kernel)) (fun _ h9 => h9) rfl dX12_paint_49 ?_
                                                                                                      refine lv_bipush (v := 40) hx hb dX12_paint_52 (by decide) ?_
                                                                                                      refine lv_iload_n hx hb dX12_paint_54 rfl (lv_at hl 2 rfl) ?_
                                                                                                      refine lv_imul hx hb dX12_paint_55 ?_
                                                                                                      refine lz_top (y := 0) (by decide) ?_
                                                                                                      refine lv_iload_n hx hb dX12_paint_56 rfl (lv_at hl 0 rfl) ?_
                                                                                                      refine lv_iadd hx hb dX12_paint_57 ?_
                                                                                                      refine lz_top (y := 21) (by decide) ?_
                                                                                                      refine lv_iload_n hx hb dX12_paint_58 rfl (lv_at hl 0 rfl) ?_
                                                                                                      refine lv_aload_n hx hb dX12_paint_59 rfl (lv_at hl 1 rfl) ?_
                                                                                                      refine va_get (D := D) (ci := 12) (v := .int 0) (C := RX12) (T := TX12) (N := 24) hx hb hts hin12 hown hK hP 14 rfl rfl 0 (by decide) (hts (.fieldLink RX12 63 "MissedPointsModel" "many" "I") (by decide +kernel)) (fun _ h9 => h9) rfl dX12_paint_60 ?_
                                                                                                      refine lv_icmp_ge (tgt := 75) hx hb dX12_paint_63 (by decide) (fun c374 => ?_) (fun c374 => ?_)
                                                                                                      · refine lv_iconst (v := 0) hx hb dX12_paint_75 (by decide) ?_
                                                                                                        refine lz_astc hx hb hK hP hD hS 9 0 rfl rfl (lz_vp (x := 21) (n := 160) (by decide) (by decide)) dX12_paint_76 (fun H locs hP hD hS => ?_)
                                                                                                        refine lv_iinc (v := 22) (lv' := [(3, .int 22), (0, .ref h0), (1, .int 0), (2, .int x1)]) hx hb dX12_paint_77 hl (k := 0) rfl (by decide) (by decide) rfl (fun ls hl => ?_)
                                                                                                        refine lv_goto (tgt := 42) hx hb dX12_paint_80 (by decide) ?_
                                                                                                        refine lv_iload_n hx hb dX12_paint_42 rfl (lv_at hl 0 rfl) ?_
                                                                                                        refine lv_bipush (v := 40) hx hb dX12_paint_43 (by decide) ?_
                                                                                                        refine lv_icmp_ge (tgt := 83) hx hb dX12_paint_45 (by decide) (fun c375 => ?_) (fun c375 => ?_)
                                                                                                        · exact absurd c375 (by decide)
                                                                                                        · refine lv_aload_n hx hb dX12_paint_48 rfl (lv_at hl 1 rfl) ?_
                                                                                                          refine va_get (D := D) (ci := 12) (v := .ref h11) (C := RX12) (T := TX12) (N := 24) hx hb hts hin12 hown hK hP 14 rfl rfl 18 (by decide) (hts (.fieldLink RX12 44 "MissedPointsModel" "items" "[I") (by decide +kernel)) (fun _ h9 => h9) rfl dX12_paint_49 ?_
                                                                                                          refine lv_bipush (v := 40) hx hb dX12_paint_52 (by decide) ?_
                                                                                                          refine lv_iload_n hx hb dX12_paint_54 rfl (lv_at hl 2 rfl) ?_
                                                                                                          refine lv_imul hx hb dX12_paint_55 ?_
                                                                                                          refine lz_top (y := 0) (by decide) ?_
                                                                                                          refine lv_iload_n hx hb dX12_paint_56 rfl (lv_at hl 0 rfl) ?_
                                                                                                          refine lv_iadd hx hb dX12_paint_57 ?_
                                                                                                          refine lz_top (y := 22) (by decide) ?_
                                                                                                          refine lv_iload_n hx hb dX12_paint_58 rfl (lv_at hl 0 rfl) ?_
                                                                                                          refine lv_aload_n hx hb dX12_paint_59 rfl (lv_at hl 1 rfl) ?_
                                                                                                          refine va_get (D := D) (ci := 12) (v := .int 0) (C := RX12) (T := TX12) (N := 24) hx hb hts hin12 hown hK hP 14 rfl rfl 0 (by decide) (hts (.fieldLink RX12 63 "MissedPointsModel" "many" "I") (by decide +kernel)) (fun _ h9 => h9) rfl dX12_paint_60 ?_
                                                                                                          refine lv_icmp_ge (tgt := 75) hx hb dX12_paint_63 (by decide) (fun c376 => ?_) (fun c376 => ?_)
                                                                                                          · refine lv_iconst (v := 0) hx hb dX12_paint_75 (by decide) ?_
                                                                                                            refine lz_astc hx hb hK hP hD hS 9 0 rfl rfl (lz_vp (x := 22) (n := 160) (by decide) (by decide)) dX12_paint_76 (fun H locs hP hD hS => ?_)
                                                                                                            refine lv_iinc (v := 23) (lv' := [(3, .int 23), (0, .ref h0), (1, .int 0), (2, .int x1)]) hx hb dX12_paint_77 hl (k := 0) rfl (by decide) (by decide) rfl (fun ls hl => ?_)
                                                                                                            refine lv_goto (tgt := 42) hx hb dX12_paint_80 (by decide) ?_
                                                                                                            refine lv_iload_n hx hb dX12_paint_42 rfl (lv_at hl 0 rfl) ?_
                                                                                                            refine lv_bipush (v := 40) hx hb dX12_paint_43 (by decide) ?_
                                                                                                            refine lv_icmp_ge (tgt := 83) hx hb dX12_paint_45 (by decide) (fun c377 => ?_) (fun c377 => ?_)
                                                                                                            · exact absurd c377 (by decide)
                                                                                                            · refine lv_aload_n hx hb dX12_paint_48 rfl (lv_at hl 1 rfl) ?_
                                                                                                              refine va_get (D := D) (ci := 12) (v := .ref h11) (C := RX12) (T := TX12) (N := 24) hx hb hts hin12 hown hK hP 14 rfl rfl 18 (by decide) (hts (.fieldLink RX12 44 "MissedPointsModel" "items" "[I") (by decide +kernel)) (fun _ h9 => h9) rfl dX12_paint_49 ?_
                                                                                                              refine lv_bipush (v := 40) hx hb dX12_paint_52 (by decide) ?_
                                                                                                              refine lv_iload_n hx hb dX12_paint_54 rfl (lv_at hl 2 rfl) ?_
                                                                                                              refine lv_imul hx hb dX12_paint_55 ?_
                                                                                                              refine lz_top (y := 0) (by decide) ?_
                                                                                                              refine lv_iload_n hx hb dX12_paint_56 rfl (lv_at hl 0 rfl) ?_
                                                                                                              refine lv_iadd hx hb dX12_paint_57 ?_
                                                                                                              refine lz_top (y := 23) (by decide) ?_
                                                                                                              refine lv_iload_n hx hb dX12_paint_58 rfl (lv_at hl 0 rfl) ?_
                                                                                                              refine lv_aload_n hx hb dX12_paint_59 rfl (lv_at hl 1 rfl) ?_
                                                                                                              refine va_get (D := D) (ci := 12) (v := .int 0) (C := RX12) (T := TX12) (N := 24) hx hb hts hin12 hown hK hP 14 rfl rfl 0 (by decide) (hts (.fieldLink RX12 63 "MissedPointsModel" "many" "I") (by decide +kernel)) (fun _ h9 => h9) rfl dX12_paint_60 ?_
                                                                                                              refine lv_icmp_ge (tgt := 75) hx hb dX12_paint_63 (by decide) (fun c378 => ?_) (fun c378 => ?_)
                                                                                                              · refine lv_iconst (v := 0) hx hb dX12_paint_75 (by decide) ?_
                                                                                                                refine lz_astc hx hb hK hP hD hS 9 0 rfl rfl (lz_vp (x := 23) (n := 160) (by decide) (by decide)) dX12_paint_76 (fun H locs hP hD hS => ?_)
                                                                                                                refine lv_iinc (v := 24) (lv' := [(3, .int 24), (0, .ref h0), (1, .int 0), (2, .int x1)]) hx hb dX12_paint_77 hl (k := 0) rfl (by decide) (by decide) rfl (fun ls hl => ?_)
                                                                                                                refine lv_goto (tgt := 42) hx hb dX12_paint_80 (by decide) ?_
                                                                                                                refine lv_iload_n hx hb dX12_paint_42 rfl (lv_at hl 0 rfl) ?_
                                                                                                                refine lv_bipush (v := 40) hx hb dX12_paint_43 (by decide) ?_
                                                                                                                refine lv_icmp_ge (tgt := 83) hx hb dX12_paint_45 (by decide) (fun c379 => ?_) (fun c379 => ?_)
                                                                                                                · exact absurd c379 (by decide)
                                                                                                                · refine lv_aload_n hx hb dX12_paint_48 rfl (lv_at hl 1 rfl) ?_
                                                                                                                  refine va_get (D := D) (ci := 12) (v := .ref h11) (C := RX12) (T := TX12) (N := 24) hx hb hts hin12 hown hK hP 14 rfl rfl 18 (by decide) (hts (.fieldLink RX12 44 "MissedPointsModel" "items" "[I") (by decide +kernel)) (fun _ h9 => h9) rfl dX12_paint_49 ?_
                                                                                                                  refine lv_bipush (v := 40) hx hb dX12_paint_52 (by decide) ?_
                                                                                                                  refine lv_iload_n hx hb dX12_paint_54 rfl (lv_at hl 2 rfl) ?_
                                                                                                                  refine lv_imul hx hb dX12_paint_55 ?_
                                                                                                                  refine lz_top (y := 0) (by decide) ?_
                                                                                                                  refine lv_iload_n hx hb dX12_paint_56 rfl (lv_at hl 0 rfl) ?_
                                                                                                                  refine lv_iadd hx hb dX12_paint_57 ?_
                                                                                                                  refine lz_top (y := 24) (by decide) ?_
                                                                                                                  refine lv_iload_n hx hb dX12_paint_58 rfl (lv_at hl 0 rfl) ?_
                                                                                                                  refine lv_aload_n hx hb dX12_paint_59 rfl (lv_at hl 1 rfl) ?_
                                                                                                                  refine va_get (D := D) (ci := 12) (v := .int 0) (C := RX12) (T := TX12) (N := 24) hx hb hts hin12 hown hK hP 14 rfl rfl 0 (by decide) (hts (.fieldLink RX12 63 "MissedPointsModel" "many" "I") (by decide +kernel)) (fun _ h9 => h9) rfl dX12_paint_60 ?_
                                                                                                                  refine lv_icmp_ge (tgt := 75) hx hb dX12_paint_63 (by decide) (fun c380 => ?_) (fun c380 => ?_)
                                                                                                                  · refine lv_iconst (v := 0) hx hb dX12_paint_75 (by decide) ?_
                                                                                                                    refine lz_astc hx hb hK hP hD hS 9 0 rfl rfl (lz_vp (x := 24) (n := 160) (by decide) (by decide)) dX12_paint_76 (fun H locs hP hD hS => ?_)
                                                                                                                    refine lv_iinc (v := 25) (lv' := [(3, .int 25), (0, .ref h0), (1, .int 0), (2, .int x1)]) hx hb dX12_paint_77 hl (k := 0) rfl (by decide) (by decide) rfl (fun ls hl => ?_)
                                                                                                                    refine lv_goto (tgt := 42) hx hb dX12_paint_80 (by decide) ?_
                                                                                                                    refine lv_iload_n hx hb dX12_paint_42 rfl (lv_at hl 0 rfl) ?_
                                                                                                                    refine lv_bipush (v := 40) hx hb dX12_paint_43 (by decide) ?_
                                                                                                                    refine lv_icmp_ge (tgt := 83) hx hb dX12_paint_45 (by decide) (fun c381 => ?_) (fun c381 => ?_)
                                                                                                                    · exact absurd c381 (by decide)
                                                                                                                    · refine lv_aload_n hx hb dX12_paint_48 rfl (lv_at hl 1 rfl) ?_
                                                                                                                      refine va_get (D := D) (ci := 12) (v := .ref h11) (C := RX12) (T := TX12) (N := 24) hx hb hts hin12 hown hK hP 14 rfl rfl 18 (by decide) (hts (.fieldLink RX12 44 "MissedPointsModel" "items" "[I") (by decide +kernel)) (fun _ h9 => h9) rfl dX12_paint_49 ?_
                                                                                                                      refine lv_bipush (v := 40) hx hb dX12_paint_52 (by decide) ?_
                                                                                                                      refine lv_iload_n hx hb dX12_paint_54 rfl (lv_at hl 2 rfl) ?_
                                                                                                                      refine lv_imul hx hb dX12_paint_55 ?_
                                                                                                                      refine lz_top (y := 0) (by decide) ?_
                                                                                                                      refine lv_iload_n hx hb dX12_paint_56 rfl (lv_at hl 0 rfl) ?_
                                                                                                                      refine lv_iadd hx hb dX12_paint_57 ?_
                                                                                                                      refine lz_top (y := 25) (by decide) ?_
                                                                                                                      refine lv_iload_n hx hb dX12_paint_58 rfl (lv_at hl 0 rfl) ?_
                                                                                                                      refine lv_aload_n hx hb dX12_paint_59 rfl (lv_at hl 1 rfl) ?_
                                                                                                                      refine va_get (D := D) (ci := 12) (v := .int 0) (C := RX12) (T := TX12) (N := 24) hx hb hts hin12 hown hK hP 14 rfl rfl 0 (by decide) (hts (.fieldLink RX12 63 "MissedPointsModel" "many" "I") (by decide +kernel)) (fun _ h9 => h9) rfl dX12_paint_60 ?_
                                                                                                                      refine lv_icmp_ge (tgt := 75) hx hb dX12_paint_63 (by decide) (fun c382 => ?_) (fun c382 => ?_)
                                                                                                                      · refine lv_iconst (v := 0) hx hb dX12_paint_75 (by decide) ?_
                                                                                                                        refine lz_astc hx hb hK hP hD hS 9 0 rfl rfl (lz_vp (x := 25) (n := 160) (by decide) (by decide)) dX12_paint_76 (fun H locs hP hD hS => ?_)
                                                                                                                        refine lv_iinc (v := 26) (lv' := [(3, .int 26), (0, .ref h0), (1, .int 0), (2, .int x1)]) hx hb dX12_paint_77 hl (k := 0) rfl (by decide) (by decide) rfl (fun ls hl => ?_)
                                                                                                                        refine lv_goto (tgt := 42) hx hb dX12_paint_80 (by decide) ?_
                                                                                                                        refine lv_iload_n hx hb dX12_paint_42 rfl (lv_at hl 0 rfl) ?_
                                                                                                                        refine lv_bipush (v := 40) hx hb dX12_paint_43 (by decide) ?_
                                                                                                                        refine lv_icmp_ge (tgt := 83) hx hb dX12_paint_45 (by decide) (fun c383 => ?_) (fun c383 => ?_)
                                                                                                                        · exact absurd c383 (by decide)
                                                                                                                        · refine lv_aload_n hx hb dX12_paint_48 rfl (lv_at hl 1 rfl) ?_
                                                                                                                          refine va_get (D := D) (ci := 12) (v := .ref h11) (C := RX12) (T := TX12) (N := 24) hx hb hts hin12 hown hK hP 14 rfl rfl 18 (by decide) (hts (.fieldLink RX12 44 "MissedPointsModel" "items" "[I") (by decide +kernel)) (fun _ h9 => h9) rfl dX12_paint_49 ?_
                                                                                                                          refine lv_bipush (v := 40) hx hb dX12_paint_52 (by decide) ?_
                                                                                                                          refine lv_iload_n hx hb dX12_paint_54 rfl (lv_at hl 2 rfl) ?_
                                                                                                                          refine lv_imul hx hb dX12_paint_55 ?_
                                                                                                                          refine lz_top (y := 0) (by decide) ?_
                                                                                                                          refine lv_iload_n hx hb dX12_paint_56 rfl (lv_at hl 0 rfl) ?_
                                                                                                                          refine lv_iadd hx hb dX12_paint_57 ?_
                                                                                                                          refine lz_top (y := 26) (by decide) ?_
                                                                                                                          refine lv_iload_n hx hb dX12_paint_58 rfl (lv_at hl 0 rfl) ?_
                                                                                                                          refine lv_aload_n hx hb dX12_paint_59 rfl (lv_at hl 1 rfl) ?_
                                                                                                                          refine va_get (D := D) (ci := 12) (v := .int 0) (C := RX12) (T := TX12) (N := 24) hx hb hts hin12 hown hK hP 14 rfl rfl 0 (by decide) (hts (.fieldLink RX12 63 "MissedPointsModel" "many" "I") (by decide +kernel)) (fun _ h9 => h9) rfl dX12_paint_60 ?_
                                                                                                                          refine lv_icmp_ge (tgt := 75) hx hb dX12_paint_63 (by decide) (fun c384 => ?_) (fun c384 => ?_)
                                                                                                                          · refine lv_iconst (v := 0) hx hb dX12_paint_75 (by decide) ?_
                                                                                                                            refine lz_astc hx hb hK hP hD hS 9 0 rfl rfl (lz_vp (x := 26) (n := 160) (by decide) (by decide)) dX12_paint_76 (fun H locs hP hD hS => ?_)
                                                                                                                            refine lv_iinc (v := 27) (lv' := [(3, .int 27), (0, .ref h0), (1, .int 0), (2, .int x1)]) hx hb dX12_paint_77 hl (k := 0) rfl (by decide) (by decide) rfl (fun ls hl => ?_)
                                                                                                                            refine lv_goto (tgt := 42) hx hb dX12_paint_80 (by decide) ?_
                                                                                                                            refine lv_iload_n hx hb dX12_paint_42 rfl (lv_at hl 0 rfl) ?_
                                                                                                                            refine lv_bipush (v := 40) hx hb dX12_paint_43 (by decide) ?_
                                                                                                                            refine lv_icmp_ge (tgt := 83) hx hb dX12_paint_45 (by decide) (fun c385 => ?_) (fun c385 => ?_)
                                                                                                                            · exact absurd c385 (by decide)
                                                                                                                            · refine lv_aload_n hx hb dX12_paint_48 rfl (lv_at hl 1 rfl) ?_
                                                                                                                              refine va_get (D := D) (ci := 12) (v := .ref h11) (C := RX12) (T := TX12) (N := 24) hx hb hts hin12 hown hK hP 14 rfl rfl 18 (by decide) (hts (.fieldLink RX12 44 "MissedPointsModel" "items" "[I") (by decide +kernel)) (fun _ h9 => h9) rfl dX12_paint_49 ?_
                                                                                                                              refine lv_bipush (v := 40) hx hb dX12_paint_52 (by decide) ?_
                                                                                                                              refine lv_iload_n hx hb dX12_paint_54 rfl (lv_at hl 2 rfl) ?_
                                                                                                                              refine lv_imul hx hb dX12_paint_55 ?_
                                                                                                                              refine lz_top (y := 0) (by decide) ?_
                                                                                                                              refine lv_iload_n hx hb dX12_paint_56 rfl (lv_at hl 0 rfl) ?_
                                                                                                                              refine lv_iadd hx hb dX12_paint_57 ?_
                                                                                                                              refine lz_top (y := 27) (by decide) ?_
                                                                                                                              refine lv_iload_n hx hb dX12_paint_58 rfl (lv_at hl 0 rfl) ?_
                                                                                                                              refine lv_aload_n hx hb dX12_paint_59 rfl (lv_at hl 1 rfl) ?_
                                                                                                                              refine va_get (D := D) (ci := 12) (v := .int 0) (C := RX12) (T := TX12) (N := 24) hx hb hts hin12 hown hK hP 14 rfl rfl 0 (by decide) (hts (.fieldLink RX12 63 "MissedPointsModel" "many" "I") (by decide +kernel)) (fun _ h9 => h9) rfl dX12_paint_60 ?_
                                                                                                                              refine lv_icmp_ge (tgt := 75) hx hb dX12_paint_63 (by decide) (fun c386 => ?_) (fun c386 => ?_)
                                                                                                                              · refine lv_iconst (v := 0) hx hb dX12_paint_75 (by decide) ?_
                                                                                                                                refine lz_astc hx hb hK hP hD hS 9 0 rfl rfl (lz_vp (x := 27) (n := 160) (by decide) (by decide)) dX12_paint_76 (fun H locs hP hD hS => ?_)
                                                                                                                                refine lv_iinc (v := 28) (lv' := [(3, .int 28), (0, .ref h0), (1, .int 0), (2, .int x1)]) hx hb dX12_paint_77 hl (k := 0) rfl (by decide) (by decide) rfl (fun ls hl => ?_)
                                                                                                                                refine lv_goto (tgt := 42) hx hb dX12_paint_80 (by decide) ?_
                                                                                                                                refine lv_iload_n hx hb dX12_paint_42 rfl (lv_at hl 0 rfl) ?_
                                                                                                                                refine lv_bipush (v := 40) hx hb dX12_paint_43 (by decide) ?_
                                                                                                                                refine lv_icmp_ge (tgt := 83) hx hb dX12_paint_45 (by decide) (fun c387 => ?_) (fun c387 => ?_)
                                                                                                                                · exact absurd c387 (by decide)
                                                                                                                                · refine lv_aload_n hx hb dX12_paint_48 rfl (lv_at hl 1 rfl) ?_
                                                                                                                                  refine va_get (D := D) (ci := 12) (v := .ref h11) (C := RX12) (T := TX12) (N := 24) hx hb hts hin12 hown hK hP 14 rfl rfl 18 (by decide) (hts (.fieldLink RX12 44 "MissedPointsModel" "items" "[I") (by decide +kernel)) (fun _ h9 => h9) rfl dX12_paint_49 ?_
                                                                                                                                  refine lv_bipush (v := 40) hx hb dX12_paint_52 (by decide) ?_
                                                                                                                                  refine lv_iload_n hx hb dX12_paint_54 rfl (lv_at hl 2 rfl) ?_
                                                                                                                                  refine lv_imul hx hb dX12_paint_55 ?_
                                                                                                                                  refine lz_top (y := 0) (by decide) ?_
                                                                                                                                  refine lv_iload_n hx hb dX12_paint_56 rfl (lv_at hl 0 rfl) ?_
                                                                                                                                  refine lv_iadd hx hb dX12_paint_57 ?_
                                                                                                                                  refine lz_top (y := 28) (by decide) ?_
                                                                                                                                  refine lv_iload_n hx hb dX12_paint_58 rfl (lv_at hl 0 rfl) ?_
                                                                                                                                  refine lv_aload_n hx hb dX12_paint_59 rfl (lv_at hl 1 rfl) ?_
                                                                                                                                  refine va_get (D := D) (ci := 12) (v := .int 0) (C := RX12) (T := TX12) (N := 24) hx hb hts hin12 hown hK hP 14 rfl rfl 0 (by decide) (hts (.fieldLink RX12 63 "MissedPointsModel" "many" "I") (by decide +kernel)) (fun _ h9 => h9) rfl dX12_paint_60 ?_
                                                                                                                                  refine lv_icmp_ge (tgt := 75) hx hb dX12_paint_63 (by decide) (fun c388 => ?_) (fun c388 => ?_)
                                                                                                                                  · refine lv_iconst (v := 0) hx hb dX12_paint_75 (by decide) ?_
                                                                                                                                    refine lz_astc hx hb hK hP hD hS 9 0 rfl rfl (lz_vp (x := 28) (n := 160) (by decide) (by decide)) dX12_paint_76 (fun H locs hP hD hS => ?_)
                                                                                                                                    refine lv_iinc (v := 29) (lv' := [(3, .int 29), (0, .ref h0), (1, .int 0), (2, .int x1)]) hx hb dX12_paint_77 hl (k := 0) rfl (by decide) (by decide) rfl (fun ls hl => ?_)
                                                                                                                                    refine lv_goto (tgt := 42) hx hb dX12_paint_80 (by decide) ?_
                                                                                                                                    refine lv_iload_n hx hb dX12_paint_42 rfl (lv_at hl 0 rfl) ?_
                                                                                                                                    refine lv_bipush (v := 40) hx hb dX12_paint_43 (by decide) ?_
                                                                                                                                    refine lv_icmp_ge (tgt := 83) hx hb dX12_paint_45 (by decide) (fun c389 => ?_) (fun c389 => ?_)
                                                                                                                                    · exact absurd c389 (by decide)
                                                                                                                                    · refine lv_aload_n hx hb dX12_paint_48 rfl (lv_at hl 1 rfl) ?_
                                                                                                                                      refine va_get (D := D) (ci := 12) (v := .ref h11) (C := RX12) (T := TX12) (N := 24) hx hb hts hin12 hown hK hP 14 rfl rfl 18 (by decide) (hts (.fieldLink RX12 44 "MissedPointsModel" "items" "[I") (by decide +kernel)) (fun _ h9 => h9) rfl dX12_paint_49 ?_
                                                                                                                                      refine lv_bipush (v := 40) hx hb dX12_paint_52 (by decide) ?_
                                                                                                                                      refine lv_iload_n hx hb dX12_paint_54 rfl (lv_at hl 2 rfl) ?_
                                                                                                                                      refine lv_imul hx hb dX12_paint_55 ?_
                                                                                                                                      refine lz_top (y := 0) (by decide) ?_
                                                                                                                                      refine lv_iload_n hx hb dX12_paint_56 rfl (lv_at hl 0 rfl) ?_
                                                                                                                                      refine lv_iadd hx hb dX12_paint_57 ?_
                                                                                                                                      refine lz_top (y := 29) (by decide) ?_
                                                                                                                                      refine lv_iload_n hx hb dX12_paint_58 rfl (lv_at hl 0 rfl) ?_
                                                                                                                                      refine lv_aload_n hx hb dX12_paint_59 rfl (lv_at hl 1 rfl) ?_
                                                                                                                                      refine va_get (D := D) (ci := 12) (v := .int 0) (C := RX12) (T := TX12) (N := 24) hx hb hts hin12 hown hK hP 14 rfl rfl 0 (by decide) (hts (.fieldLink RX12 63 "MissedPointsModel" "many" "I") (by decide +kernel)) (fun _ h9 => h9) rfl dX12_paint_60 ?_
                                                                                                                                      refine lv_icmp_ge (tgt := 75) hx hb dX12_paint_63 (by decide) (fun c390 => ?_) (fun c390 => ?_)
                                                                                                                                      · refine lv_iconst (v := 0) hx hb dX12_paint_75 (by decide) ?_
                                                                                                                                        refine lz_astc hx hb hK hP hD hS 9 0 rfl rfl (lz_vp (x := 29) (n := 160) (by decide) (by decide)) dX12_paint_76 (fun H locs hP hD hS => ?_)
                                                                                                                                        refine lv_iinc (v := 30) (lv' := [(3, .int 30), (0, .ref h0), (1, .int 0), (2, .int x1)]) hx hb dX12_paint_77 hl (k := 0) rfl (by decide) (by decide) rfl (fun ls hl => ?_)
                                                                                                                                        refine lv_goto (tgt := 42) hx hb dX12_paint_80 (by decide) ?_
                                                                                                                                        refine lv_iload_n hx hb dX12_paint_42 rfl (lv_at hl 0 rfl) ?_
                                                                                                                                        refine lv_bipush (v := 40) hx hb dX12_paint_43 (by decide) ?_
                                                                                                                                        refine lv_icmp_ge (tgt := 83) hx hb dX12_paint_45 (by decide) (fun c391 => ?_) (fun c391 => ?_)
                                                                                                                                        · exact absurd c391 (by decide)
                                                                                                                                        · refine lv_aload_n hx hb dX12_paint_48 rfl (lv_at hl 1 rfl) ?_
                                                                                                                                          refine va_get (D := D) (ci := 12) (v := .ref h11) (C := RX12) (T := TX12) (N := 24) hx hb hts hin12 hown hK hP 14 rfl rfl 18 (by decide) (hts (.fieldLink RX12 44 "MissedPointsModel" "items" "[I") (by decide +kernel)) (fun _ h9 => h9) rfl dX12_paint_49 ?_
                                                                                                                                          refine lv_bipush (v := 40) hx hb dX12_paint_52 (by decide) ?_
                                                                                                                                          refine lv_iload_n hx hb dX12_paint_54 rfl (lv_at hl 2 rfl) ?_
                                                                                                                                          refine lv_imul hx hb dX12_paint_55 ?_
                                                                                                                                          refine lz_top (y := 0) (by decide) ?_
                                                                                                                                          refine lv_iload_n hx hb dX12_paint_56 rfl (lv_at hl 0 rfl) ?_
                                                                                                                                          refine lv_iadd hx hb dX12_paint_57 ?_
                                                                                                                                          refine lz_top (y := 30) (by decide) ?_
                                                                                                                                          refine lv_iload_n hx hb dX12_paint_58 rfl (lv_at hl 0 rfl) ?_
                                                                                                                                          refine lv_aload_n hx hb dX12_paint_59 rfl (lv_at hl 1 rfl) ?_
                                                                                                                                          refine va_get (D := D) (ci := 12) (v := .int 0) (C := RX12) (T := TX12) (N := 24) hx hb hts hin12 hown hK hP 14 rfl rfl 0 (by decide) (hts (.fieldLink RX12 63 "MissedPointsModel" "many" "I") (by decide +kernel)) (fun _ h9 => h9) rfl dX12_paint_60 ?_
                                                                                                                                          refine lv_icmp_ge (tgt := 75) hx hb dX12_paint_63 (by decide) (fun c392 => ?_) (fun c392 => ?_)
                                                                                                                                          · refine lv_iconst (v := 0) hx hb dX12_paint_75 (by decide) ?_
                                                                                                                                            refine lz_astc hx hb hK hP hD hS 9 0 rfl rfl (lz_vp (x := 30) (n := 160) (by decide) (by decide)) dX12_paint_76 (fun H locs hP hD hS => ?_)
                                                                                                                                            refine lv_iinc (v := 31) (lv' := [(3, .int 31), (0, .ref h0), (1, .int 0), (2, .int x1)]) hx hb dX12_paint_77 hl (k := 0) rfl (by decide) (by decide) rfl (fun ls hl => ?_)
                                                                                                                                            refine lv_goto (tgt := 42) hx hb dX12_paint_80 (by decide) ?_
                                                                                                                                            refine lv_iload_n hx hb dX12_paint_42 rfl (lv_at hl 0 rfl) ?_
                                                                                                                                            refine lv_bipush (v := 40) hx hb dX12_paint_43 (by decide) ?_
                                                                                                                                            refine lv_icmp_ge (tgt := 83) hx hb dX12_paint_45 (by decide) (fun c393 => ?_) (fun c393 => ?_)
                                                                                                                                            · exact absurd c393 (by decide)
                                                                                                                                            · refine lv_aload_n hx hb dX12_paint_48 rfl (lv_at hl 1 rfl) ?_
                                                                                                                                              refine va_get (D := D) (ci := 12) (v := .ref h11) (C := RX12) (T := TX12) (N := 24) hx hb hts hin12 hown hK hP 14 rfl rfl 18 (by decide) (hts (.fieldLink RX12 44 "MissedPointsModel" "items" "[I") (by decide +kernel)) (fun _ h9 => h9) rfl dX12_paint_49 ?_
                                                                                                                                              refine lv_bipush (v := 40) hx hb dX12_paint_52 (by decide) ?_
                                                                                                                                              refine lv_iload_n hx hb dX12_paint_54 rfl (lv_at hl 2 rfl) ?_
                                                                                                                                              refine lv_imul hx hb dX12_paint_55 ?_
                                                                                                                                              refine lz_top (y := 0) (by decide) ?_
                                                                                                                                              refine lv_iload_n hx hb dX12_paint_56 rfl (lv_at hl 0 rfl) ?_
                                                                                                                                              refine lv_iadd hx hb dX12_paint_57 ?_
                                                                                                                                              refine lz_top (y := 31) (by decide) ?_
                                                                                                                                              refine lv_iload_n hx hb dX12_paint_58 rfl (lv_at hl 0 rfl) ?_
                                                                                                                                              refine lv_aload_n hx hb dX12_paint_59 rfl (lv_at hl 1 rfl) ?_
                                                                                                                                              refine va_get (D := D) (ci := 12) (v := .int 0) (C := RX12) (T := TX12) (N := 24) hx hb hts hin12 hown hK hP 14 rfl rfl 0 (by decide) (hts (.fieldLink RX12 63 "MissedPointsModel" "many" "I") (by decide +kernel)) (fun _ h9 => h9) rfl dX12_paint_60 ?_
                                                                                                                                              refine lv_icmp_ge (tgt := 75) hx hb dX12_paint_63 (by decide) (fun c394 => ?_) (fun c394 => ?_)
                                                                                                                                              · refine lv_iconst (v := 0) hx hb dX12_paint_75 (by decide) ?_
                                                                                                                                                refine lz_astc hx hb hK hP hD hS 9 0 rfl rfl (lz_vp (x := 31) (n := 160) (by decide) (by decide)) dX12_paint_76 (fun H locs hP hD hS => ?_)
                                                                                                                                                refine lv_iinc (v := 32) (lv' := [(3, .int 32), (0, .ref h0), (1, .int 0), (2, .int x1)]) hx hb dX12_paint_77 hl (k := 0) rfl (by decide) (by decide) rfl (fun ls hl => ?_)
                                                                                                                                                refine lv_goto (tgt := 42) hx hb dX12_paint_80 (by decide) ?_
                                                                                                                                                refine lv_iload_n hx hb dX12_paint_42 rfl (lv_at hl 0 rfl) ?_
                                                                                                                                                refine lv_bipush (v := 40) hx hb dX12_paint_43 (by decide) ?_
                                                                                                                                                refine lv_icmp_ge (tgt := 83) hx hb dX12_paint_45 (by decide) (fun c395 => ?_) (fun c395 => ?_)
                                                                                                                                                · exact absurd c395 (by decide)
                                                                                                                                                · refine lv_aload_n hx hb dX12_paint_48 rfl (lv_at hl 1 rfl) ?_
                                                                                                                                                  refine va_get (D := D) (ci := 12) (v := .ref h11) (C := RX12) (T := TX12) (N := 24) hx hb hts hin12 hown hK hP 14 rfl rfl 18 (by decide) (hts (.fieldLink RX12 44 "MissedPointsModel" "items" "[I") (by decide +kernel)) (fun _ h9 => h9) rfl dX12_paint_49 ?_
                                                                                                                                                  refine lv_bipush (v := 40) hx hb dX12_paint_52 (by decide) ?_
                                                                                                                                                  refine lv_iload_n hx hb dX12_paint_54 rfl (lv_at hl 2 rfl) ?_
                                                                                                                                                  refine lv_imul hx hb dX12_paint_55 ?_
                                                                                                                                                  refine lz_top (y := 0) (by decide) ?_
                                                                                                                                                  refine lv_iload_n hx hb dX12_paint_56 rfl (lv_at hl 0 rfl) ?_
                                                                                                                                                  refine lv_iadd hx hb dX12_paint_57 ?_
                                                                                                                                                  refine lz_top (y := 32) (by decide) ?_
                                                                                                                                                  refine lv_iload_n hx hb dX12_paint_58 rfl (lv_at hl 0 rfl) ?_
                                                                                                                                                  refine lv_aload_n hx hb dX12_paint_59 rfl (lv_at hl 1 rfl) ?_
                                                                                                                                                  refine va_get (D := D) (ci := 12) (v := .int 0) (C := RX12) (T := TX12) (N := 24) hx hb hts hin12 hown hK hP 14 rfl rfl 0 (by decide) (hts (.fieldLink RX12 63 "MissedPointsModel" "many" "I") (by decide +kernel)) (fun _ h9 => h9) rfl dX12_paint_60 ?_
                                                                                                                                                  refine lv_icmp_ge (tgt := 75) hx hb dX12_paint_63 (by decide) (fun c396 => ?_) (fun c396 => ?_)
                                                                                                                                                  · refine lv_iconst (v := 0) hx hb dX12_paint_75 (by decide) ?_
                                                                                                                                                    refine lz_astc hx hb hK hP hD hS 9 0 rfl rfl (lz_vp (x := 32) (n := 160) (by decide) (by decide)) dX12_paint_76 (fun H locs hP hD hS => ?_)
                                                                                                                                                    refine lv_iinc (v := 33) (lv' := [(3, .int 33), (0, .ref h0), (1, .int 0), (2, .int x1)]) hx hb dX12_paint_77 hl (k := 0) rfl (by decide) (by decide) rfl (fun ls hl => ?_)
                                                                                                                                                    refine lv_goto (tgt := 42) hx hb dX12_paint_80 (by decide) ?_
                                                                                                                                                    refine lv_iload_n hx hb dX12_paint_42 rfl (lv_at hl 0 rfl) ?_
                                                                                                                                                    refine lv_bipush (v := 40) hx hb dX12_paint_43 (by decide) ?_
                                                                                                                                                    refine lv_icmp_ge (tgt := 83) hx hb dX12_paint_45 (by decide) (fun c397 => ?_) (fun c397 => ?_)
                                                                                                                                                    · exact absurd c397 (by decide)
                                                                                                                                                    · refine lv_aload_n hx hb dX12_paint_48 rfl (lv_at hl 1 rfl) ?_
                                                                                                                                                      refine va_get (D := D) (ci := 12) (v := .ref h11) (C := RX12) (T := TX12) (N := 24) hx hb hts hin12 hown hK hP 14 rfl rfl 18 (by decide) (hts (.fieldLink RX12 44 "MissedPointsModel" "items" "[I") (by decide +kernel)) (fun _ h9 => h9) rfl dX12_paint_49 ?_
                                                                                                                                                      refine lv_bipush (v := 40) hx hb dX12_paint_52 (by decide) ?_
                                                                                                                                                      refine lv_iload_n hx hb dX12_paint_54 rfl (lv_at hl 2 rfl) ?_
                                                                                                                                                      refine lv_imul hx hb dX12_paint_55 ?_
                                                                                                                                                      refine lz_top (y := 0) (by decide) ?_
                                                                                                                                                      refine lv_iload_n hx hb dX12_paint_56 rfl (lv_at hl 0 rfl) ?_
                                                                                                                                                      refine lv_iadd hx hb dX12_paint_57 ?_
                                                                                                                                                      refine lz_top (y := 33) (by decide) ?_
                                                                                                                                                      refine lv_iload_n hx hb dX12_paint_58 rfl (lv_at hl 0 rfl) ?_
                                                                                                                                                      refine lv_aload_n hx hb dX12_paint_59 rfl (lv_at hl 1 rfl) ?_
                                                                                                                                                      refine va_get (D := D) (ci := 12) (v := .int 0) (C := RX12) (T := TX12) (N := 24) hx hb hts hin12 hown hK hP 14 rfl rfl 0 (by decide) (hts (.fieldLink RX12 63 "MissedPointsModel" "many" "I") (by decide +kernel)) (fun _ h9 => h9) rfl dX12_paint_60 ?_
                                                                                                                                                      refine lv_icmp_ge (tgt := 75) hx hb dX12_paint_63 (by decide) (fun c398 => ?_) (fun c398 => ?_)
                                                                                                                                                      · refine lv_iconst (v := 0) hx hb dX12_paint_75 (by decide) ?_
                                                                                                                                                        refine lz_astc hx hb hK hP hD hS 9 0 rfl rfl (lz_vp (x := 33) (n := 160) (by decide) (by decide)) dX12_paint_76 (fun H locs hP hD hS => ?_)
                                                                                                                                                        refine lv_iinc (v := 34) (lv' := [(3, .int 34), (0, .ref h0), (1, .int 0), (2, .int x1)]) hx hb dX12_paint_77 hl (k := 0) rfl (by decide) (by decide) rfl (fun ls hl => ?_)
                                                                                                                                                        refine lv_goto (tgt := 42) hx hb dX12_paint_80 (by decide) ?_
                                                                                                                                                        refine lv_iload_n hx hb dX12_paint_42 rfl (lv_at hl 0 rfl) ?_
                                                                                                                                                        refine lv_bipush (v := 40) hx hb dX12_paint_43 (by decide) ?_
                                                                                                                                                        refine lv_icmp_ge (tgt := 83) hx hb dX12_paint_45 (by decide) (fun c399 => ?_) (fun c399 => ?_)
                                                                                                                                                        · exact absurd c399 (by decide)
                                                                                                                                                        · refine lv_aload_n hx hb dX12_paint_48 rfl (lv_at hl 1 rfl) ?_
                                                                                                                                                          refine va_get (D := D) (ci := 12) (v := .ref h11) (C := RX12) (T := TX12) (N := 24) hx hb hts hin12 hown hK hP 14 rfl rfl 18 (by decide) (hts (.fieldLink RX12 44 "MissedPointsModel" "items" "[I") (by decide +kernel)) (fun _ h9 => h9) rfl dX12_paint_49 ?_
                                                                                                                                                          refine lv_bipush (v := 40) hx hb dX12_paint_52 (by decide) ?_
                                                                                                                                                          refine lv_iload_n hx hb dX12_paint_54 rfl (lv_at hl 2 rfl) ?_
                                                                                                                                                          refine lv_imul hx hb dX12_paint_55 ?_
                                                                                                                                                          refine lz_top (y := 0) (by decide) ?_
                                                                                                                                                          refine lv_iload_n hx hb dX12_paint_56 rfl (lv_at hl 0 rfl) ?_
                                                                                                                                                          refine lv_iadd hx hb dX12_paint_57 ?_
                                                                                                                                                          refine lz_top (y := 34) (by decide) ?_
                                                                                                                                                          refine lv_iload_n hx hb dX12_paint_58 rfl (lv_at hl 0 rfl) ?_
                                                                                                                                                          refine lv_aload_n hx hb dX12_paint_59 rfl (lv_at hl 1 rfl) ?_
                                                                                                                                                          refine va_get (D := D) (ci := 12) (v := .int 0) (C := RX12) (T := TX12) (N := 24) hx hb hts hin12 hown hK hP 14 rfl rfl 0 (by decide) (hts (.fieldLink RX12 63 "MissedPointsModel" "many" "I") (by decide +kernel)) (fun _ h9 => h9) rfl dX12_paint_60 ?_
                                                                                                                                                          refine lv_icmp_ge (tgt := 75) hx hb dX12_paint_63 (by decide) (fun c400 => ?_) (fun c400 => ?_)
                                                                                                                                                          · refine lv_iconst (v := 0) hx hb dX12_paint_75 (by decide) ?_
                                                                                                                                                            refine lz_astc hx hb hK hP hD hS 9 0 rfl rfl (lz_vp (x := 34) (n := 160) (by decide) (by decide)) dX12_paint_76 (fun H locs hP hD hS => ?_)
                                                                                                                                                            refine lv_iinc (v := 35) (lv' := [(3, .int 35), (0, .ref h0), (1, .int 0), (2, .int x1)]) hx hb dX12_paint_77 hl (k := 0) rfl (by decide) (by decide) rfl (fun ls hl => ?_)
                                                                                                                                                            refine lv_goto (tgt := 42) hx hb dX12_paint_80 (by decide) ?_
                                                                                                                                                            refine lv_iload_n hx hb dX12_paint_42 rfl (lv_at hl 0 rfl) ?_
                                                                                                                                                            refine lv_bipush (v := 40) hx hb dX12_paint_43 (by decide) ?_
                                                                                                                                                            refine lv_icmp_ge (tgt := 83) hx hb dX12_paint_45 (by decide) (fun c401 => ?_) (fun c401 => ?_)
                                                                                                                                                            · exact absurd c401 (by decide)
                                                                                                                                                            · refine lv_aload_n hx hb dX12_paint_48 rfl (lv_at hl 1 rfl) ?_
                                                                                                                                                              refine va_get (D := D) (ci := 12) (v := .ref h11) (C := RX12) (T := TX12) (N := 24) hx hb hts hin12 hown hK hP 14 rfl rfl 18 (by decide) (hts (.fieldLink RX12 44 "MissedPointsModel" "items" "[I") (by decide +kernel)) (fun _ h9 => h9) rfl dX12_paint_49 ?_
                                                                                                                                                              refine lv_bipush (v := 40) hx hb dX12_paint_52 (by decide) ?_
                                                                                                                                                              refine lv_iload_n hx hb dX12_paint_54 rfl (lv_at hl 2 rfl) ?_
                                                                                                                                                              refine lv_imul hx hb dX12_paint_55 ?_
                                                                                                                                                              refine lz_top (y := 0) (by decide) ?_
                                                                                                                                                              refine lv_iload_n hx hb dX12_paint_56 rfl (lv_at hl 0 rfl) ?_
                                                                                                                                                              refine lv_iadd hx hb dX12_paint_57 ?_
                                                                                                                                                              refine lz_top (y := 35) (by decide) ?_
                                                                                                                                                              refine lv_iload_n hx hb dX12_paint_58 rfl (lv_at hl 0 rfl) ?_
                                                                                                                                                              refine lv_aload_n hx hb dX12_paint_59 rfl (lv_at hl 1 rfl) ?_
                                                                                                                                                              refine va_get (D := D) (ci := 12) (v := .int 0) (C := RX12) (T := TX12) (N := 24) hx hb hts hin12 hown hK hP 14 rfl rfl 0 (by decide) (hts (.fieldLink RX12 63 "MissedPointsModel" "many" "I") (by decide +kernel)) (fun _ h9 => h9) rfl dX12_paint_60 ?_
                                                                                                                                                              refine lv_icmp_ge (tgt := 75) hx hb dX12_paint_63 (by decide) (fun c402 => ?_) (fun c402 => ?_)
                                                                                                                                                              · refine lv_iconst (v := 0) hx hb dX12_paint_75 (by decide) ?_
                                                                                                                                                                refine lz_astc hx hb hK hP hD hS 9 0 rfl rfl (lz_vp (x := 35) (n := 160) (by decide) (by decide)) dX12_paint_76 (fun H locs hP hD hS => ?_)
                                                                                                                                                                refine lv_iinc (v := 36) (lv' := [(3, .int 36), (0, .ref h0), (1, .int 0), (2, .int x1)]) hx hb dX12_paint_77 hl (k := 0) rfl (by decide) (by decide) rfl (fun ls hl => ?_)
                                                                                                                                                                refine lv_goto (tgt := 42) hx hb dX12_paint_80 (by decide) ?_
                                                                                                                                                                refine lv_iload_n hx hb dX12_paint_42 rfl (lv_at hl 0 rfl) ?_
                                                                                                                                                                refine lv_bipush (v := 40) hx hb dX12_paint_43 (by decide) ?_
                                                                                                                                                                refine lv_icmp_ge (tgt := 83) hx hb dX12_paint_45 (by decide) (fun c403 => ?_) (fun c403 => ?_)
                                                                                                                                                                · exact absurd c403 (by decide)
                                                                                                                                                                · refine lv_aload_n hx hb dX12_paint_48 rfl (lv_at hl 1 rfl) ?_
                                                                                                                                                                  refine va_get (D := D) (ci := 12) (v := .ref h11) (C := RX12) (T := TX12) (N := 24) hx hb hts hin12 hown hK hP 14 rfl rfl 18 (by decide) (hts (.fieldLink RX12 44 "MissedPointsModel" "items" "[I") (by decide +kernel)) (fun _ h9 => h9) rfl dX12_paint_49 ?_
                                                                                                                                                                  refine lv_bipush (v := 40) hx hb dX12_paint_52 (by decide) ?_
                                                                                                                                                                  refine lv_iload_n hx hb dX12_paint_54 rfl (lv_at hl 2 rfl) ?_
                                                                                                                                                                  refine lv_imul hx hb dX12_paint_55 ?_
                                                                                                                                                                  refine lz_top (y := 0) (by decide) ?_
                                                                                                                                                                  refine lv_iload_n hx hb dX12_paint_56 rfl (lv_at hl 0 rfl) ?_
                                                                                                                                                                  refine lv_iadd hx hb dX12_paint_57 ?_
                                                                                                                                                                  refine lz_top (y := 36) (by decide) ?_
                                                                                                                                                                  refine lv_iload_n hx hb dX12_paint_58 rfl (lv_at hl 0 rfl) ?_
                                                                                                                                                                  refine lv_aload_n hx hb dX12_paint_59 rfl (lv_at hl 1 rfl) ?_
                                                                                                                                                                  refine va_get (D := D) (ci := 12) (v := .int 0) (C := RX12) (T := TX12) (N := 24) hx hb hts hin12 hown hK hP 14 rfl rfl 0 (by decide) (hts (.fieldLink RX12 63 "MissedPointsModel" "many" "I") (by decide +kernel)) (fun _ h9 => h9) rfl dX12_paint_60 ?_
                                                                                                                                                                  refine lv_icmp_ge (tgt := 75) hx hb dX12_paint_63 (by decide) (fun c404 => ?_) (fun c404 => ?_)
                                                                                                                                                                  · refine lv_iconst (v := 0) hx hb dX12_paint_75 (by decide) ?_
                                                                                                                                                                    refine lz_astc hx hb hK hP hD hS 9 0 rfl rfl (lz_vp (x := 36) (n := 160) (by decide) (by decide)) dX12_paint_76 (fun H locs hP hD hS => ?_)
                                                                                                                                                                    refine lv_iinc (v := 37) (lv' := [(3, .int 37), (0, .ref h0), (1, .int 0), (2, .int x1)]) hx hb dX12_paint_77 hl (k := 0) rfl (by decide) (by decide) rfl (fun ls hl => ?_)
                                                                                                                                                                    refine lv_goto (tgt := 42) hx hb dX12_paint_80 (by decide) ?_
                                                                                                                                                                    refine lv_iload_n hx hb dX12_paint_42 rfl (lv_at hl 0 rfl) ?_
                                                                                                                                                                    refine lv_bipush (v := 40) hx hb dX12_paint_43 (by decide) ?_
                                                                                                                                                                    refine lv_icmp_ge (tgt := 83) hx hb dX12_paint_45 (by decide) (fun c405 => ?_) (fun c405 => ?_)
                                                                                                                                                                    · exact absurd c405 (by decide)
                                                                                                                                                                    · refine lv_aload_n hx hb dX12_paint_48 rfl (lv_at hl 1 rfl) ?_
                                                                                                                                                                      refine va_get (D := D) (ci := 12) (v := .ref h11) (C := RX12) (T := TX12) (N := 24) hx hb hts hin12 hown hK hP 14 rfl rfl 18 (by decide) (hts (.fieldLink RX12 44 "MissedPointsModel" "items" "[I") (by decide +kernel)) (fun _ h9 => h9) rfl dX12_paint_49 ?_
                                                                                                                                                                      refine lv_bipush (v := 40) hx hb dX12_paint_52 (by decide) ?_
                                                                                                                                                                      refine lv_iload_n hx hb dX12_paint_54 rfl (lv_at hl 2 rfl) ?_
                                                                                                                                                                      refine lv_imul hx hb dX12_paint_55 ?_
                                                                                                                                                                      refine lz_top (y := 0) (by decide) ?_
                                                                                                                                                                      refine lv_iload_n hx hb dX12_paint_56 rfl (lv_at hl 0 rfl) ?_
                                                                                                                                                                      refine lv_iadd hx hb dX12_paint_57 ?_
                                                                                                                                                                      refine lz_top (y := 37) (by decide) ?_
                                                                                                                                                                      refine lv_iload_n hx hb dX12_paint_58 rfl (lv_at hl 0 rfl) ?_
                                                                                                                                                                      refine lv_aload_n hx hb dX12_paint_59 rfl (lv_at hl 1 rfl) ?_
                                                                                                                                                                      refine va_get (D := D) (ci := 12) (v := .int 0) (C := RX12) (T := TX12) (N := 24) hx hb hts hin12 hown hK hP 14 rfl rfl 0 (by decide) (hts (.fieldLink RX12 63 "MissedPointsModel" "many" "I") (by decide +kernel)) (fun _ h9 => h9) rfl dX12_paint_60 ?_
                                                                                                                                                                      refine lv_icmp_ge (tgt := 75) hx hb dX12_paint_63 (by decide) (fun c406 => ?_) (fun c406 => ?_)
                                                                                                                                                                      · refine lv_iconst (v := 0) hx hb dX12_paint_75 (by decide) ?_
                                                                                                                                                                        refine lz_astc hx hb hK hP hD hS 9 0 rfl rfl (lz_vp (x := 37) (n := 160) (by decide) (by decide)) dX12_paint_76 (fun H locs hP hD hS => ?_)
                                                                                                                                                                        refine lv_iinc (v := 38) (lv' := [(3, .int 38), (0, .ref h0), (1, .int 0), (2, .int x1)]) hx hb dX12_paint_77 hl (k := 0) rfl (by decide) (by decide) rfl (fun ls hl => ?_)
                                                                                                                                                                        refine lv_goto (tgt := 42) hx hb dX12_paint_80 (by decide) ?_
                                                                                                                                                                        refine lv_iload_n hx hb dX12_paint_42 rfl (lv_at hl 0 rfl) ?_
                                                                                                                                                                        refine lv_bipush (v := 40) hx hb dX12_paint_43 (by decide) ?_
                                                                                                                                                                        refine lv_icmp_ge (tgt := 83) hx hb dX12_paint_45 (by decide) (fun c407 => ?_) (fun c407 => ?_)
                                                                                                                                                                        · exact absurd c407 (by decide)
                                                                                                                                                                        · refine lv_aload_n hx hb dX12_paint_48 rfl (lv_at hl 1 rfl) ?_
                                                                                                                                                                          refine va_get (D := D) (ci := 12) (v := .ref h11) (C := RX12) (T := TX12) (N := 24) hx hb hts hin12 hown hK hP 14 rfl rfl 18 (by decide) (hts (.fieldLink RX12 44 "MissedPointsModel" "items" "[I") (by decide +kernel)) (fun _ h9 => h9) rfl dX12_paint_49 ?_
                                                                                                                                                                          refine lv_bipush (v := 40) hx hb dX12_paint_52 (by decide) ?_
                                                                                                                                                                          refine lv_iload_n hx hb dX12_paint_54 rfl (lv_at hl 2 rfl) ?_
                                                                                                                                                                          refine lv_imul hx hb dX12_paint_55 ?_
                                                                                                                                                                          refine lz_top (y := 0) (by decide) ?_
                                                                                                                                                                          refine lv_iload_n hx hb dX12_paint_56 rfl (lv_at hl 0 rfl) ?_
                                                                                                                                                                          refine lv_iadd hx hb dX12_paint_57 ?_
                                                                                                                                                                          refine lz_top (y := 38) (by decide) ?_
                                                                                                                                                                          refine lv_iload_n hx hb dX12_paint_58 rfl (lv_at hl 0 rfl) ?_
                                                                                                                                                                          refine lv_aload_n hx hb dX12_paint_59 rfl (lv_at hl 1 rfl) ?_
                                                                                                                                                                          refine va_get (D := D) (ci := 12) (v := .int 0) (C := RX12) (T := TX12) (N := 24) hx hb hts hin12 hown hK hP 14 rfl rfl 0 (by decide) (hts (.fieldLink RX12 63 "MissedPointsModel" "many" "I") (by decide +kernel)) (fun _ h9 => h9) rfl dX12_paint_60 ?_
                                                                                                                                                                          refine lv_icmp_ge (tgt := 75) hx hb dX12_paint_63 (by decide) (fun c408 => ?_) (fun c408 => ?_)
                                                                                                                                                                          · refine lv_iconst (v := 0) hx hb dX12_paint_75 (by decide) ?_
                                                                                                                                                                            refine lz_astc hx hb hK hP hD hS 9 0 rfl rfl (lz_vp (x := 38) (n := 160) (by decide) (by decide)) dX12_paint_76 (fun H locs hP hD hS => ?_)
                                                                                                                                                                            refine lv_iinc (v := 39) (lv' := [(3, .int 39), (0, .ref h0), (1, .int 0), (2, .int x1)]) hx hb dX12_paint_77 hl (k := 0) rfl (by decide) (by decide) rfl (fun ls hl => ?_)
                                                                                                                                                                            refine lv_goto (tgt := 42) hx hb dX12_paint_80 (by decide) ?_
                                                                                                                                                                            refine lv_iload_n hx hb dX12_paint_42 rfl (lv_at hl 0 rfl) ?_
                                                                                                                                                                            refine lv_bipush (v := 40) hx hb dX12_paint_43 (by decide) ?_
                                                                                                                                                                            refine lv_icmp_ge (tgt := 83) hx hb dX12_paint_45 (by decide) (fun c409 => ?_) (fun c409 => ?_)
                                                                                                                                                                            · exact absurd c409 (by decide)
                                                                                                                                                                            · refine lv_aload_n hx hb dX12_paint_48 rfl (lv_at hl 1 rfl) ?_
                                                                                                                                                                              refine va_get (D := D) (ci := 12) (v := .ref h11) (C := RX12) (T := TX12) (N := 24) hx hb hts hin12 hown hK hP 14 rfl rfl 18 (by decide) (hts (.fieldLink RX12 44 "MissedPointsModel" "items" "[I") (by decide +kernel)) (fun _ h9 => h9) rfl dX12_paint_49 ?_
                                                                                                                                                                              refine lv_bipush (v := 40) hx hb dX12_paint_52 (by decide) ?_
                                                                                                                                                                              refine lv_iload_n hx hb dX12_paint_54 rfl (lv_at hl 2 rfl) ?_
                                                                                                                                                                              refine lv_imul hx hb dX12_paint_55 ?_
                                                                                                                                                                              refine lz_top (y := 0) (by decide) ?_
                                                                                                                                                                              refine lv_iload_n hx hb dX12_paint_56 rfl (lv_at hl 0 rfl) ?_
                                                                                                                                                                              refine lv_iadd hx hb dX12_paint_57 ?_
                                                                                                                                                                              refine lz_top (y := 39) (by decide) ?_
                                                                                                                                                                              refine lv_iload_n hx hb dX12_paint_58 rfl (lv_at hl 0 rfl) ?_
                                                                                                                                                                              refine lv_aload_n hx hb dX12_paint_59 rfl (lv_at hl 1 rfl) ?_
                                                                                                                                                                              refine va_get (D := D) (ci := 12) (v := .int 0) (C := RX12) (T := TX12) (N := 24) hx hb hts hin12 hown hK hP 14 rfl rfl 0 (by decide) (hts (.fieldLink RX12 63 "MissedPointsModel" "many" "I") (by decide +kernel)) (fun _ h9 => h9) rfl dX12_paint_60 ?_
                                                                                                                                                                              refine lv_icmp_ge (tgt := 75) hx hb dX12_paint_63 (by decide) (fun c410 => ?_) (fun c410 => ?_)
                                                                                                                                                                              · refine lv_iconst (v := 0) hx hb dX12_paint_75 (by decide) ?_
                                                                                                                                                                                refine lz_astc hx hb hK hP hD hS 9 0 rfl rfl (lz_vp (x := 39) (n := 160) (by decide) (by decide)) dX12_paint_76 (fun H locs hP hD hS => ?_)
                                                                                                                                                                                refine lv_iinc (v := 40) (lv' := [(3, .int 40), (0, .ref h0), (1, .int 0), (2, .int x1)]) hx hb dX12_paint_77 hl (k := 0) rfl (by decide) (by decide) rfl (fun ls hl => ?_)
                                                                                                                                                                                refine lv_goto (tgt := 42) hx hb dX12_paint_80 (by decide) ?_
                                                                                                                                                                                refine lv_iload_n hx hb dX12_paint_42 rfl (lv_at hl 0 rfl) ?_
                                                                                                                                                                                refine lv_bipush (v := 40) hx hb dX12_paint_43 (by decide) ?_
                                                                                                                                                                                refine lv_icmp_ge (tgt := 83) hx hb dX12_paint_45 (by decide) (fun c411 => ?_) (fun c411 => ?_)
                                                                                                                                                                                · refine lv_aload_n hx hb dX12_paint_83 rfl (lv_at hl 1 rfl) ?_
                                                                                                                                                                                  refine va_get (D := D) (ci := 12) (v := .int 0) (C := RX12) (T := TX12) (N := 24) hx hb hts hin12 hown hK hP 14 rfl rfl 0 (by decide) (hts (.fieldLink RX12 63 "MissedPointsModel" "many" "I") (by decide +kernel)) (fun _ h9 => h9) rfl dX12_paint_84 ?_
                                                                                                                                                                                  have hP9 := hP.sub (ws' := []) [] rfl
                                                                                                                                                                                  have hD9 := hD.sub (ws' := []) [] (by decide) rfl
                                                                                                                                                                                  subst hAe
                                                                                                                                                                                  exact W.iret (v := 0) hx hb hr (fun t ht hW => ⟨⟨_, (), rfl, by rw [if_neg k315, if_neg k317, if_neg k321, if_neg k323], by rw [ht]; exact hP9, hD9⟩, hS.F ht⟩) hS.2.2 dX12_paint_87
                                                                                                                                                                                · exact absurd c411 (by decide)
                                                                                                                                                                              · exact absurd c410 (by decide)
                                                                                                                                                                          · exact absurd c408 (by decide)
                                                                                                                                                                      · exact absurd c406 (by decide)
                                                                                                                                                                  · exact absurd c404 (by decide)
                                                                                                                                                              · exact absurd c402 (by decide)
                                                                                                                                                          · exact absurd c400 (by decide)
                                                                                                                                                      · exact absurd c398 (by decide)
                                                                                                                                                  · exact absurd c396 (by decide)
                                                                                                                                              · exact absurd c394 (by decide)
                                                                                                                                          · exact absurd c392 (by decide)
                                                                                                                                      · exact absurd c390 (by decide)
                                                                                                                                  · exact absurd c388 (by decide)
                                                                                                                              · exact absurd c386 (by decide)
                                                                                                                          · exact absurd c384 (by decide)
                                                                                                                      · exact absurd c382 (by decide)
                                                                                                                  · exact absurd c380 (by decide)
                                                                                                              · exact absurd c378 (by decide)
                                                                                                          · exact absurd c376 (by decide)
                                                                                                      · exact absurd c374 (by decide)
                                                                                                  · exact absurd c372 (by decide)
                                                                                              · exact absurd c370 (by decide)
                                                                                          · exact absurd c368 (by decide)
                                                                                      · exact absurd c366 (by decide)
                                                                                  · exact absurd c364 (by decide)
                                                                              · exact absurd c362 (by decide)
                                                                          · exact absurd c360 (by decide)
                                                                      · exact absurd c358 (by decide)
                                                                  · exact absurd c356 (by decide)
                                                              · exact absurd c354 (by decide)
                                                          · exact absurd c352 (by decide)
                                                      · exact absurd c350 (by decide)
                                                  · exact absurd c348 (by decide)
                                              · exact absurd c346 (by decide)
                                          · exact absurd c344 (by decide)
                                      · exact absurd c342 (by decide)
                                  · exact absurd c340 (by decide)
                              · exact absurd c338 (by decide)
                          · exact absurd c336 (by decide)
                      · exact absurd c334 (by decide)
                  · exact absurd c332 (by decide)
              · by_cases k412 : x0 = 1
                · subst k412
                  refine va_iast hx hb hK hP hD hS 7 0 rfl rfl (lz_vp (x := 1) (n := 4) (by decide) (by decide)) dX12_paint_29 (fun H locs hP hD hS => ?_)
                  have hP : va_P D cls [(h1, .inl (cI, 12, .inl (fun _ => 0))), (h2, .inl (cI, 4096, .inl (fun _ => 0))), (h4, .inl (cI, 28672, .inl (fun _ => 0))), (h5, .inl (cI, 12, .inl (fun _ => 0))), (h6, .inl (cI, 12, .inl (fun _ => 0))), (h7, .inl (cI, 12, .inl (fun _ => 0))), (h8, .inl (cI, 120, .inl (fun _ => 0))), (h9, .inl (cI, 4, .inl (upd (fun _ => -1) 1 x1))), (h10, .inl (cI, 4, .inl (fun _ => 0))), (h11, .inl (cI, 160, .inl (fun _ => 0))), (h12, .inl (cI, 4, .inl (fun _ => -1))), (h13, .inl (cI, 4, .inl (fun _ => 0))), (h14, .inl (cI, 4, .inl (fun _ => 0))), (h15, .inl (cI, 28, .inl (fun _ => 0))), (h0, .inr (12, [.int 0, .int 1, .ref h1, .ref h2, .ref h3, .ref h4, .ref h5, .ref h6, .ref h7, .ref h8, .int 0, .int 0, .int 0, .int 0, .int 0, .int 0, .ref h9, .ref h10, .ref h11, .ref h12, .ref h13, .ref h14, .ref h15, .int 0])), (h3, .inl (cI, 4096, .inl (upd (fun _ => 0) 0 1)))] H := hP
                  have hD : va_D A [(h1, .inl (cI, 12, .inl (fun _ => 0))), (h2, .inl (cI, 4096, .inl (fun _ => 0))), (h4, .inl (cI, 28672, .inl (fun _ => 0))), (h5, .inl (cI, 12, .inl (fun _ => 0))), (h6, .inl (cI, 12, .inl (fun _ => 0))), (h7, .inl (cI, 12, .inl (fun _ => 0))), (h8, .inl (cI, 120, .inl (fun _ => 0))), (h9, .inl (cI, 4, .inl (upd (fun _ => -1) 1 x1))), (h10, .inl (cI, 4, .inl (fun _ => 0))), (h11, .inl (cI, 160, .inl (fun _ => 0))), (h12, .inl (cI, 4, .inl (fun _ => -1))), (h13, .inl (cI, 4, .inl (fun _ => 0))), (h14, .inl (cI, 4, .inl (fun _ => 0))), (h15, .inl (cI, 28, .inl (fun _ => 0))), (h0, .inr (12, [.int 0, .int 1, .ref h1, .ref h2, .ref h3, .ref h4, .ref h5, .ref h6, .ref h7, .ref h8, .int 0, .int 0, .int 0, .int 0, .int 0, .int 0, .ref h9, .ref h10, .ref h11, .ref h12, .ref h13, .ref h14, .ref h15, .int 0])), (h3, .inl (cI, 4096, .inl (upd (fun _ => 0) 0 1)))] := hD
                  refine lv_aload_n hx hb dX12_paint_30 rfl (lv_at hl 0 rfl) ?_
                  refine va_get (D := D) (ci := 12) (v := .ref h10) (C := RX12) (T := TX12) (N := 24) hx hb hts hin12 hown hK hP 14 rfl rfl 17 (by decide) (hts (.fieldLink RX12 41 "MissedPointsModel" "size" "[I") (by decide +kernel)) (fun _ h9 => h9) rfl dX12_paint_31 ?_
                  refine lv_iload_n hx hb dX12_paint_34 rfl (lv_at hl 1 rfl) ?_
                  refine lv_aload_n hx hb dX12_paint_35 rfl (lv_at hl 0 rfl) ?_
                  refine va_get (D := D) (ci := 12) (v := .int 0) (C := RX12) (T := TX12) (N := 24) hx hb hts hin12 hown hK hP 14 rfl rfl 0 (by decide) (hts (.fieldLink RX12 63 "MissedPointsModel" "many" "I") (by decide +kernel)) (fun _ h9 => h9) rfl dX12_paint_36 ?_
                  refine lz_astc hx hb hK hP hD hS 8 0 rfl rfl (lz_vp (x := 1) (n := 4) (by decide) (by decide)) dX12_paint_39 (fun H locs hP hD hS => ?_)
                  refine lv_iconst (v := 0) hx hb dX12_paint_40 (by decide) ?_
                  refine lv_istore_n (lv' := [(3, .int 0), (0, .ref h0), (1, .int 1), (2, .int x1)]) hx hb dX12_paint_41 rfl hl (by decide) rfl (fun ls hl => ?_)
                  refine lv_iload_n hx hb dX12_paint_42 rfl (lv_at hl 0 rfl) ?_
                  refine lv_bipush (v := 40) hx hb dX12_paint_43 (by decide) ?_
                  refine lv_icmp_ge (tgt := 83) hx hb dX12_paint_45 (by decide) (fun c413 => ?_) (fun c413 => ?_)
                  · exact absurd c413 (by decide)
                  · refine lv_aload_n hx hb dX12_paint_48 rfl (lv_at hl 1 rfl) ?_
                    refine va_get (D := D) (ci := 12) (v := .ref h11) (C := RX12) (T := TX12) (N := 24) hx hb hts hin12 hown hK hP 14 rfl rfl 18 (by decide) (hts (.fieldLink RX12 44 "MissedPointsModel" "items" "[I") (by decide +kernel)) (fun _ h9 => h9) rfl dX12_paint_49 ?_
                    refine lv_bipush (v := 40) hx hb dX12_paint_52 (by decide) ?_
                    refine lv_iload_n hx hb dX12_paint_54 rfl (lv_at hl 2 rfl) ?_
                    refine lv_imul hx hb dX12_paint_55 ?_
                    refine lz_top (y := 40) (by decide) ?_
                    refine lv_iload_n hx hb dX12_paint_56 rfl (lv_at hl 0 rfl) ?_
                    refine lv_iadd hx hb dX12_paint_57 ?_
                    refine lz_top (y := 40) (by decide) ?_
                    refine lv_iload_n hx hb dX12_paint_58 rfl (lv_at hl 0 rfl) ?_
                    refine lv_aload_n hx hb dX12_paint_59 rfl (lv_at hl 1 rfl) ?_
                    refine va_get (D := D) (ci := 12) (v := .int 0) (C := RX12) (T := TX12) (N := 24) hx hb hts hin12 hown hK hP 14 rfl rfl 0 (by decide) (hts (.fieldLink RX12 63 "MissedPointsModel" "many" "I") (by decide +kernel)) (fun _ h9 => h9) rfl dX12_paint_60 ?_
                    refine lv_icmp_ge (tgt := 75) hx hb dX12_paint_63 (by decide) (fun c414 => ?_) (fun c414 => ?_)
                    · refine lv_iconst (v := 0) hx hb dX12_paint_75 (by decide) ?_
                      refine lz_astc hx hb hK hP hD hS 9 0 rfl rfl (lz_vp (x := 40) (n := 160) (by decide) (by decide)) dX12_paint_76 (fun H locs hP hD hS => ?_)
                      refine lv_iinc (v := 1) (lv' := [(3, .int 1), (0, .ref h0), (1, .int 1), (2, .int x1)]) hx hb dX12_paint_77 hl (k := 0) rfl (by decide) (by decide) rfl (fun ls hl => ?_)
                      refine lv_goto (tgt := 42) hx hb dX12_paint_80 (by decide) ?_
                      refine lv_iload_n hx hb dX12_paint_42 rfl (lv_at hl 0 rfl) ?_
                      refine lv_bipush (v := 40) hx hb dX12_paint_43 (by decide) ?_
                      refine lv_icmp_ge (tgt := 83) hx hb dX12_paint_45 (by decide) (fun c415 => ?_) (fun c415 => ?_)
                      · exact absurd c415 (by decide)
                      · refine lv_aload_n hx hb dX12_paint_48 rfl (lv_at hl 1 rfl) ?_
                        refine va_get (D := D) (ci := 12) (v := .ref h11) (C := RX12) (T := TX12) (N := 24) hx hb hts hin12 hown hK hP 14 rfl rfl 18 (by decide) (hts (.fieldLink RX12 44 "MissedPointsModel" "items" "[I") (by decide +kernel)) (fun _ h9 => h9) rfl dX12_paint_49 ?_
                        refine lv_bipush (v := 40) hx hb dX12_paint_52 (by decide) ?_
                        refine lv_iload_n hx hb dX12_paint_54 rfl (lv_at hl 2 rfl) ?_
                        refine lv_imul hx hb dX12_paint_55 ?_
                        refine lz_top (y := 40) (by decide) ?_
                        refine lv_iload_n hx hb dX12_paint_56 rfl (lv_at hl 0 rfl) ?_
                        refine lv_iadd hx hb dX12_paint_57 ?_
                        refine lz_top (y := 41) (by decide) ?_
                        refine lv_iload_n hx hb dX12_paint_58 rfl (lv_at hl 0 rfl) ?_
                        refine lv_aload_n hx hb dX12_paint_59 rfl (lv_at hl 1 rfl) ?_
                        refine va_get (D := D) (ci := 12) (v := .int 0) (C := RX12) (T := TX12) (N := 24) hx hb hts hin12 hown hK hP 14 rfl rfl 0 (by decide) (hts (.fieldLink RX12 63 "MissedPointsModel" "many" "I") (by decide +kernel)) (fun _ h9 => h9) rfl dX12_paint_60 ?_
                        refine lv_icmp_ge (tgt := 75) hx hb dX12_paint_63 (by decide) (fun c416 => ?_) (fun c416 => ?_)
                        · refine lv_iconst (v := 0) hx hb dX12_paint_75 (by decide) ?_
                          refine lz_astc hx hb hK hP hD hS 9 0 rfl rfl (lz_vp (x := 41) (n := 160) (by decide) (by decide)) dX12_paint_76 (fun H locs hP hD hS => ?_)
                          refine lv_iinc (v := 2) (lv' := [(3, .int 2), (0, .ref h0), (1, .int 1), (2, .int x1)]) hx hb dX12_paint_77 hl (k := 0) rfl (by decide) (by decide) rfl (fun ls hl => ?_)
                          refine lv_goto (tgt := 42) hx hb dX12_paint_80 (by decide) ?_
                          refine lv_iload_n hx hb dX12_paint_42 rfl (lv_at hl 0 rfl) ?_
                          refine lv_bipush (v := 40) hx hb dX12_paint_43 (by decide) ?_
                          refine lv_icmp_ge (tgt := 83) hx hb dX12_paint_45 (by decide) (fun c417 => ?_) (fun c417 => ?_)
                          · exact absurd c417 (by decide)
                          · refine lv_aload_n hx hb dX12_paint_48 rfl (lv_at hl 1 rfl) ?_
                            refine va_get (D := D) (ci := 12) (v := .ref h11) (C := RX12) (T := TX12) (N := 24) hx hb hts hin12 hown hK hP 14 rfl rfl 18 (by decide) (hts (.fieldLink RX12 44 "MissedPointsModel" "items" "[I") (by decide +kernel)) (fun _ h9 => h9) rfl dX12_paint_49 ?_
                            refine lv_bipush (v := 40) hx hb dX12_paint_52 (by decide) ?_
                            refine lv_iload_n hx hb dX12_paint_54 rfl (lv_at hl 2 rfl) ?_
                            refine lv_imul hx hb dX12_paint_55 ?_
                            refine lz_top (y := 40) (by decide) ?_
                            refine lv_iload_n hx hb dX12_paint_56 rfl (lv_at hl 0 rfl) ?_
                            refine lv_iadd hx hb dX12_paint_57 ?_
                            refine lz_top (y := 42) (by decide) ?_
                            refine lv_iload_n hx hb dX12_paint_58 rfl (lv_at hl 0 rfl) ?_
                            refine lv_aload_n hx hb dX12_paint_59 rfl (lv_at hl 1 rfl) ?_
                            refine va_get (D := D) (ci := 12) (v := .int 0) (C := RX12) (T := TX12) (N := 24) hx hb hts hin12 hown hK hP 14 rfl rfl 0 (by decide) (hts (.fieldLink RX12 63 "MissedPointsModel" "many" "I") (by decide +kernel)) (fun _ h9 => h9) rfl dX12_paint_60 ?_
                            refine lv_icmp_ge (tgt := 75) hx hb dX12_paint_63 (by decide) (fun c418 => ?_) (fun c418 => ?_)
                            · refine lv_iconst (v := 0) hx hb dX12_paint_75 (by decide) ?_
                              refine lz_astc hx hb hK hP hD hS 9 0 rfl rfl (lz_vp (x := 42) (n := 160) (by decide) (by decide)) dX12_paint_76 (fun H locs hP hD hS => ?_)
                              refine lv_iinc (v := 3) (lv' := [(3, .int 3), (0, .ref h0), (1, .int 1), (2, .int x1)]) hx hb dX12_paint_77 hl (k := 0) rfl (by decide) (by decide) rfl (fun ls hl => ?_)
                              refine lv_goto (tgt := 42) hx hb dX12_paint_80 (by decide) ?_
                              refine lv_iload_n hx hb dX12_paint_42 rfl (lv_at hl 0 rfl) ?_
                              refine lv_bipush (v := 40) hx hb dX12_paint_43 (by decide) ?_
                              refine lv_icmp_ge (tgt := 83) hx hb dX12_paint_45 (by decide) (fun c419 => ?_) (fun c419 => ?_)
                              · exact absurd c419 (by decide)
                              · refine lv_aload_n hx hb dX12_paint_48 rfl (lv_at hl 1 rfl) ?_
                                refine va_get (D := D) (ci := 12) (v := .ref h11) (C := RX12) (T := TX12) (N := 24) hx hb hts hin12 hown hK hP 14 rfl rfl 18 (by decide) (hts (.fieldLink RX12 44 "MissedPointsModel" "items" "[I") (by decide +kernel)) (fun _ h9 => h9) rfl dX12_paint_49 ?_
                                refine lv_bipush (v := 40) hx hb dX12_paint_52 (by decide) ?_
                                refine lv_iload_n hx hb dX12_paint_54 rfl (lv_at hl 2 rfl) ?_
                                refine lv_imul hx hb dX12_paint_55 ?_
                                refine lz_top (y := 40) (by decide) ?_
                                refine lv_iload_n hx hb dX12_paint_56 rfl (lv_at hl 0 rfl) ?_
                                refine lv_iadd hx hb dX12_paint_57 ?_
                                refine lz_top (y := 43) (by decide) ?_
                                refine lv_iload_n hx hb dX12_paint_58 rfl (lv_at hl 0 rfl) ?_
                                refine lv_aload_n hx hb dX12_paint_59 rfl (lv_at hl 1 rfl) ?_
                                refine va_get (D := D) (ci := 12) (v := .int 0) (C := RX12) (T := TX12) (N := 24) hx hb hts hin12 hown hK hP 14 rfl rfl 0 (by decide) (hts (.fieldLink RX12 63 "MissedPointsModel" "many" "I") (by decide +kernel)) (fun _ h9 => h9) rfl dX12_paint_60 ?_
                                refine lv_icmp_ge (tgt := 75) hx hb dX12_paint_63 (by decide) (fun c420 => ?_) (fun c420 => ?_)
                                · refine lv_iconst (v := 0) hx hb dX12_paint_75 (by decide) ?_
                                  refine lz_astc hx hb hK hP hD hS 9 0 rfl rfl (lz_vp (x := 43) (n := 160) (by decide) (by decide)) dX12_paint_76 (fun H locs hP hD hS => ?_)
                                  refine lv_iinc (v := 4) (lv' := [(3, .int 4), (0, .ref h0), (1, .int 1), (2, .int x1)]) hx hb dX12_paint_77 hl (k := 0) rfl (by decide) (by decide) rfl (fun ls hl => ?_)
                                  refine lv_goto (tgt := 42) hx hb dX12_paint_80 (by decide) ?_
                                  refine lv_iload_n hx hb dX12_paint_42 rfl (lv_at hl 0 rfl) ?_
                                  refine lv_bipush (v := 40) hx hb dX12_paint_43 (by decide) ?_
                                  refine lv_icmp_ge (tgt := 83) hx hb dX12_paint_45 (by decide) (fun c421 => ?_) (fun c421 => ?_)
                                  · exact absurd c421 (by decide)
                                  · refine lv_aload_n hx hb dX12_paint_48 rfl (lv_at hl 1 rfl) ?_
                                    refine va_get (D := D) (ci := 12) (v := .ref h11) (C := RX12) (T := TX12) (N := 24) hx hb hts hin12 hown hK hP 14 rfl rfl 18 (by decide) (hts (.fieldLink RX12 44 "MissedPointsModel" "items" "[I") (by decide +kernel)) (fun _ h9 => h9) rfl dX12_paint_49 ?_
                                    refine lv_bipush (v := 40) hx hb dX12_paint_52 (by decide) ?_
                                    refine lv_iload_n hx hb dX12_paint_54 rfl (lv_at hl 2 rfl) ?_
                                    refine lv_imul hx hb dX12_paint_55 ?_
                                    refine lz_top (y := 40) (by decide) ?_
                                    refine lv_iload_n hx hb dX12_paint_56 rfl (lv_at hl 0 rfl) ?_
                                    refine lv_iadd hx hb dX12_paint_57 ?_
                                    refine lz_top (y := 44) (by decide) ?_
                                    refine lv_iload_n hx hb dX12_paint_58 rfl (lv_at hl 0 rfl) ?_
                                    refine lv_aload_n hx hb dX12_paint_59 rfl (lv_at hl 1 rfl) ?_
                                    refine va_get (D := D) (ci := 12) (v := .int 0) (C := RX12) (T := TX12) (N := 24) hx hb hts hin12 hown hK hP 14 rfl rfl 0 (by decide) (hts (.fieldLink RX12 63 "MissedPointsModel" "many" "I") (by decide +kernel)) (fun _ h9 => h9) rfl dX12_paint_60 ?_
                                    refine lv_icmp_ge (tgt := 75) hx hb dX12_paint_63 (by decide) (fun c422 => ?_) (fun c422 => ?_)
                                    · refine lv_iconst (v := 0) hx hb dX12_paint_75 (by decide) ?_
                                      refine lz_astc hx hb hK hP hD hS 9 0 rfl rfl (lz_vp (x := 44) (n := 160) (by decide) (by decide)) dX12_paint_76 (fun H locs hP hD hS => ?_)
                                      refine lv_iinc (v := 5) (lv' := [(3, .int 5), (0, .ref h0), (1, .int 1), (2, .int x1)]) hx hb dX12_paint_77 hl (k := 0) rfl (by decide) (by decide) rfl (fun ls hl => ?_)
                                      refine lv_goto (tgt := 42) hx hb dX12_paint_80 (by decide) ?_
                                      refine lv_iload_n hx hb dX12_paint_42 rfl (lv_at hl 0 rfl) ?_
                                      refine lv_bipush (v := 40) hx hb dX12_paint_43 (by decide) ?_
                                      refine lv_icmp_ge (tgt := 83) hx hb dX12_paint_45 (by decide) (fun c423 => ?_) (fun c423 => ?_)
                                      · exact absurd c423 (by decide)
                                      · refine lv_aload_n hx hb dX12_paint_48 rfl (lv_at hl 1 rfl) ?_
                                        refine va_get (D := D) (ci := 12) (v := .ref h11) (C := RX12) (T := TX12) (N := 24) hx hb hts hin12 hown hK hP 14 rfl rfl 18 (by decide) (hts (.fieldLink RX12 44 "MissedPointsModel" "items" "[I") (by decide +kernel)) (fun _ h9 => h9) rfl dX12_paint_49 ?_
                                        refine lv_bipush (v := 40) hx hb dX12_paint_52 (by decide) ?_
                                        refine lv_iload_n hx hb dX12_paint_54 rfl (lv_at hl 2 rfl) ?_
                                        refine lv_imul hx hb dX12_paint_55 ?_
                                        refine lz_top (y := 40) (by decide) ?_
                                        refine lv_iload_n hx hb dX12_paint_56 rfl (lv_at hl 0 rfl) ?_
                                        refine lv_iadd hx hb dX12_paint_57 ?_
                                        refine lz_top (y := 45) (by decide) ?_
                                        refine lv_iload_n hx hb dX12_paint_58 rfl (lv_at hl 0 rfl) ?_
                                        refine lv_aload_n hx hb dX12_paint_59 rfl (lv_at hl 1 rfl) ?_
                                        refine va_get (D := D) (ci := 12) (v := .int 0) (C := RX12) (T := TX12) (N := 24) hx hb hts hin12 hown hK hP 14 rfl rfl 0 (by decide) (hts (.fieldLink RX12 63 "MissedPointsModel" "many" "I") (by decide +kernel)) (fun _ h9 => h9) rfl dX12_paint_60 ?_
                                        refine lv_icmp_ge (tgt := 75) hx hb dX12_paint_63 (by decide) (fun c424 => ?_) (fun c424 => ?_)
                                        · refine lv_iconst (v := 0) hx hb dX12_paint_75 (by decide) ?_
                                          refine lz_astc hx hb hK hP hD hS 9 0 rfl rfl (lz_vp (x := 45) (n := 160) (by decide) (by decide)) dX12_paint_76 (fun H locs hP hD hS => ?_)
                                          refine lv_iinc (v := 6) (lv' := [(3, .int 6), (0, .ref h0), (1, .int 1), (2, .int x1)]) hx hb dX12_paint_77 hl (k := 0) rfl (by decide) (by decide) rfl (fun ls hl => ?_)
                                          refine lv_goto (tgt := 42) hx hb dX12_paint_80 (by decide) ?_
                                          refine lv_iload_n hx hb dX12_paint_42 rfl (lv_at hl 0 rfl) ?_
                                          refine lv_bipush (v := 40) hx hb dX12_paint_43 (by decide) ?_
                                          refine lv_icmp_ge (tgt := 83) hx hb dX12_paint_45 (by decide) (fun c425 => ?_) (fun c425 => ?_)
                                          · exact absurd c425 (by decide)
                                          · refine lv_aload_n hx hb dX12_paint_48 rfl (lv_at hl 1 rfl) ?_
                                            refine va_get (D := D) (ci := 12) (v := .ref h11) (C := RX12) (T := TX12) (N := 24) hx hb hts hin12 hown hK hP 14 rfl rfl 18 (by decide) (hts (.fieldLink RX12 44 "MissedPointsModel" "items" "[I") (by decide +kernel)) (fun _ h9 => h9) rfl dX12_paint_49 ?_
                                            refine lv_bipush (v := 40) hx hb dX12_paint_52 (by decide) ?_
                                            refine lv_iload_n hx hb dX12_paint_54 rfl (lv_at hl 2 rfl) ?_
                                            refine lv_imul hx hb dX12_paint_55 ?_
                                            refine lz_top (y := 40) (by decide) ?_
                                            refine lv_iload_n hx hb dX12_paint_56 rfl (lv_at hl 0 rfl) ?_
                                            refine lv_iadd hx hb dX12_paint_57 ?_
                                            refine lz_top (y := 46) (by decide) ?_
                                            refine lv_iload_n hx hb dX12_paint_58 rfl (lv_at hl 0 rfl) ?_
                                            refine lv_aload_n hx hb dX12_paint_59 rfl (lv_at hl 1 rfl) ?_
                                            refine va_get (D := D) (ci := 12) (v := .int 0) (C := RX12) (T := TX12) (N := 24) hx hb hts hin12 hown hK hP 14 rfl rfl 0 (by decide) (hts (.fieldLink RX12 63 "MissedPointsModel" "many" "I") (by decide +kernel)) (fun _ h9 => h9) rfl dX12_paint_60 ?_
                                            refine lv_icmp_ge (tgt := 75) hx hb dX12_paint_63 (by decide) (fun c426 => ?_) (fun c426 => ?_)
                                            · refine lv_iconst (v := 0) hx hb dX12_paint_75 (by decide) ?_
                                              refine lz_astc hx hb hK hP hD hS 9 0 rfl rfl (lz_vp (x := 46) (n := 160) (by decide) (by decide)) dX12_paint_76 (fun H locs hP hD hS => ?_)
                                              refine lv_iinc (v := 7) (lv' := [(3, .int 7), (0, .ref h0), (1, .int 1), (2, .int x1)]) hx hb dX12_paint_77 hl (k := 0) rfl (by decide) (by decide) rfl (fun ls hl => ?_)
                                              refine lv_goto (tgt := 42) hx hb dX12_paint_80 (by decide) ?_
                                              refine lv_iload_n hx hb dX12_paint_42 rfl (lv_at hl 0 rfl) ?_
                                              refine lv_bipush (v := 40) hx hb dX12_paint_43 (by decide) ?_
                                              refine lv_icmp_ge (tgt := 83) hx hb dX12_paint_45 (by decide) (fun c427 => ?_) (fun c427 => ?_)
                                              · exact absurd c427 (by decide)
                                              · refine lv_aload_n hx hb dX12_paint_48 rfl (lv_at hl 1 rfl) ?_
                                                refine va_get (D := D) (ci := 12) (v := .ref h11) (C := RX12) (T := TX12) (N := 24) hx hb hts hin12 hown hK hP 14 rfl rfl 18 (by decide) (hts (.fieldLink RX12 44 "MissedPointsModel" "items" "[I") (by decide +kernel)) (fun _ h9 => h9) rfl dX12_paint_49 ?_
                                                refine lv_bipush (v := 40) hx hb dX12_paint_52 (by decide) ?_
                                                refine lv_iload_n hx hb dX12_paint_54 rfl (lv_at hl 2 rfl) ?_
                                                refine lv_imul hx hb dX12_paint_55 ?_
                                                refine lz_top (y := 40) (by decide) ?_
                                                refine lv_iload_n hx hb dX12_paint_56 rfl (lv_at hl 0 rfl) ?_
                                                refine lv_iadd hx hb dX12_paint_57 ?_
                                                refine lz_top (y := 47) (by decide) ?_
                                                refine lv_iload_n hx hb dX12_paint_58 rfl (lv_at hl 0 rfl) ?_
                                                refine lv_aload_n hx hb dX12_paint_59 rfl (lv_at hl 1 rfl) ?_
                                                refine va_get (D := D) (ci := 12) (v := .int 0) (C := RX12) (T := TX12) (N := 24) hx hb hts hin12 hown hK hP 14 rfl rfl 0 (by decide) (hts (.fieldLink RX12 63 "MissedPointsModel" "many" "I") (by decide +kernel)) (fun _ h9 => h9) rfl dX12_paint_60 ?_
                                                refine lv_icmp_ge (tgt := 75) hx hb dX12_paint_63 (by decide) (fun c428 => ?_) (fun c428 => ?_)
                                                · refine lv_iconst (v := 0) hx hb dX12_paint_75 (by decide) ?_
                                                  refine lz_astc hx hb hK hP hD hS 9 0 rfl rfl (lz_vp (x := 47) (n := 160) (by decide) (by decide)) dX12_paint_76 (fun H locs hP hD hS => ?_)
                                                  refine lv_iinc (v := 8) (lv' := [(3, .int 8), (0, .ref h0), (1, .int 1), (2, .int x1)]) hx hb dX12_paint_77 hl (k := 0) rfl (by decide) (by decide) rfl (fun ls hl => ?_)
                                                  refine lv_goto (tgt := 42) hx hb dX12_paint_80 (by decide) ?_
                                                  refine lv_iload_n hx hb dX12_paint_42 rfl (lv_at hl 0 rfl) ?_
                                                  refine lv_bipush (v := 40) hx hb dX12_paint_43 (by decide) ?_
                                                  refine lv_icmp_ge (tgt := 83) hx hb dX12_paint_45 (by decide) (fun c429 => ?_) (fun c429 => ?_)
                                                  · exact absurd c429 (by decide)
                                                  · refine lv_aload_n hx hb dX12_paint_48 rfl (lv_at hl 1 rfl) ?_
                                                    refine va_get (D := D) (ci := 12) (v := .ref h11) (C := RX12) (T := TX12) (N := 24) hx hb hts hin12 hown hK hP 14 rfl rfl 18 (by decide) (hts (.fieldLink RX12 44 "MissedPointsModel" "items" "[I") (by decide +kernel)) (fun _ h9 => h9) rfl dX12_paint_49 ?_
                                                    refine lv_bipush (v := 40) hx hb dX12_paint_52 (by decide) ?_
                                                    refine lv_iload_n hx hb dX12_paint_54 rfl (lv_at hl 2 rfl) ?_
                                                    refine lv_imul hx hb dX12_paint_55 ?_
                                                    refine lz_top (y := 40) (by decide) ?_
                                                    refine lv_iload_n hx hb dX12_paint_56 rfl (lv_at hl 0 rfl) ?_
                                                    refine lv_iadd hx hb dX12_paint_57 ?_
                                                    refine lz_top (y := 48) (by decide) ?_
                                                    refine lv_iload_n hx hb dX12_paint_58 rfl (lv_at hl 0 rfl) ?_
                                                    refine lv_aload_n hx hb dX12_paint_59 rfl (lv_at hl 1 rfl) ?_
                                                    refine va_get (D := D) (ci := 12) (v := .int 0) (C := RX12) (T := TX12) (N := 24) hx hb hts hin12 hown hK hP 14 rfl rfl 0 (by decide) (hts (.fieldLink RX12 63 "MissedPointsModel" "many" "I") (by decide +kernel)) (fun _ h9 => h9) rfl dX12_paint_60 ?_
                                                    refine lv_icmp_ge (tgt := 75) hx hb dX12_paint_63 (by decide) (fun c430 => ?_) (fun c430 => ?_)
                                                    · refine lv_iconst (v := 0) hx hb dX12_paint_75 (by decide) ?_
                                                      refine lz_astc hx hb hK hP hD hS 9 0 rfl rfl (lz_vp (x := 48) (n := 160) (by decide) (by decide)) dX12_paint_76 (fun H locs hP hD hS => ?_)
                                                      refine lv_iinc (v := 9) (lv' := [(3, .int 9), (0, .ref h0), (1, .int 1), (2, .int x1)]) hx hb dX12_paint_77 hl (k := 0) rfl (by decide) (by decide) rfl (fun ls hl => ?_)
                                                      refine lv_goto (tgt := 42) hx hb dX12_paint_80 (by decide) ?_
                                                      refine lv_iload_n hx hb dX12_paint_42 rfl (lv_at hl 0 rfl) ?_
                                                      refine lv_bipush (v := 40) hx hb dX12_paint_43 (by decide) ?_
                                                      refine lv_icmp_ge (tgt := 83) hx hb dX12_paint_45 (by decide) (fun c431 => ?_) (fun c431 => ?_)
                                                      · exact absurd c431 (by decide)
                                                      · refine lv_aload_n hx hb dX12_paint_48 rfl (lv_at hl 1 rfl) ?_
                                                        refine va_get (D := D) (ci := 12) (v := .ref h11) (C := RX12) (T := TX12) (N := 24) hx hb hts hin12 hown hK hP 14 rfl rfl 18 (by decide) (hts (.fieldLink RX12 44 "MissedPointsModel" "items" "[I") (by decide +kernel)) (fun _ h9 => h9) rfl dX12_paint_49 ?_
                                                        refine lv_bipush (v := 40) hx hb dX12_paint_52 (by decide) ?_
                                                        refine lv_iload_n hx hb dX12_paint_54 rfl (lv_at hl 2 rfl) ?_
                                                        refine lv_imul hx hb dX12_paint_55 ?_
                                                        refine lz_top (y := 40) (by decide) ?_
                                                        refine lv_iload_n hx hb dX12_paint_56 rfl (lv_at hl 0 rfl) ?_
                                                        refine lv_iadd hx hb dX12_paint_57 ?_
                                                        refine lz_top (y := 49) (by decide) ?_
                                                        refine lv_iload_n hx hb dX12_paint_58 rfl (lv_at hl 0 rfl) ?_
                                                        refine lv_aload_n hx hb dX12_paint_59 rfl (lv_at hl 1 rfl) ?_
                                                        refine va_get (D := D) (ci := 12) (v := .int 0) (C := RX12) (T := TX12) (N := 24) hx hb hts hin12 hown hK hP 14 rfl rfl 0 (by decide) (hts (.fieldLink RX12 63 "MissedPointsModel" "many" "I") (by decide +kernel)) (fun _ h9 => h9) rfl dX12_paint_60 ?_
                                                        refine lv_icmp_ge (tgt := 75) hx hb dX12_paint_63 (by decide) (fun c432 => ?_) (fun c432 => ?_)
                                                        · refine lv_iconst (v := 0) hx hb dX12_paint_75 (by decide) ?_
                                                          refine lz_astc hx hb hK hP hD hS 9 0 rfl rfl (lz_vp (x := 49) (n := 160) (by decide) (by decide)) dX12_paint_76 (fun H locs hP hD hS => ?_)
                                                          refine lv_iinc (v := 10) (lv' := [(3, .int 10), (0, .ref h0), (1, .int 1), (2, .int x1)]) hx hb dX12_paint_77 hl (k := 0) rfl (by decide) (by decide) rfl (fun ls hl => ?_)
                                                          refine lv_goto (tgt := 42) hx hb dX12_paint_80 (by decide) ?_
                                                          refine lv_iload_n hx hb dX12_paint_42 rfl (lv_at hl 0 rfl) ?_
                                                          refine lv_bipush (v := 40) hx hb dX12_paint_43 (by decide) ?_
                                                          refine lv_icmp_ge (tgt := 83) hx hb dX12_paint_45 (by decide) (fun c433 => ?_) (fun c433 => ?_)
                                                          · exact absurd c433 (by decide)
                                                          · refine lv_aload_n hx hb dX12_paint_48 rfl (lv_at hl 1 rfl) ?_
                                                            refine va_get (D := D) (ci := 12) (v := .ref h11) (C := RX12) (T := TX12) (N := 24) hx hb hts hin12 hown hK hP 14 rfl rfl 18 (by decide) (hts (.fieldLink RX12 44 "MissedPointsModel" "items" "[I") (by decide +kernel)) (fun _ h9 => h9) rfl dX12_paint_49 ?_
                                                            refine lv_bipush (v := 40) hx hb dX12_paint_52 (by decide) ?_
                                                            refine lv_iload_n hx hb dX12_paint_54 rfl (lv_at hl 2 rfl) ?_
                                                            refine lv_imul hx hb dX12_paint_55 ?_
                                                            refine lz_top (y := 40) (by decide) ?_
                                                            refine lv_iload_n hx hb dX12_paint_56 rfl (lv_at hl 0 rfl) ?_
                                                            refine lv_iadd hx hb dX12_paint_57 ?_
                                                            refine lz_top (y := 50) (by decide) ?_
                                                            refine lv_iload_n hx hb dX12_paint_58 rfl (lv_at hl 0 rfl) ?_
                                                            refine lv_aload_n hx hb dX12_paint_59 rfl (lv_at hl 1 rfl) ?_
                                                            refine va_get (D := D) (ci := 12) (v := .int 0) (C := RX12) (T := TX12) (N := 24) hx hb hts hin12 hown hK hP 14 rfl rfl 0 (by decide) (hts (.fieldLink RX12 63 "MissedPointsModel" "many" "I") (by decide +kernel)) (fun _ h9 => h9) rfl dX12_paint_60 ?_
                                                            refine lv_icmp_ge (tgt := 75) hx hb dX12_paint_63 (by decide) (fun c434 => ?_) (fun c434 => ?_)
                                                            · refine lv_iconst (v := 0) hx hb dX12_paint_75 (by decide) ?_
                                                              refine lz_astc hx hb hK hP hD hS 9 0 rfl rfl (lz_vp (x := 50) (n := 160) (by decide) (by decide)) dX12_paint_76 (fun H locs hP hD hS => ?_)
                                                              refine lv_iinc (v := 11) (lv' := [(3, .int 11), (0, .ref h0), (1, .int 1), (2, .int x1)]) hx hb dX12_paint_77 hl (k := 0) rfl (by decide) (by decide) rfl (fun ls hl => ?_)
                                                              refine lv_goto (tgt := 42) hx hb dX12_paint_80 (by decide) ?_
                                                              refine lv_iload_n hx hb dX12_paint_42 rfl (lv_at hl 0 rfl) ?_
                                                              refine lv_bipush (v := 40) hx hb dX12_paint_43 (by decide) ?_
                                                              refine lv_icmp_ge (tgt := 83) hx hb dX12_paint_45 (by decide) (fun c435 => ?_) (fun c435 => ?_)
                                                              · exact absurd c435 (by decide)
                                                              · refine lv_aload_n hx hb dX12_paint_48 rfl (lv_at hl 1 rfl) ?_
                                                                refine va_get (D := D) (ci := 12) (v := .ref h11) (C := RX12) (T := TX12) (N := 24) hx hb hts hin12 hown hK hP 14 rfl rfl 18 (by decide) (hts (.fieldLink RX12 44 "MissedPointsModel" "items" "[I") (by decide +kernel)) (fun _ h9 => h9) rfl dX12_paint_49 ?_
                                                                refine lv_bipush (v := 40) hx hb dX12_paint_52 (by decide) ?_
                                                                refine lv_iload_n hx hb dX12_paint_54 rfl (lv_at hl 2 rfl) ?_
                                                                refine lv_imul hx hb dX12_paint_55 ?_
                                                                refine lz_top (y := 40) (by decide) ?_
                                                                refine lv_iload_n hx hb dX12_paint_56 rfl (lv_at hl 0 rfl) ?_
                                                                refine lv_iadd hx hb dX12_paint_57 ?_
                                                                refine lz_top (y := 51) (by decide) ?_
                                                                refine lv_iload_n hx hb dX12_paint_58 rfl (lv_at hl 0 rfl) ?_
                                                                refine lv_aload_n hx hb dX12_paint_59 rfl (lv_at hl 1 rfl) ?_
                                                                refine va_get (D := D) (ci := 12) (v := .int 0) (C := RX12) (T := TX12) (N := 24) hx hb hts hin12 hown hK hP 14 rfl rfl 0 (by decide) (hts (.fieldLink RX12 63 "MissedPointsModel" "many" "I") (by decide +kernel)) (fun _ h9 => h9) rfl dX12_paint_60 ?_
                                                                refine lv_icmp_ge (tgt := 75) hx hb dX12_paint_63 (by decide) (fun c436 => ?_) (fun c436 => ?_)
                                                                · refine lv_iconst (v := 0) hx hb dX12_paint_75 (by decide) ?_
                                                                  refine lz_astc hx hb hK hP hD hS 9 0 rfl rfl (lz_vp (x := 51) (n := 160) (by decide) (by decide)) dX12_paint_76 (fun H locs hP hD hS => ?_)
                                                                  refine lv_iinc (v := 12) (lv' := [(3, .int 12), (0, .ref h0), (1, .int 1), (2, .int x1)]) hx hb dX12_paint_77 hl (k := 0) rfl (by decide) (by decide) rfl (fun ls hl => ?_)
                                                                  refine lv_goto (tgt := 42) hx hb dX12_paint_80 (by decide) ?_
                                                                  refine lv_iload_n hx hb dX12_paint_42 rfl (lv_at hl 0 rfl) ?_
                                                                  refine lv_bipush (v := 40) hx hb dX12_paint_43 (by decide) ?_
                                                                  refine lv_icmp_ge (tgt := 83) hx hb dX12_paint_45 (by decide) (fun c437 => ?_) (fun c437 => ?_)
                                                                  · exact absurd c437 (by decide)
                                                                  · refine lv_aload_n hx hb dX12_paint_48 rfl (lv_at hl 1 rfl) ?_
                                                                    refine va_get (D := D) (ci := 12) (v := .ref h11) (C := RX12) (T := TX12) (N := 24) hx hb hts hin12 hown hK hP 14 rfl rfl 18 (by decide) (hts (.fieldLink RX12 44 "MissedPointsModel" "items" "[I") (by decide +kernel)) (fun _ h9 => h9) rfl dX12_paint_49 ?_
                                                                    refine lv_bipush (v := 40) hx hb dX12_paint_52 (by decide) ?_
                                                                    refine lv_iload_n hx hb dX12_paint_54 rfl (lv_at hl 2 rfl) ?_
                                                                    refine lv_imul hx hb dX12_paint_55 ?_
                                                                    refine lz_top (y := 40) (by decide) ?_
                                                                    refine lv_iload_n hx hb dX12_paint_56 rfl (lv_at hl 0 rfl) ?_
                                                                    refine lv_iadd hx hb dX12_paint_57 ?_
                                                                    refine lz_top (y := 52) (by decide) ?_
                                                                    refine lv_iload_n hx hb dX12_paint_58 rfl (lv_at hl 0 rfl) ?_
                                                                    refine lv_aload_n hx hb dX12_paint_59 rfl (lv_at hl 1 rfl) ?_
                                                                    refine va_get (D := D) (ci := 12) (v := .int 0) (C := RX12) (T := TX12) (N := 24) hx hb hts hin12 hown hK hP 14 rfl rfl 0 (by decide) (hts (.fieldLink RX12 63 "MissedPointsModel" "many" "I") (by decide +kernel)) (fun _ h9 => h9) rfl dX12_paint_60 ?_
                                                                    refine lv_icmp_ge (tgt := 75) hx hb dX12_paint_63 (by decide) (fun c438 => ?_) (fun c438 => ?_)
                                                                    · refine lv_iconst (v := 0) hx hb dX12_paint_75 (by decide) ?_
                                                                      refine lz_astc hx hb hK hP hD hS 9 0 rfl rfl (lz_vp (x := 52) (n := 160) (by decide) (by decide)) dX12_paint_76 (fun H locs hP hD hS => ?_)
                                                                      refine lv_iinc (v := 13) (lv' := [(3, .int 13), (0, .ref h0), (1, .int 1), (2, .int x1)]) hx hb dX12_paint_77 hl (k := 0) rfl (by decide) (by decide) rfl (fun ls hl => ?_)
                                                                      refine lv_goto (tgt := 42) hx hb dX12_paint_80 (by decide) ?_
                                                                      refine lv_iload_n hx hb dX12_paint_42 rfl (lv_at hl 0 rfl) ?_
                                                                      refine lv_bipush (v := 40) hx hb dX12_paint_43 (by decide) ?_
                                                                      refine lv_icmp_ge (tgt := 83) hx hb dX12_paint_45 (by decide) (fun c439 => ?_) (fun c439 => ?_)
                                                                      · exact absurd c439 (by decide)
                                                                      · refine lv_aload_n hx hb dX12_paint_48 rfl (lv_at hl 1 rfl) ?_
                                                                        refine va_get (D := D) (ci := 12) (v := .ref h11) (C := RX12) (T := TX12) (N := 24) hx hb hts hin12 hown hK hP 14 rfl rfl 18 (by decide) (hts (.fieldLink RX12 44 "MissedPointsModel" "items" "[I") (by decide +kernel)) (fun _ h9 => h9) rfl dX12_paint_49 ?_
                                                                        refine lv_bipush (v := 40) hx hb dX12_paint_52 (by decide) ?_
                                                                        refine lv_iload_n hx hb dX12_paint_54 rfl (lv_at hl 2 rfl) ?_
                                                                        refine lv_imul hx hb dX12_paint_55 ?_
                                                                        refine lz_top (y := 40) (by decide) ?_
                                                                        refine lv_iload_n hx hb dX12_paint_56 rfl (lv_at hl 0 rfl) ?_
                                                                        refine lv_iadd hx hb dX12_paint_57 ?_
                                                                        refine lz_top (y := 53) (by decide) ?_
                                                                        refine lv_iload_n hx hb dX12_paint_58 rfl (lv_at hl 0 rfl) ?_
                                                                        refine lv_aload_n hx hb dX12_paint_59 rfl (lv_at hl 1 rfl) ?_
                                                                        refine va_get (D := D) (ci := 12) (v := .int 0) (C := RX12) (T := TX12) (N := 24) hx hb hts hin12 hown hK hP 14 rfl rfl 0 (by decide) (hts (.fieldLink RX12 63 "MissedPointsModel" "many" "I") (by decide +kernel)) (fun _ h9 => h9) rfl dX12_paint_60 ?_
                                                                        refine lv_icmp_ge (tgt := 75) hx hb dX12_paint_63 (by decide) (fun c440 => ?_) (fun c440 => ?_)
                                                                        · refine lv_iconst (v := 0) hx hb dX12_paint_75 (by decide) ?_
                                                                          refine lz_astc hx hb hK hP hD hS 9 0 rfl rfl (lz_vp (x := 53) (n := 160) (by decide) (by decide)) dX12_paint_76 (fun H locs hP hD hS => ?_)
                                                                          refine lv_iinc (v := 14) (lv' := [(3, .int 14), (0, .ref h0), (1, .int 1), (2, .int x1)]) hx hb dX12_paint_77 hl (k := 0) rfl (by decide) (by decide) rfl (fun ls hl => ?_)
                                                                          refine lv_goto (tgt := 42) hx hb dX12_paint_80 (by decide) ?_
                                                                          refine lv_iload_n hx hb dX12_paint_42 rfl (lv_at hl 0 rfl) ?_
                                                                          refine lv_bipush (v := 40) hx hb dX12_paint_43 (by decide) ?_
                                                                          refine lv_icmp_ge (tgt := 83) hx hb dX12_paint_45 (by decide) (fun c441 => ?_) (fun c441 => ?_)
                                                                          · exact absurd c441 (by decide)
                                                                          · refine lv_aload_n hx hb dX12_paint_48 rfl (lv_at hl 1 rfl) ?_
                                                                            refine va_get (D := D) (ci := 12) (v := .ref h11) (C := RX12) (T := TX12) (N := 24) hx hb hts hin12 hown hK hP 14 rfl rfl 18 (by decide) (hts (.fieldLink RX12 44 "MissedPointsModel" "items" "[I") (by decide +kernel)) (fun _ h9 => h9) rfl dX12_paint_49 ?_
                                                                            refine lv_bipush (v := 40) hx hb dX12_paint_52 (by decide) ?_
                                                                            refine lv_iload_n hx hb dX12_paint_54 rfl (lv_at hl 2 rfl) ?_
                                                                            refine lv_imul hx hb dX12_paint_55 ?_
                                                                            refine lz_top (y := 40) (by decide) ?_
                                                                            refine lv_iload_n hx hb dX12_paint_56 rfl (lv_at hl 0 rfl) ?_
                                                                            refine lv_iadd hx hb dX12_paint_57 ?_
                                                                            refine lz_top (y := 54) (by decide) ?_
                                                                            refine lv_iload_n hx hb dX12_paint_58 rfl (lv_at hl 0 rfl) ?_
                                                                            refine lv_aload_n hx hb dX12_paint_59 rfl (lv_at hl 1 rfl) ?_
                                                                            refine va_get (D := D) (ci := 12) (v := .int 0) (C := RX12) (T := TX12) (N := 24) hx hb hts hin12 hown hK hP 14 rfl rfl 0 (by decide) (hts (.fieldLink RX12 63 "MissedPointsModel" "many" "I") (by decide +kernel)) (fun _ h9 => h9) rfl dX12_paint_60 ?_
                                                                            refine lv_icmp_ge (tgt := 75) hx hb dX12_paint_63 (by decide) (fun c442 => ?_) (fun c442 => ?_)
                                                                            · refine lv_iconst (v := 0) hx hb dX12_paint_75 (by decide) ?_
                                                                              refine lz_astc hx hb hK hP hD hS 9 0 rfl rfl (lz_vp (x := 54) (n := 160) (by decide) (by decide)) dX12_paint_76 (fun H locs hP hD hS => ?_)
                                                                              refine lv_iinc (v := 15) (lv' := [(3, .int 15), (0, .ref h0), (1, .int 1), (2, .int x1)]) hx hb dX12_paint_77 hl (k := 0) rfl (by decide) (by decide) rfl (fun ls hl => ?_)
                                                                              refine lv_goto (tgt := 42) hx hb dX12_paint_80 (by decide) ?_
                                                                              refine lv_iload_n hx hb dX12_paint_42 rfl (lv_at hl 0 rfl) ?_
                                                                              refine lv_bipush (v := 40) hx hb dX12_paint_43 (by decide) ?_
                                                                              refine lv_icmp_ge (tgt := 83) hx hb dX12_paint_45 (by decide) (fun c443 => ?_) (fun c443 => ?_)
                                                                              · exact absurd c443 (by decide)
                                                                              · refine lv_aload_n hx hb dX12_paint_48 rfl (lv_at hl 1 rfl) ?_
                                                                                refine va_get (D := D) (ci := 12) (v := .ref h11) (C := RX12) (T := TX12) (N := 24) hx hb hts hin12 hown hK hP 14 rfl rfl 18 (by decide) (hts (.fieldLink RX12 44 "MissedPointsModel" "items" "[I") (by decide +kernel)) (fun _ h9 => h9) rfl dX12_paint_49 ?_
                                                                                refine lv_bipush (v := 40) hx hb dX12_paint_52 (by decide) ?_
                                                                                refine lv_iload_n hx hb dX12_paint_54 rfl (lv_at hl 2 rfl) ?_
                                                                                refine lv_imul hx hb dX12_paint_55 ?_
                                                                                refine lz_top (y := 40) (by decide) ?_
                                                                                refine lv_iload_n hx hb dX12_paint_56 rfl (lv_at hl 0 rfl) ?_
                                                                                refine lv_iadd hx hb dX12_paint_57 ?_
                                                                                refine lz_top (y := 55) (by decide) ?_
                                                                                refine lv_iload_n hx hb dX12_paint_58 rfl (lv_at hl 0 rfl) ?_
                                                                                refine lv_aload_n hx hb dX12_paint_59 rfl (lv_at hl 1 rfl) ?_
                                                                                refine va_get (D := D) (ci := 12) (v := .int 0) (C := RX12) (T := TX12) (N := 24) hx hb hts hin12 hown hK hP 14 rfl rfl 0 (by decide) (hts (.fieldLink RX12 63 "MissedPointsModel" "many" "I") (by decide +kernel)) (fun _ h9 => h9) rfl dX12_paint_60 ?_
                                                                                refine lv_icmp_ge (tgt := 75) hx hb dX12_paint_63 (by decide) (fun c444 => ?_) (fun c444 => ?_)
                                                                                · refine lv_iconst (v := 0) hx hb dX12_paint_75 (by decide) ?_
                                                                                  refine lz_astc hx hb hK hP hD hS 9 0 rfl rfl (lz_vp (x := 55) (n := 160) (by decide) (by decide)) dX12_paint_76 (fun H locs hP hD hS => ?_)
                                                                                  refine lv_iinc (v := 16) (lv' := [(3, .int 16), (0, .ref h0), (1, .int 1), (2, .int x1)]) hx hb dX12_paint_77 hl (k := 0) rfl (by decide) (by decide) rfl (fun ls hl => ?_)
                                                                                  refine lv_goto (tgt := 42) hx hb dX12_paint_80 (by decide) ?_
                                                                                  refine lv_iload_n hx hb dX12_paint_42 rfl (lv_at hl 0 rfl) ?_
                                                                                  refine lv_bipush (v := 40) hx hb dX12_paint_43 (by decide) ?_
                                                                                  refine lv_icmp_ge (tgt := 83) hx hb dX12_paint_45 (by decide) (fun c445 => ?_) (fun c445 => ?_)
                                                                                  · exact absurd c445 (by decide)
                                                                                  · refine lv_aload_n hx hb dX12_paint_48 rfl (lv_at hl 1 rfl) ?_
                                                                                    refine va_get (D := D) (ci := 12) (v := .ref h11) (C := RX12) (T := TX12) (N := 24) hx hb hts hin12 hown hK hP 14 rfl rfl 18 (by decide) (hts (.fieldLink RX12 44 "MissedPointsModel" "items" "[I") (by decide +kernel)) (fun _ h9 => h9) rfl dX12_paint_49 ?_
                                                                                    refine lv_bipush (v := 40) hx hb dX12_paint_52 (by decide) ?_
                                                                                    refine lv_iload_n hx hb dX12_paint_54 rfl (lv_at hl 2 rfl) ?_
                                                                                    refine lv_imul hx hb dX12_paint_55 ?_
                                                                                    refine lz_top (y := 40) (by decide) ?_
                                                                                    refine lv_iload_n hx hb dX12_paint_56 rfl (lv_at hl 0 rfl) ?_
                                                                                    refine lv_iadd hx hb dX12_paint_57 ?_
                                                                                    refine lz_top (y := 56) (by decide) ?_
                                                                                    refine lv_iload_n hx hb dX12_paint_58 rfl (lv_at hl 0 rfl) ?_
                                                                                    refine lv_aload_n hx hb dX12_paint_59 rfl (lv_at hl 1 rfl) ?_
                                                                                    refine va_get (D := D) (ci := 12) (v := .int 0) (C := RX12) (T := TX12) (N := 24) hx hb hts hin12 hown hK hP 14 rfl rfl 0 (by decide) (hts (.fieldLink RX12 63 "MissedPointsModel" "many" "I") (by decide +kernel)) (fun _ h9 => h9) rfl dX12_paint_60 ?_
                                                                                    refine lv_icmp_ge (tgt := 75) hx hb dX12_paint_63 (by decide) (fun c446 => ?_) (fun c446 => ?_)
                                                                                    · refine lv_iconst (v := 0) hx hb dX12_paint_75 (by decide) ?_
                                                                                      refine lz_astc hx hb hK hP hD hS 9 0 rfl rfl (lz_vp (x := 56) (n := 160) (by decide) (by decide)) dX12_paint_76 (fun H locs hP hD hS => ?_)
                                                                                      refine lv_iinc (v := 17) (lv' := [(3, .int 17), (0, .ref h0), (1, .int 1), (2, .int x1)]) hx hb dX12_paint_77 hl (k := 0) rfl (by decide) (by decide) rfl (fun ls hl => ?_)
                                                                                      refine lv_goto (tgt := 42) hx hb dX12_paint_80 (by decide) ?_
                                                                                      refine lv_iload_n hx hb dX12_paint_42 rfl (lv_at hl 0 rfl) ?_
                                                                                      refine lv_bipush (v := 40) hx hb dX12_paint_43 (by decide) ?_
                                                                                      refine lv_icmp_ge (tgt := 83) hx hb dX12_paint_45 (by decide) (fun c447 => ?_) (fun c447 => ?_)
                                                                                      · exact absurd c447 (by decide)
                                                                                      · refine lv_aload_n hx hb dX12_paint_48 rfl (lv_at hl 1 rfl) ?_
                                                                                        refine va_get (D := D) (ci := 12) (v := .ref h11) (C := RX12) (T := TX12) (N := 24) hx hb hts hin12 hown hK hP 14 rfl rfl 18 (by decide) (hts (.fieldLink RX12 44 "MissedPointsModel" "items" "[I") (by decide +kernel)) (fun _ h9 => h9) rfl dX12_paint_49 ?_
                                                                                        refine lv_bipush (v := 40) hx hb dX12_paint_52 (by decide) ?_
                                                                                        refine lv_iload_n hx hb dX12_paint_54 rfl (lv_at hl 2 rfl) ?_
                                                                                        refine lv_imul hx hb dX12_paint_55 ?_
                                                                                        refine lz_top (y := 40) (by decide) ?_
                                                                                        refine lv_iload_n hx hb dX12_paint_56 rfl (lv_at hl 0 rfl) ?_
                                                                                        refine lv_iadd hx hb dX12_paint_57 ?_
                                                                                        refine lz_top (y := 57) (by decide) ?_
                                                                                        refine lv_iload_n hx hb dX12_paint_58 rfl (lv_at hl 0 rfl) ?_
                                                                                        refine lv_aload_n hx hb dX12_paint_59 rfl (lv_at hl 1 rfl) ?_
                                                                                        refine va_get (D := D) (ci := 12) (v := .int 0) (C := RX12) (T := TX12) (N := 24) hx hb hts hin12 hown hK hP 14 rfl rfl 0 (by decide) (hts (.fieldLink RX12 63 "MissedPointsModel" "many" "I") (by decide +kernel)) (fun _ h9 => h9) rfl dX12_paint_60 ?_
                                                                                        refine lv_icmp_ge (tgt := 75) hx hb dX12_paint_63 (by decide) (fun c448 => ?_) (fun c448 => ?_)
                                                                                        · refine lv_iconst (v := 0) hx hb dX12_paint_75 (by decide) ?_
                                                                                          refine lz_astc hx hb hK hP hD hS 9 0 rfl rfl (lz_vp (x := 57) (n := 160) (by decide) (by decide)) dX12_paint_76 (fun H locs hP hD hS => ?_)
                                                                                          refine lv_iinc (v := 18) (lv' := [(3, .int 18), (0, .ref h0), (1, .int 1), (2, .int x1)]) hx hb dX12_paint_77 hl (k := 0) rfl (by decide) (by decide) rfl (fun ls hl => ?_)
                                                                                          refine lv_goto (tgt := 42) hx hb dX12_paint_80 (by decide) ?_
                                                                                          refine lv_iload_n hx hb dX12_paint_42 rfl (lv_at hl 0 rfl) ?_
                                                                                          refine lv_bipush (v := 40) hx hb dX12_paint_43 (by decide) ?_
                                                                                          refine lv_icmp_ge (tgt := 83) hx hb dX12_paint_45 (by decide) (fun c449 => ?_) (fun c449 => ?_)
                                                                                          · exact absurd c449 (by decide)
                                                                                          · refine lv_aload_n hx hb dX12_paint_48 rfl (lv_at hl 1 rfl) ?_
                                                                                            refine va_get (D := D) (ci := 12) (v := .ref h11) (C := RX12) (T := TX12) (N := 24) hx hb hts hin12 hown hK hP 14 rfl rfl 18 (by decide) (hts (.fieldLink RX12 44 "MissedPointsModel" "items" "[I") (by decide +kernel)) (fun _ h9 => h9) rfl dX12_paint_49 ?_
                                                                                            refine lv_bipush (v := 40) hx hb dX12_paint_52 (by decide) ?_
                                                                                            refine lv_iload_n hx hb dX12_paint_54 rfl (lv_at hl 2 rfl) ?_
                                                                                            refine lv_imul hx hb dX12_paint_55 ?_
                                                                                            refine lz_top (y := 40) (by decide) ?_
                                                                                            refine lv_iload_n hx hb dX12_paint_56 rfl (lv_at hl 0 rfl) ?_
                                                                                            refine lv_iadd hx hb dX12_paint_57 ?_
                                                                                            refine lz_top (y := 58) (by decide) ?_
                                                                                            refine lv_iload_n hx hb dX12_paint_58 rfl (lv_at hl 0 rfl) ?_
                                                                                            refine lv_aload_n hx hb dX12_paint_59 rfl (lv_at hl 1 rfl) ?_
                                                                                            refine va_get (D := D) (ci := 12) (v := .int 0) (C := RX12) (T := TX12) (N := 24) hx hb hts hin12 hown hK hP 14 rfl rfl 0 (by decide) (hts (.fieldLink RX12 63 "MissedPointsModel" "many" "I") (by decide +kernel)) (fun _ h9 => h9) rfl dX12_paint_60 ?_
                                                                                            refine lv_icmp_ge (tgt := 75) hx hb dX12_paint_63 (by decide) (fun c450 => ?_) (fun c450 => ?_)
                                                                                            · refine lv_iconst (v := 0) hx hb dX12_paint_75 (by decide) ?_
                                                                                              refine lz_astc hx hb hK hP hD hS 9 0 rfl rfl (lz_vp (x := 58) (n := 160) (by decide) (by decide)) dX12_paint_76 (fun H locs hP hD hS => ?_)
                                                                                              refine lv_iinc (v := 19) (lv' := [(3, .int 19), (0, .ref h0), (1, .int 1), (2, .int x1)]) hx hb dX12_paint_77 hl (k := 0) rfl (by decide) (by decide) rfl (fun ls hl => ?_)
                                                                                              refine lv_goto (tgt := 42) hx hb dX12_paint_80 (by decide) ?_
                                                                                              refine lv_iload_n hx hb dX12_paint_42 rfl (lv_at hl 0 rfl) ?_
                                                                                              refine lv_bipush (v := 40) hx hb dX12_paint_43 (by decide) ?_
                                                                                              refine lv_icmp_ge (tgt := 83) hx hb dX12_paint_45 (by decide) (fun c451 => ?_) (fun c451 => ?_)
                                                                                              · exact absurd c451 (by decide)
                                                                                              · refine lv_aload_n hx hb dX12_paint_48 rfl (lv_at hl 1 rfl) ?_
                                                                                                refine va_get (D := D) (ci := 12) (v := .ref h11) (C := RX12) (T := TX12) (N := 24) hx hb hts hin12 hown hK hP 14 rfl rfl 18 (by decide) (hts (.fieldLink RX12 44 "MissedPointsModel" "items" "[I") (by decide +kernel)) (fun _ h9 => h9) rfl dX12_paint_49 ?_
                                                                                                refine lv_bipush (v := 40) hx hb dX12_paint_52 (by decide) ?_
                                                                                                refine lv_iload_n hx hb dX12_paint_54 rfl (lv_at hl 2 rfl) ?_
                                                                                                refine lv_imul hx hb dX12_paint_55 ?_
                                                                                                refine lz_top (y := 40) (by decide) ?_
                                                                                                refine lv_iload_n hx hb dX12_paint_56 rfl (lv_at hl 0 rfl) ?_
                                                                                                refine lv_iadd hx hb dX12_paint_57 ?_
                                                                                                refine lz_top (y := 59) (by decide) ?_
                                                                                                refine lv_iload_n hx hb dX12_paint_58 rfl (lv_at hl 0 rfl) ?_
                                                                                                refine lv_aload_n hx hb dX12_paint_59 rfl (lv_at hl 1 rfl) ?_
                                                                                                refine va_get (D := D) (ci := 12) (v := .int 0) (C := RX12) (T := TX12) (N := 24) hx hb hts hin12 hown hK hP 14 rfl rfl 0 (by decide) (hts (.fieldLink RX12 63 "MissedPointsModel" "many" "I") (by decide +kernel)) (fun _ h9 => h9) rfl dX12_paint_60 ?_
                                                                                                refine lv_icmp_ge (tgt := 75) hx hb dX12_paint_63 (by decide) (fun c452 => ?_) (fun c452 => ?_)
                                                                                                · refine lv_iconst (v := 0) hx hb dX12_paint_75 (by decide) ?_
                                                                                                  refine lz_astc hx hb hK hP hD hS 9 0 rfl rfl (lz_vp (x := 59) (n := 160) (by decide) (by decide)) dX12_paint_76 (fun H locs hP hD hS => ?_)
                                                                                                  refine lv_iinc (v := 20) (lv' := [(3, .int 20), (0, .ref h0), (1, .int 1), (2, .int x1)]) hx hb dX12_paint_77 hl (k := 0) rfl (by decide) (by decide) rfl (fun ls hl => ?_)
                                                                                                  refine lv_goto (tgt := 42) hx hb dX12_paint_80 (by decide) ?_
                                                                                                  refine lv_iload_n hx hb dX12_paint_42 rfl (lv_at hl 0 rfl) ?_
                                                                                                  refine lv_bipush (v := 40) hx hb dX12_paint_43 (by decide) ?_
                                                                                                  refine lv_icmp_ge (tgt := 83) hx hb dX12_paint_45 (by decide) (fun c453 => ?_) (fun c453 => ?_)
                                                                                                  · exact absurd c453 (by decide)
                                                                                                  · refine lv_aload_n hx hb dX12_paint_48 rfl (lv_at hl 1 rfl) ?_
                                                                                                    refine va_get (D := D) (ci := 12) (v := .ref h11) (C := RX12) (T := TX12) (N := 24) hx hb hts hin12 hown hK hP 14 rfl rfl 18 (by decide) (hts (.fieldLink RX12 44 "MissedPointsModel" "items" "[I") (by decide +kernel)) (fun _ h9 => h9) rfl dX12_paint_49 ?_
                                                                                                    refine lv_bipush (v := 40) hx hb dX12_paint_52 (by decide) ?_
                                                                                                    refine lv_iload_n hx hb dX12_paint_54 rfl (lv_at hl 2 rfl) ?_
                                                                                                    refine lv_imul hx hb dX12_paint_55 ?_
                                                                                                    refine lz_top (y := 40) (by decide) ?_
                                                                                                    refine lv_iload_n hx hb dX12_paint_56 rfl (lv_at hl 0 rfl) ?_
                                                                                                    refine lv_iadd hx hb dX12_paint_57 ?_
                                                                                                    refine lz_top (y := 60) (by decide) ?_
                                                                                                    refine lv_iload_n hx hb dX12_paint_58 rfl (lv_at hl 0 rfl) ?_
                                                                                                    refine lv_aload_n hx hb dX12_paint_59 rfl (lv_at hl 1 rfl) ?_
                                                                                                    refine va_get (D := D) (ci := 12) (v := .int 0) (C := RX12) (T := TX12) (N := 24) hx hb hts hin12 hown hK hP 14 rfl rfl 0 (by decide) (hts (.fieldLink RX12 63 "MissedPointsModel" "many" "I") (by decide +kernel)) (fun _ h9 => h9) rfl dX12_paint_60 ?_
                                                                                                    refine lv_icmp_ge (tgt := 75) hx hb dX12_paint_63 (by decide) (fun c454 => ?_) (fun c454 => ?_)
                                                                                                    · refine lv_iconst (v := 0) hx hb dX12_paint_75 (by decide) ?_
                                                                                                      refine lz_astc hx hb hK hP hD hS 9 0 rfl rfl (lz_vp (x := 60) (n := 160) (by decide) (by decide)) dX12_paint_76 (fun H locs hP hD hS => ?_)
                                                                                                      refine lv_iinc (v := 21) (lv' := [(3, .int 21), (0, .ref h0), (1, .int 1), (2, .int x1)]) hx hb dX12_paint_77 hl (k := 0) rfl (by decide) (by decide) rfl (fun ls hl => ?_)
                                                                                                      refine lv_goto (tgt := 42) hx hb dX12_paint_80 (by decide) ?_
                                                                                                      refine lv_iload_n hx hb dX12_paint_42 rfl (lv_at hl 0 rfl) ?_
                                                                                                      refine lv_bipush (v := 40) hx hb dX12_paint_43 (by decide) ?_
                                                                                                      refine lv_icmp_ge (tgt := 83) hx hb dX12_paint_45 (by decide) (fun c455 => ?_) (fun c455 => ?_)
                                                                                                      · exact absurd c455 (by decide)
                                                                                                      · refine lv_aload_n hx hb dX12_paint_48 rfl (lv_at hl 1 rfl) ?_
                                                                                                        refine va_get (D := D) (ci := 12) (v := .ref h11) (C := RX12) (T := TX12) (N := 24) hx hb hts hin12 hown hK hP 14 rfl rfl 18 (by decide) (hts (.fieldLink RX12 44 "MissedPointsModel" "items" "[I") (by decide +kernel)) (fun _ h9 => h9) rfl dX12_paint_49 ?_
                                                                                                        refine lv_bipush (v := 40) hx hb dX12_paint_52 (by decide) ?_
                                                                                                        refine lv_iload_n hx hb dX12_paint_54 rfl (lv_at hl 2 rfl) ?_
                                                                                                        refine lv_imul hx hb dX12_paint_55 ?_
                                                                                                        refine lz_top (y := 40) (by decide) ?_
                                                                                                        refine lv_iload_n hx hb dX12_paint_56 rfl (lv_at hl 0 rfl) ?_
                                                                                                        refine lv_iadd hx hb dX12_paint_57 ?_
                                                                                                        refine lz_top (y := 61) (by decide) ?_
                                                                                                        refine lv_iload_n hx hb dX12_paint_58 rfl (lv_at hl 0 rfl) ?_
                                                                                                        refine lv_aload_n hx hb dX12_paint_59 rfl (lv_at hl 1 rfl) ?_
                                                                                                        refine va_get (D := D) (ci := 12) (v := .int 0) (C := RX12) (T := TX12) (N := 24) hx hb hts hin12 hown hK hP 14 rfl rfl 0 (by decide) (hts (.fieldLink RX12 63 "MissedPointsModel" "many" "I") (by decide +kernel)) (fun _ h9 => h9) rfl dX12_paint_60 ?_
                                                                                                        refine lv_icmp_ge (tgt := 75) hx hb dX12_paint_63 (by decide) (fun c456 => ?_) (fun c456 => ?_)
                                                                                                        · refine lv_iconst (v := 0) hx hb dX12_paint_75 (by decide) ?_
                                                                                                          refine lz_astc hx hb hK hP hD hS 9 0 rfl rfl (lz_vp (x := 61) (n := 160) (by decide) (by decide)) dX12_paint_76 (fun H locs hP hD hS => ?_)
                                                                                                          refine lv_iinc (v := 22) (lv' := [(3, .int 22), (0, .ref h0), (1, .int 1), (2, .int x1)]) hx hb dX12_paint_77 hl (k := 0) rfl (by decide) (by decide) rfl (fun ls hl => ?_)
                                                                                                          refine lv_goto (tgt := 42) hx hb dX12_paint_80 (by decide) ?_
                                                                                                          refine lv_iload_n hx hb dX12_paint_42 rfl (lv_at hl 0 rfl) ?_
                                                                                                          refine lv_bipush (v := 40) hx hb dX12_paint_43 (by decide) ?_
                                                                                                          refine lv_icmp_ge (tgt := 83) hx hb dX12_paint_45 (by decide) (fun c457 => ?_) (fun c457 => ?_)
                                                                                                          · exact absurd c457 (by decide)
                                                                                                          · refine lv_aload_n hx hb dX12_paint_48 rfl (lv_at hl 1 rfl) ?_
                                                                                                            refine va_get (D := D) (ci := 12) (v := .ref h11) (C := RX12) (T := TX12) (N := 24) hx hb hts hin12 hown hK hP 14 rfl rfl 18 (by decide) (hts (.fieldLink RX12 44 "MissedPointsModel" "items" "[I") (by decide +kernel)) (fun _ h9 => h9) rfl dX12_paint_49 ?_
                                                                                                            refine lv_bipush (v := 40) hx hb dX12_paint_52 (by decide) ?_
                                                                                                            refine lv_iload_n hx hb dX12_paint_54 rfl (lv_at hl 2 rfl) ?_
                                                                                                            refine lv_imul hx hb dX12_paint_55 ?_
                                                                                                            refine lz_top (y := 40) (by decide) ?_
                                                                                                            refine lv_iload_n hx hb dX12_paint_56 rfl (lv_at hl 0 rfl) ?_
                                                                                                            refine lv_iadd hx hb dX12_paint_57 ?_
                                                                                                            refine lz_top (y := 62) (by decide) ?_
                                                                                                            refine lv_iload_n hx hb dX12_paint_58 rfl (lv_at hl 0 rfl) ?_
                                                                                                            refine lv_aload_n hx hb dX12_paint_59 rfl (lv_at hl 1 rfl) ?_
                                                                                                            refine va_get (D := D) (ci := 12) (v := .int 0) (C := RX12) (T := TX12) (N := 24) hx hb hts hin12 hown hK hP 14 rfl rfl 0 (by decide) (hts (.fieldLink RX12 63 "MissedPointsModel" "many" "I") (by decide +kernel)) (fun _ h9 => h9) rfl dX12_paint_60 ?_
                                                                                                            refine lv_icmp_ge (tgt := 75) hx hb dX12_paint_63 (by decide) (fun c458 => ?_) (fun c458 => ?_)
                                                                                                            · refine lv_iconst (v := 0) hx hb dX12_paint_75 (by decide) ?_
                                                                                                              refine lz_astc hx hb hK hP hD hS 9 0 rfl rfl (lz_vp (x := 62) (n := 160) (by decide) (by decide)) dX12_paint_76 (fun H locs hP hD hS => ?_)
                                                                                                              refine lv_iinc (v := 23) (lv' := [(3, .int 23), (0, .ref h0), (1, .int 1), (2, .int x1)]) hx hb dX12_paint_77 hl (k := 0) rfl (by decide) (by decide) rfl (fun ls hl => ?_)
                                                                                                              refine lv_goto (tgt := 42) hx hb dX12_paint_80 (by decide) ?_
                                                                                                              refine lv_iload_n hx hb dX12_paint_42 rfl (lv_at hl 0 rfl) ?_
                                                                                                              refine lv_bipush (v := 40) hx hb dX12_paint_43 (by decide) ?_
                                                                                                              refine lv_icmp_ge (tgt := 83) hx hb dX12_paint_45 (by decide) (fun c459 => ?_) (fun c459 => ?_)
                                                                                                              · exact absurd c459 (by decide)
                                                                                                              · refine lv_aload_n hx hb dX12_paint_48 rfl (lv_at hl 1 rfl) ?_
                                                                                                                refine va_get (D := D) (ci := 12) (v := .ref h11) (C := RX12) (T := TX12) (N := 24) hx hb hts hin12 hown hK hP 14 rfl rfl 18 (by decide) (hts (.fieldLink RX12 44 "MissedPointsModel" "items" "[I") (by decide +kernel)) (fun _ h9 => h9) rfl dX12_paint_49 ?_
                                                                                                                refine lv_bipush (v := 40) hx hb dX12_paint_52 (by decide) ?_
                                                                                                                refine lv_iload_n hx hb dX12_paint_54 rfl (lv_at hl 2 rfl) ?_
                                                                                                                refine lv_imul hx hb dX12_paint_55 ?_
                                                                                                                refine lz_top (y := 40) (by decide) ?_
                                                                                                                refine lv_iload_n hx hb dX12_paint_56 rfl (lv_at hl 0 rfl) ?_
                                                                                                                refine lv_iadd hx hb dX12_paint_57 ?_
                                                                                                                refine lz_top (y := 63) (by decide) ?_
                                                                                                                refine lv_iload_n hx hb dX12_paint_58 rfl (lv_at hl 0 rfl) ?_
                                                                                                                refine lv_aload_n hx hb dX12_paint_59 rfl (lv_at hl 1 rfl) ?_
                                                                                                                refine va_get (D := D) (ci := 12) (v := .int 0) (C := RX12) (T := TX12) (N := 24) hx hb hts hin12 hown hK hP 14 rfl rfl 0 (by decide) (hts (.fieldLink RX12 63 "MissedPointsModel" "many" "I") (by decide +kernel)) (fun _ h9 => h9) rfl dX12_paint_60 ?_
                                                                                                                refine lv_icmp_ge (tgt := 75) hx hb dX12_paint_63 (by decide) (fun c460 => ?_) (fun c460 => ?_)
                                                                                                                · refine lv_iconst (v := 0) hx hb dX12_paint_75 (by decide) ?_
                                                                                                                  refine lz_astc hx hb hK hP hD hS 9 0 rfl rfl (lz_vp (x := 63) (n := 160) (by decide) (by decide)) dX12_paint_76 (fun H locs hP hD hS => ?_)
                                                                                                                  refine lv_iinc (v := 24) (lv' := [(3, .int 24), (0, .ref h0), (1, .int 1), (2, .int x1)]) hx hb dX12_paint_77 hl (k := 0) rfl (by decide) (by decide) rfl (fun ls hl => ?_)
                                                                                                                  refine lv_goto (tgt := 42) hx hb dX12_paint_80 (by decide) ?_
                                                                                                                  refine lv_iload_n hx hb dX12_paint_42 rfl (lv_at hl 0 rfl) ?_
                                                                                                                  refine lv_bipush (v := 40) hx hb dX12_paint_43 (by decide) ?_
                                                                                                                  refine lv_icmp_ge (tgt := 83) hx hb dX12_paint_45 (by decide) (fun c461 => ?_) (fun c461 => ?_)
                                                                                                                  · exact absurd c461 (by decide)
                                                                                                                  · refine lv_aload_n hx hb dX12_paint_48 rfl (lv_at hl 1 rfl) ?_
                                                                                                                    refine va_get (D := D) (ci := 12) (v := .ref h11) (C := RX12) (T := TX12) (N := 24) hx hb hts hin12 hown hK hP 14 rfl rfl 18 (by decide) (hts (.fieldLink RX12 44 "MissedPointsModel" "items" "[I") (by decide +kernel)) (fun _ h9 => h9) rfl dX12_paint_49 ?_
                                                                                                                    refine lv_bipush (v := 40) hx hb dX12_paint_52 (by decide) ?_
                                                                                                                    refine lv_iload_n hx hb dX12_paint_54 rfl (lv_at hl 2 rfl) ?_
                                                                                                                    refine lv_imul hx hb dX12_paint_55 ?_
                                                                                                                    refine lz_top (y := 40) (by decide) ?_
                                                                                                                    refine lv_iload_n hx hb dX12_paint_56 rfl (lv_at hl 0 rfl) ?_
                                                                                                                    refine lv_iadd hx hb dX12_paint_57 ?_
                                                                                                                    refine lz_top (y := 64) (by decide) ?_
                                                                                                                    refine lv_iload_n hx hb dX12_paint_58 rfl (lv_at hl 0 rfl) ?_
                                                                                                                    refine lv_aload_n hx hb dX12_paint_59 rfl (lv_at hl 1 rfl) ?_
                                                                                                                    refine va_get (D := D) (ci := 12) (v := .int 0) (C := RX12) (T := TX12) (N := 24) hx hb hts hin12 hown hK hP 14 rfl rfl 0 (by decide) (hts (.fieldLink RX12 63 "MissedPointsModel" "many" "I") (by decide +kernel)) (fun _ h9 => h9) rfl dX12_paint_60 ?_
                                                                                                                    refine lv_icmp_ge (tgt := 75) hx hb dX12_paint_63 (by decide) (fun c462 => ?_) (fun c462 => ?_)
                                                                                                                    · refine lv_iconst (v := 0) hx hb dX12_paint_75 (by decide) ?_
                                                                                                                      refine lz_astc hx hb hK hP hD hS 9 0 rfl rfl (lz_vp (x := 64) (n := 160) (by decide) (by decide)) dX12_paint_76 (fun H locs hP hD hS => ?_)
                                                                                                                      refine lv_iinc (v := 25) (lv' := [(3, .int 25), (0, .ref h0), (1, .int 1), (2, .int x1)]) hx hb dX12_paint_77 hl (k := 0) rfl (by decide) (by decide) rfl (fun ls hl => ?_)
                                                                                                                      refine lv_goto (tgt := 42) hx hb dX12_paint_80 (by decide) ?_
                                                                                                                      refine lv_iload_n hx hb dX12_paint_42 rfl (lv_at hl 0 rfl) ?_
                                                                                                                      refine lv_bipush (v := 40) hx hb dX12_paint_43 (by decide) ?_
                                                                                                                      refine lv_icmp_ge (tgt := 83) hx hb dX12_paint_45 (by decide) (fun c463 => ?_) (fun c463 => ?_)
                                                                                                                      · exact absurd c463 (by decide)
                                                                                                                      · refine lv_aload_n hx hb dX12_paint_48 rfl (lv_at hl 1 rfl) ?_
                                                                                                                        refine va_get (D := D) (ci := 12) (v := .ref h11) (C := RX12) (T := TX12) (N := 24) hx hb hts hin12 hown hK hP 14 rfl rfl 18 (by decide) (hts (.fieldLink RX12 44 "MissedPointsModel" "items" "[I") (by decide +kernel)) (fun _ h9 => h9) rfl dX12_paint_49 ?_
                                                                                                                        refine lv_bipush (v := 40) hx hb dX12_paint_52 (by decide) ?_
                                                                                                                        refine lv_iload_n hx hb dX12_paint_54 rfl (lv_at hl 2 rfl) ?_
                                                                                                                        refine lv_imul hx hb dX12_paint_55 ?_
                                                                                                                        refine lz_top (y := 40) (by decide) ?_
                                                                                                                        refine lv_iload_n hx hb dX12_paint_56 rfl (lv_at hl 0 rfl) ?_
                                                                                                                        refine lv_iadd hx hb dX12_paint_57 ?_
                                                                                                                        refine lz_top (y := 65) (by decide) ?_
                                                                                                                        refine lv_iload_n hx hb dX12_paint_58 rfl (lv_at hl 0 rfl) ?_
                                                                                                                        refine lv_aload_n hx hb dX12_paint_59 rfl (lv_at hl 1 rfl) ?_
                                                                                                                        refine va_get (D := D) (ci := 12) (v := .int 0) (C := RX12) (T := TX12) (N := 24) hx hb hts hin12 hown hK hP 14 rfl rfl 0 (by decide) (hts (.fieldLink RX12 63 "MissedPointsModel" "many" "I") (by decide +kernel)) (fun _ h9 => h9) rfl dX12_paint_60 ?_
                                                                                                                        refine lv_icmp_ge (tgt := 75) hx hb dX12_paint_63 (by decide) (fun c464 => ?_) (fun c464 => ?_)
                                                                                                                        · refine lv_iconst (v := 0) hx hb dX12_paint_75 (by decide) ?_
                                                                                                                          refine lz_astc hx hb hK hP hD hS 9 0 rfl rfl (lz_vp (x := 65) (n := 160) (by decide) (by decide)) dX12_paint_76 (fun H locs hP hD hS => ?_)
                                                                                                                          refine lv_iinc (v := 26) (lv' := [(3, .int 26), (0, .ref h0), (1, .int 1), (2, .int x1)]) hx hb dX12_paint_77 hl (k := 0) rfl (by decide) (by decide) rfl (fun ls hl => ?_)
                                                                                                                          refine lv_goto (tgt := 42) hx hb dX12_paint_80 (by decide) ?_
                                                                                                                          refine lv_iload_n hx hb dX12_paint_42 rfl (lv_at hl 0 rfl) ?_
                                                                                                                          refine lv_bipush (v := 40) hx hb dX12_paint_43 (by decide) ?_
                                                                                                                          refine lv_icmp_ge (tgt := 83) hx hb dX12_paint_45 (by decide) (fun c465 => ?_) (fun c465 => ?_)
                                                                                                                          · exact absurd c465 (by decide)
                                                                                                                          · refine lv_aload_n hx hb dX12_paint_48 rfl (lv_at hl 1 rfl) ?_
                                                                                                                            refine va_get (D := D) (ci := 12) (v := .ref h11) (C := RX12) (T := TX12) (N := 24) hx hb hts hin12 hown hK hP 14 rfl rfl 18 (by decide) (hts (.fieldLink RX12 44 "MissedPointsModel" "items" "[I") (by decide +kernel)) (fun _ h9 => h9) rfl dX12_paint_49 ?_
                                                                                                                            refine lv_bipush (v := 40) hx hb dX12_paint_52 (by decide) ?_
                                                                                                                            refine lv_iload_n hx hb dX12_paint_54 rfl (lv_at hl 2 rfl) ?_
                                                                                                                            refine lv_imul hx hb dX12_paint_55 ?_
                                                                                                                            refine lz_top (y := 40) (by decide) ?_
                                                                                                                            refine lv_iload_n hx hb dX12_paint_56 rfl (lv_at hl 0 rfl) ?_
                                                                                                                            refine lv_iadd hx hb dX12_paint_57 ?_
                                                                                                                            refine lz_top (y := 66) (by decide) ?_
                                                                                                                            refine lv_iload_n hx hb dX12_paint_58 rfl (lv_at hl 0 rfl) ?_
                                                                                                                            refine lv_aload_n hx hb dX12_paint_59 rfl (lv_at hl 1 rfl) ?_
                                                                                                                            refine va_get (D := D) (ci := 12) (v := .int 0) (C := RX12) (T := TX12) (N := 24) hx hb hts hin12 hown hK hP 14 rfl rfl 0 (by decide) (hts (.fieldLink RX12 63 "MissedPointsModel" "many" "I") (by decide +kernel)) (fun _ h9 => h9) rfl dX12_paint_60 ?_
                                                                                                                            refine lv_icmp_ge (tgt := 75) hx hb dX12_paint_63 (by decide) (fun c466 => ?_) (fun c466 => ?_)
                                                                                                                            · refine lv_iconst (v := 0) hx hb dX12_paint_75 (by decide) ?_
                                                                                                                              refine lz_astc hx hb hK hP hD hS 9 0 rfl rfl (lz_vp (x := 66) (n := 160) (by decide) (by decide)) dX12_paint_76 (fun H locs hP hD hS => ?_)
                                                                                                                              refine lv_iinc (v := 27) (lv' := [(3, .int 27), (0, .ref h0), (1, .int 1), (2, .int x1)]) hx hb dX12_paint_77 hl (k := 0) rfl (by decide) (by decide) rfl (fun ls hl => ?_)
                                                                                                                              refine lv_goto (tgt := 42) hx hb dX12_paint_80 (by decide) ?_
                                                                                                                              refine lv_iload_n hx hb dX12_paint_42 rfl (lv_at hl 0 rfl) ?_
                                                                                                                              refine lv_bipush (v := 40) hx hb dX12_paint_43 (by decide) ?_
                                                                                                                              refine lv_icmp_ge (tgt := 83) hx hb dX12_paint_45 (by decide) (fun c467 => ?_) (fun c467 => ?_)
                                                                                                                              · exact absurd c467 (by decide)
                                                                                                                              · refine lv_aload_n hx hb dX12_paint_48 rfl (lv_at hl 1 rfl) ?_
                                                                                                                                refine va_get (D := D) (ci := 12) (v := .ref h11) (C := RX12) (T := TX12) (N := 24) hx hb hts hin12 hown hK hP 14 rfl rfl 18 (by decide) (hts (.fieldLink RX12 44 "MissedPointsModel" "items" "[I") (by decide +kernel)) (fun _ h9 => h9) rfl dX12_paint_49 ?_
                                                                                                                                refine lv_bipush (v := 40) hx hb dX12_paint_52 (by decide) ?_
                                                                                                                                refine lv_iload_n hx hb dX12_paint_54 rfl (lv_at hl 2 rfl) ?_
                                                                                                                                refine lv_imul hx hb dX12_paint_55 ?_
                                                                                                                                refine lz_top (y := 40) (by decide) ?_
                                                                                                                                refine lv_iload_n hx hb dX12_paint_56 rfl (lv_at hl 0 rfl) ?_
                                                                                                                                refine lv_iadd hx hb dX12_paint_57 ?_
                                                                                                                                refine lz_top (y := 67) (by decide) ?_
                                                                                                                                refine lv_iload_n hx hb dX12_paint_58 rfl (lv_at hl 0 rfl) ?_
                                                                                                                                refine lv_aload_n hx hb dX12_paint_59 rfl (lv_at hl 1 rfl) ?_
                                                                                                                                refine va_get (D := D) (ci := 12) (v := .int 0) (C := RX12) (T := TX12) (N := 24) hx hb hts hin12 hown hK hP 14 rfl rfl 0 (by decide) (hts (.fieldLink RX12 63 "MissedPointsModel" "many" "I") (by decide +kernel)) (fun _ h9 => h9) rfl dX12_paint_60 ?_
                                                                                                                                refine lv_icmp_ge (tgt := 75) hx hb dX12_paint_63 (by decide) (fun c468 => ?_) (fun c468 => ?_)
                                                                                                                                · refine lv_iconst (v := 0) hx hb dX12_paint_75 (by decide) ?_
                                                                                                                                  refine lz_astc hx hb hK hP hD hS 9 0 rfl rfl (lz_vp (x := 67) (n := 160) (by decide) (by decide)) dX12_paint_76 (fun H locs hP hD hS => ?_)
                                                                                                                                  refine lv_iinc (v := 28) (lv' := [(3, .int 28), (0, .ref h0), (1, .int 1), (2, .int x1)]) hx hb dX12_paint_77 hl (k := 0) rfl (by decide) (by decide) rfl (fun ls hl => ?_)
                                                                                                                                  refine lv_goto (tgt := 42) hx hb dX12_paint_80 (by decide) ?_
                                                                                                                                  refine lv_iload_n hx hb dX12_paint_42 rfl (lv_at hl 0 rfl) ?_
                                                                                                                                  refine lv_bipush (v := 40) hx hb dX12_paint_43 (by decide) ?_
                                                                                                                                  refine lv_icmp_ge (tgt := 83) hx hb dX12_paint_45 (by decide) (fun c469 => ?_) (fun c469 => ?_)
                                                                                                                                  · exact absurd c469 (by decide)
                                                                                                                                  · refine lv_aload_n hx hb dX12_paint_48 rfl (lv_at hl 1 rfl) ?_
                                                                                                                                    refine va_get (D := D) (ci := 12) (v := .ref h11) (C := RX12) (T := TX12) (N := 24) hx hb hts hin12 hown hK hP 14 rfl rfl 18 (by decide) (hts (.fieldLink RX12 44 "MissedPointsModel" "items" "[I") (by decide +kernel)) (fun _ h9 => h9) rfl dX12_paint_49 ?_
                                                                                                                                    refine lv_bipush (v := 40) hx hb dX12_paint_52 (by decide) ?_
                                                                                                                                    refine lv_iload_n hx hb dX12_paint_54 rfl (lv_at hl 2 rfl) ?_
                                                                                                                                    refine lv_imul hx hb dX12_paint_55 ?_
                                                                                                                                    refine lz_top (y := 40) (by decide) ?_
                                                                                                                                    refine lv_iload_n hx hb dX12_paint_56 rfl (lv_at hl 0 rfl) ?_
                                                                                                                                    refine lv_iadd hx hb dX12_paint_57 ?_
                                                                                                                                    refine lz_top (y := 68) (by decide) ?_
                                                                                                                                    refine lv_iload_n hx hb dX12_paint_58 rfl (lv_at hl 0 rfl) ?_
                                                                                                                                    refine lv_aload_n hx hb dX12_paint_59 rfl (lv_at hl 1 rfl) ?_
                                                                                                                                    refine va_get (D := D) (ci := 12) (v := .int 0) (C := RX12) (T := TX12) (N := 24) hx hb hts hin12 hown hK hP 14 rfl rfl 0 (by decide) (hts (.fieldLink RX12 63 "MissedPointsModel" "many" "I") (by decide +kernel)) (fun _ h9 => h9) rfl dX12_paint_60 ?_
                                                                                                                                    refine lv_icmp_ge (tgt := 75) hx hb dX12_paint_63 (by decide) (fun c470 => ?_) (fun c470 => ?_)
                                                                                                                                    · refine lv_iconst (v := 0) hx hb dX12_paint_75 (by decide) ?_
                                                                                                                                      refine lz_astc hx hb hK hP hD hS 9 0 rfl rfl (lz_vp (x := 68) (n := 160) (by decide) (by decide)) dX12_paint_76 (fun H locs hP hD hS => ?_)
                                                                                                                                      refine lv_iinc (v := 29) (lv' := [(3, .int 29), (0, .ref h0), (1, .int 1), (2, .int x1)]) hx hb dX12_paint_77 hl (k := 0) rfl (by decide) (by decide) rfl (fun ls hl => ?_)
                                                                                                                                      refine lv_goto (tgt := 42) hx hb dX12_paint_80 (by decide) ?_
                                                                                                                                      refine lv_iload_n hx hb dX12_paint_42 rfl (lv_at hl 0 rfl) ?_
                                                                                                                                      refine lv_bipush (v := 40) hx hb dX12_paint_43 (by decide) ?_
                                                                                                                                      refine lv_icmp_ge (tgt := 83) hx hb dX12_paint_45 (by decide) (fun c471 => ?_) (fun c471 => ?_)
                                                                                                                                      · exact absurd c471 (by decide)
                                                                                                                                      · refine lv_aload_n hx hb dX12_paint_48 rfl (lv_at hl 1 rfl) ?_
                                                                                                                                        refine va_get (D := D) (ci := 12) (v := .ref h11) (C := RX12) (T := TX12) (N := 24) hx hb hts hin12 hown hK hP 14 rfl rfl 18 (by decide) (hts (.fieldLink RX12 44 "MissedPointsModel" "items" "[I") (by decide +kernel)) (fun _ h9 => h9) rfl dX12_paint_49 ?_
                                                                                                                                        refine lv_bipush (v := 40) hx hb dX12_paint_52 (by decide) ?_
                                                                                                                                        refine lv_iload_n hx hb dX12_paint_54 rfl (lv_at hl 2 rfl) ?_
                                                                                                                                        refine lv_imul hx hb dX12_paint_55 ?_
                                                                                                                                        refine lz_top (y := 40) (by decide) ?_
                                                                                                                                        refine lv_iload_n hx hb dX12_paint_56 rfl (lv_at hl 0 rfl) ?_
                                                                                                                                        refine lv_iadd hx hb dX12_paint_57 ?_
                                                                                                                                        refine lz_top (y := 69) (by decide) ?_
                                                                                                                                        refine lv_iload_n hx hb dX12_paint_58 rfl (lv_at hl 0 rfl) ?_
                                                                                                                                        refine lv_aload_n hx hb dX12_paint_59 rfl (lv_at hl 1 rfl) ?_
                                                                                                                                        refine va_get (D := D) (ci := 12) (v := .int 0) (C := RX12) (T := TX12) (N := 24) hx hb hts hin12 hown hK hP 14 rfl rfl 0 (by decide) (hts (.fieldLink RX12 63 "MissedPointsModel" "many" "I") (by decide +kernel)) (fun _ h9 => h9) rfl dX12_paint_60 ?_
                                                                                                                                        refine lv_icmp_ge (tgt := 75) hx hb dX12_paint_63 (by decide) (fun c472 => ?_) (fun c472 => ?_)
                                                                                                                                        · refine lv_iconst (v := 0) hx hb dX12_paint_75 (by decide) ?_
                                                                                                                                          refine lz_astc hx hb hK hP hD hS 9 0 rfl rfl (lz_vp (x := 69) (n := 160) (by decide) (by decide)) dX12_paint_76 (fun H locs hP hD hS => ?_)
                                                                                                                                          refine lv_iinc (v := 30) (lv' := [(3, .int 30), (0, .ref h0), (1, .int 1), (2, .int x1)]) hx hb dX12_paint_77 hl (k := 0) rfl (by decide) (by decide) rfl (fun ls hl => ?_)
                                                                                                                                          refine lv_goto (tgt := 42) hx hb dX12_paint_80 (by decide) ?_
                                                                                                                                          refine lv_iload_n hx hb dX12_paint_42 rfl (lv_at hl 0 rfl) ?_
                                                                                                                                          refine lv_bipush (v := 40) hx hb dX12_paint_43 (by decide) ?_
                                                                                                                                          refine lv_icmp_ge (tgt := 83) hx hb dX12_paint_45 (by decide) (fun c473 => ?_) (fun c473 => ?_)
                                                                                                                                          · exact absurd c473 (by decide)
                                                                                                                                          · refine lv_aload_n hx hb dX12_paint_48 rfl (lv_at hl 1 rfl) ?_
                                                                                                                                            refine va_get (D := D) (ci := 12) (v := .ref h11) (C := RX12) (T := TX12) (N := 24) hx hb hts hin12 hown hK hP 14 rfl rfl 18 (by decide) (hts (.fieldLink RX12 44 "MissedPointsModel" "items" "[I") (by decide +kernel)) (fun _ h9 => h9) rfl dX12_paint_49 ?_
                                                                                                                                            refine lv_bipush (v := 40) hx hb dX12_paint_52 (by decide) ?_
                                                                                                                                            refine lv_iload_n hx hb dX12_paint_54 rfl (lv_at hl 2 rfl) ?_
                                                                                                                                            refine lv_imul hx hb dX12_paint_55 ?_
                                                                                                                                            refine lz_top (y := 40) (by decide) ?_
                                                                                                                                            refine lv_iload_n hx hb dX12_paint_56 rfl (lv_at hl 0 rfl) ?_
                                                                                                                                            refine lv_iadd hx hb dX12_paint_57 ?_
                                                                                                                                            refine lz_top (y := 70) (by decide) ?_
                                                                                                                                            refine lv_iload_n hx hb dX12_paint_58 rfl (lv_at hl 0 rfl) ?_
                                                                                                                                            refine lv_aload_n hx hb dX12_paint_59 rfl (lv_at hl 1 rfl) ?_
                                                                                                                                            refine va_get (D := D) (ci := 12) (v := .int 0) (C := RX12) (T := TX12) (N := 24) hx hb hts hin12 hown hK hP 14 rfl rfl 0 (by decide) (hts (.fieldLink RX12 63 "MissedPointsModel" "many" "I") (by decide +kernel)) (fun _ h9 => h9) rfl dX12_paint_60 ?_
                                                                                                                                            refine lv_icmp_ge (tgt := 75) hx hb dX12_paint_63 (by decide) (fun c474 => ?_) (fun c474 => ?_)
                                                                                                                                            · refine lv_iconst (v := 0) hx hb dX12_paint_75 (by decide) ?_
                                                                                                                                              refine lz_astc hx hb hK hP hD hS 9 0 rfl rfl (lz_vp (x := 70) (n := 160) (by decide) (by decide)) dX12_paint_76 (fun H locs hP hD hS => ?_)
                                                                                                                                              refine lv_iinc (v := 31) (lv' := [(3, .int 31), (0, .ref h0), (1, .int 1), (2, .int x1)]) hx hb dX12_paint_77 hl (k := 0) rfl (by decide) (by decide) rfl (fun ls hl => ?_)
                                                                                                                                              refine lv_goto (tgt := 42) hx hb dX12_paint_80 (by decide) ?_
                                                                                                                                              refine lv_iload_n hx hb dX12_paint_42 rfl (lv_at hl 0 rfl) ?_
                                                                                                                                              refine lv_bipush (v := 40) hx hb dX12_paint_43 (by decide) ?_
                                                                                                                                              refine lv_icmp_ge (tgt := 83) hx hb dX12_paint_45 (by decide) (fun c475 => ?_) (fun c475 => ?_)
                                                                                                                                              · exact absurd c475 (by decide)
                                                                                                                                              · refine lv_aload_n hx hb dX12_paint_48 rfl (lv_at hl 1 rfl) ?_
                                                                                                                                                refine va_get (D := D) (ci := 12) (v := .ref h11) (C := RX12) (T := TX12) (N := 24) hx hb hts hin12 hown hK hP 14 rfl rfl 18 (by decide) (hts (.fieldLink RX12 44 "MissedPointsModel" "items" "[I") (by decide +kernel)) (fun _ h9 => h9) rfl dX12_paint_49 ?_
                                                                                                                                                refine lv_bipush (v := 40) hx hb dX12_paint_52 (by decide) ?_
                                                                                                                                                refine lv_iload_n hx hb dX12_paint_54 rfl (lv_at hl 2 rfl) ?_
                                                                                                                                                refine lv_imul hx hb dX12_paint_55 ?_
                                                                                                                                                refine lz_top (y := 40) (by decide) ?_
                                                                                                                                                refine lv_iload_n hx hb dX12_paint_56 rfl (lv_at hl 0 rfl) ?_
                                                                                                                                                refine lv_iadd hx hb dX12_paint_57 ?_
                                                                                                                                                refine lz_top (y := 71) (by decide) ?_
                                                                                                                                                refine lv_iload_n hx hb dX12_paint_58 rfl (lv_at hl 0 rfl) ?_
                                                                                                                                                refine lv_aload_n hx hb dX12_paint_59 rfl (lv_at hl 1 rfl) ?_
                                                                                                                                                refine va_get (D := D) (ci := 12) (v := .int 0) (C := RX12) (T := TX12) (N := 24) hx hb hts hin12 hown hK hP 14 rfl rfl 0 (by decide) (hts (.fieldLink RX12 63 "MissedPointsModel" "many" "I") (by decide +kernel)) (fun _ h9 => h9) rfl dX12_paint_60 ?_
                                                                                                                                                refine lv_icmp_ge (tgt := 75) hx hb dX12_paint_63 (by decide) (fun c476 => ?_) (fun c476 => ?_)
                                                                                                                                                · refine lv_iconst (v := 0) hx hb dX12_paint_75 (by decide) ?_
                                                                                                                                                  refine lz_astc hx hb hK hP hD hS 9 0 rfl rfl (lz_vp (x := 71) (n := 160) (by decide) (by decide)) dX12_paint_76 (fun H locs hP hD hS => ?_)
                                                                                                                                                  refine lv_iinc (v := 32) (lv' := [(3, .int 32), (0, .ref h0), (1, .int 1), (2, .int x1)]) hx hb dX12_paint_77 hl (k := 0) rfl (by decide) (by decide) rfl (fun ls hl => ?_)
                                                                                                                                                  refine lv_goto (tgt := 42) hx hb dX12_paint_80 (by decide) ?_
                                                                                                                                                  refine lv_iload_n hx hb dX12_paint_42 rfl (lv_at hl 0 rfl) ?_
                                                                                                                                                  refine lv_bipush (v := 40) hx hb dX12_paint_43 (by decide) ?_
                                                                                                                                                  refine lv_icmp_ge (tgt := 83) hx hb dX12_paint_45 (by decide) (fun c477 => ?_) (fun c477 => ?_)
                                                                                                                                                  · exact absurd c477 (by decide)
                                                                                                                                                  · refine lv_aload_n hx hb dX12_paint_48 rfl (lv_at hl 1 rfl) ?_
                                                                                                                                                    refine va_get (D := D) (ci := 12) (v := .ref h11) (C := RX12) (T := TX12) (N := 24) hx hb hts hin12 hown hK hP 14 rfl rfl 18 (by decide) (hts (.fieldLink RX12 44 "MissedPointsModel" "items" "[I") (by decide +kernel)) (fun _ h9 => h9) rfl dX12_paint_49 ?_
                                                                                                                                                    refine lv_bipush (v := 40) hx hb dX12_paint_52 (by decide) ?_
                                                                                                                                                    refine lv_iload_n hx hb dX12_paint_54 rfl (lv_at hl 2 rfl) ?_
                                                                                                                                                    refine lv_imul hx hb dX12_paint_55 ?_
                                                                                                                                                    refine lz_top (y := 40) (by decide) ?_
                                                                                                                                                    refine lv_iload_n hx hb dX12_paint_56 rfl (lv_at hl 0 rfl) ?_
                                                                                                                                                    refine lv_iadd hx hb dX12_paint_57 ?_
                                                                                                                                                    refine lz_top (y := 72) (by decide) ?_
                                                                                                                                                    refine lv_iload_n hx hb dX12_paint_58 rfl (lv_at hl 0 rfl) ?_
                                                                                                                                                    refine lv_aload_n hx hb dX12_paint_59 rfl (lv_at hl 1 rfl) ?_
                                                                                                                                                    refine va_get (D := D) (ci := 12) (v := .int 0) (C := RX12) (T := TX12) (N := 24) hx hb hts hin12 hown hK hP 14 rfl rfl 0 (by decide) (hts (.fieldLink RX12 63 "MissedPointsModel" "many" "I") (by decide +kernel)) (fun _ h9 => h9) rfl dX12_paint_60 ?_
                                                                                                                                                    refine lv_icmp_ge (tgt := 75) hx hb dX12_paint_63 (by decide) (fun c478 => ?_) (fun c478 => ?_)
                                                                                                                                                    · refine lv_iconst (v := 0) hx hb dX12_paint_75 (by decide) ?_
                                                                                                                                                      refine lz_astc hx hb hK hP hD hS 9 0 rfl rfl (lz_vp (x := 72) (n := 160) (by decide) (by decide)) dX12_paint_76 (fun H locs hP hD hS => ?_)
                                                                                                                                                      refine lv_iinc (v := 33) (lv' := [(3, .int 33), (0, .ref h0), (1, .int 1), (2, .int x1)]) hx hb dX12_paint_77 hl (k := 0) rfl (by decide) (by decide) rfl (fun ls hl => ?_)
                                                                                                                                                      refine lv_goto (tgt := 42) hx hb dX12_paint_80 (by decide) ?_
                                                                                                                                                      refine lv_iload_n hx hb dX12_paint_42 rfl (lv_at hl 0 rfl) ?_
                                                                                                                                                      refine lv_bipush (v := 40) hx hb dX12_paint_43 (by decide) ?_
                                                                                                                                                      refine lv_icmp_ge (tgt := 83) hx hb dX12_paint_45 (by decide) (fun c479 => ?_) (fun c479 => ?_)
                                                                                                                                                      · exact absurd c479 (by decide)
                                                                                                                                                      · refine lv_aload_n hx hb dX12_paint_48 rfl (lv_at hl 1 rfl) ?_
                                                                                                                                                        refine va_get (D := D) (ci := 12) (v := .ref h11) (C := RX12) (T := TX12) (N := 24) hx hb hts hin12 hown hK hP 14 rfl rfl 18 (by decide) (hts (.fieldLink RX12 44 "MissedPointsModel" "items" "[I") (by decide +kernel)) (fun _ h9 => h9) rfl dX12_paint_49 ?_
                                                                                                                                                        refine lv_bipush (v := 40) hx hb dX12_paint_52 (by decide) ?_
                                                                                                                                                        refine lv_iload_n hx hb dX12_paint_54 rfl (lv_at hl 2 rfl) ?_
                                                                                                                                                        refine lv_imul hx hb dX12_paint_55 ?_
                                                                                                                                                        refine lz_top (y := 40) (by decide) ?_
                                                                                                                                                        refine lv_iload_n hx hb dX12_paint_56 rfl (lv_at hl 0 rfl) ?_
                                                                                                                                                        refine lv_iadd hx hb dX12_paint_57 ?_
                                                                                                                                                        refine lz_top (y := 73) (by decide) ?_
                                                                                                                                                        refine lv_iload_n hx hb dX12_paint_58 rfl (lv_at hl 0 rfl) ?_
                                                                                                                                                        refine lv_aload_n hx hb dX12_paint_59 rfl (lv_at hl 1 rfl) ?_
                                                                                                                                                        refine va_get (D := D) (ci := 12) (v := .int 0) (C := RX12) (T := TX12) (N := 24) hx hb hts hin12 hown hK hP 14 rfl rfl 0 (by decide) (hts (.fieldLink RX12 63 "MissedPointsModel" "many" "I") (by decide +kernel)) (fun _ h9 => h9) rfl dX12_paint_60 ?_
                                                                                                                                                        refine lv_icmp_ge (tgt := 75) hx hb dX12_paint_63 (by decide) (fun c480 => ?_) (fun c480 => ?_)
                                                                                                                                                        · refine lv_iconst (v := 0) hx hb dX12_paint_75 (by decide) ?_
                                                                                                                                                          refine lz_astc hx hb hK hP hD hS 9 0 rfl rfl (lz_vp (x := 73) (n := 160) (by decide) (by decide)) dX12_paint_76 (fun H locs hP hD hS => ?_)
                                                                                                                                                          refine lv_iinc (v := 34) (lv' := [(3, .int 34), (0, .ref h0), (1, .int 1), (2, .int x1)]) hx hb dX12_paint_77 hl (k := 0) rfl (by decide) (by decide) rfl (fun ls hl => ?_)
                                                                                                                                                          refine lv_goto (tgt := 42) hx hb dX12_paint_80 (by decide) ?_
                                                                                                                                                          refine lv_iload_n hx hb dX12_paint_42 rfl (lv_at hl 0 rfl) ?_
                                                                                                                                                          refine lv_bipush (v := 40) hx hb dX12_paint_43 (by decide) ?_
                                                                                                                                                          refine lv_icmp_ge (tgt := 83) hx hb dX12_paint_45 (by decide) (fun c481 => ?_) (fun c481 => ?_)
                                                                                                                                                          · exact absurd c481 (by decide)
                                                                                                                                                          · refine lv_aload_n hx hb dX12_paint_48 rfl (lv_at hl 1 rfl) ?_
                                                                                                                                                            refine va_get (D := D) (ci := 12) (v := .ref h11) (C := RX12) (T := TX12) (N := 24) hx hb hts hin12 hown hK hP 14 rfl rfl 18 (by decide) (hts (.fieldLink RX12 44 "MissedPointsModel" "items" "[I") (by decide +kernel)) (fun _ h9 => h9) rfl dX12_paint_49 ?_
                                                                                                                                                            refine lv_bipush (v := 40) hx hb dX12_paint_52 (by decide) ?_
                                                                                                                                                            refine lv_iload_n hx hb dX12_paint_54 rfl (lv_at hl 2 rfl) ?_
                                                                                                                                                            refine lv_imul hx hb dX12_paint_55 ?_
                                                                                                                                                            refine lz_top (y := 40) (by decide) ?_
                                                                                                                                                            refine lv_iload_n hx hb dX12_paint_56 rfl (lv_at hl 0 rfl) ?_
                                                                                                                                                            refine lv_iadd hx hb dX12_paint_57 ?_
                                                                                                                                                            refine lz_top (y := 74) (by decide) ?_
                                                                                                                                                            refine lv_iload_n hx hb dX12_paint_58 rfl (lv_at hl 0 rfl) ?_
                                                                                                                                                            refine lv_aload_n hx hb dX12_paint_59 rfl (lv_at hl 1 rfl) ?_
                                                                                                                                                            refine va_get (D := D) (ci := 12) (v := .int 0) (C := RX12) (T := TX12) (N := 24) hx hb hts hin12 hown hK hP 14 rfl rfl 0 (by decide) (hts (.fieldLink RX12 63 "MissedPointsModel" "many" "I") (by decide +kernel)) (fun _ h9 => h9) rfl dX12_paint_60 ?_
                                                                                                                                                            refine lv_icmp_ge (tgt := 75) hx hb dX12_paint_63 (by decide) (fun c482 => ?_) (fun c482 => ?_)
                                                                                                                                                            · refine lv_iconst (v := 0) hx hb dX12_paint_75 (by decide) ?_
                                                                                                                                                              refine lz_astc hx hb hK hP hD hS 9 0 rfl rfl (lz_vp (x := 74) (n := 160) (by decide) (by decide)) dX12_paint_76 (fun H locs hP hD hS => ?_)
                                                                                                                                                              refine lv_iinc (v := 35) (lv' := [(3, .int 35), (0, .ref h0), (1, .int 1), (2, .int x1)]) hx hb dX12_paint_77 hl (k := 0) rfl (by decide) (by decide) rfl (fun ls hl => ?_)
                                                                                                                                                              refine lv_goto (tgt := 42) hx hb dX12_paint_80 (by decide) ?_
                                                                                                                                                              refine lv_iload_n hx hb dX12_paint_42 rfl (lv_at hl 0 rfl) ?_
                                                                                                                                                              refine lv_bipush (v := 40) hx hb dX12_paint_43 (by decide) ?_
                                                                                                                                                              refine lv_icmp_ge (tgt := 83) hx hb dX12_paint_45 (by decide) (fun c483 => ?_) (fun c483 => ?_)
                                                                                                                                                              · exact absurd c483 (by decide)
                                                                                                                                                              · refine lv_aload_n hx hb dX12_paint_48 rfl (lv_at hl 1 rfl) ?_
                                                                                                                                                                refine va_get (D := D) (ci := 12) (v := .ref h11) (C := RX12) (T := TX12) (N := 24) hx hb hts hin12 hown hK hP 14 rfl rfl 18 (by decide) (hts (.fieldLink RX12 44 "MissedPointsModel" "items" "[I") (by decide +kernel)) (fun _ h9 => h9) rfl dX12_paint_49 ?_
                                                                                                                                                                refine lv_bipush (v := 40) hx hb dX12_paint_52 (by decide) ?_
                                                                                                                                                                refine lv_iload_n hx hb dX12_paint_54 rfl (lv_at hl 2 rfl) ?_
                                                                                                                                                                refine lv_imul hx hb dX12_paint_55 ?_
                                                                                                                                                                refine lz_top (y := 40) (by decide) ?_
                                                                                                                                                                refine lv_iload_n hx hb dX12_paint_56 rfl (lv_at hl 0 rfl) ?_
                                                                                                                                                                refine lv_iadd hx hb dX12_paint_57 ?_
                                                                                                                                                                refine lz_top (y := 75) (by decide) ?_
                                                                                                                                                                refine lv_iload_n hx hb dX12_paint_58 rfl (lv_at hl 0 rfl) ?_
                                                                                                                                                                refine lv_aload_n hx hb dX12_paint_59 rfl (lv_at hl 1 rfl) ?_
                                                                                                                                                                refine va_get (D := D) (ci := 12) (v := .int 0) (C := RX12) (T := TX12) (N := 24) hx hb hts hin12 hown hK hP 14 rfl rfl 0 (by decide) (hts (.fieldLink RX12 63 "MissedPointsModel" "many" "I") (by decide +kernel)) (fun _ h9 => h9) rfl dX12_paint_60 ?_
                                                                                                                                                                refine lv_icmp_ge (tgt := 75) hx hb dX12_paint_63 (by decide) (fun c484 => ?_) (fun c484 => ?_)
                                                                                                                                                                · refine lv_iconst (v := 0) hx hb dX12_paint_75 (by decide) ?_
                                                                                                                                                                  refine lz_astc hx hb hK hP hD hS 9 0 rfl rfl (lz_vp (x := 75) (n := 160) (by decide) (by decide)) dX12_paint_76 (fun H locs hP hD hS => ?_)
                                                                                                                                                                  refine lv_iinc (v := 36) (lv' := [(3, .int 36), (0, .ref h0), (1, .int 1), (2, .int x1)]) hx hb dX12_paint_77 hl (k := 0) rfl (by decide) (by decide) rfl (fun ls hl => ?_)
                                                                                                                                                                  refine lv_goto (tgt := 42) hx hb dX12_paint_80 (by decide) ?_
                                                                                                                                                                  refine lv_iload_n hx hb dX12_paint_42 rfl (lv_at hl 0 rfl) ?_
                                                                                                                                                                  refine lv_bipush (v := 40) hx hb dX12_paint_43 (by decide) ?_
                                                                                                                                                                  refine lv_icmp_ge (tgt := 83) hx hb dX12_paint_45 (by decide) (fun c485 => ?_) (fun c485 => ?_)
                                                                                                                                                                  · exact absurd c485 (by decide)
                                                                                                                                                                  · refine lv_aload_n hx hb dX12_paint_48 rfl (lv_at hl 1 rfl) ?_
                                                                                                                                                                    refine va_get (D := D) (ci := 12) (v := .ref h11) (C := RX12) (T := TX12) (N := 24) hx hb hts hin12 hown hK hP 14 rfl rfl 18 (by decide) (hts (.fieldLink RX12 44 "MissedPointsModel" "items" "[I") (by decide +kernel)) (fun _ h9 => h9) rfl dX12_paint_49 ?_
                                                                                                                                                                    refine lv_bipush (v := 40) hx hb dX12_paint_52 (by decide) ?_
                                                                                                                                                                    refine lv_iload_n hx hb dX12_paint_54 rfl (lv_at hl 2 rfl) ?_
                                                                                                                                                                    refine lv_imul hx hb dX12_paint_55 ?_
                                                                                                                                                                    refine lz_top (y := 40) (by decide) ?_
                                                                                                                                                                    refine lv_iload_n hx hb dX12_paint_56 rfl (lv_at hl 0 rfl) ?_
                                                                                                                                                                    refine lv_iadd hx hb dX12_paint_57 ?_
                                                                                                                                                                    refine lz_top (y := 76) (by decide) ?_
                                                                                                                                                                    refine lv_iload_n hx hb dX12_paint_58 rfl (lv_at hl 0 rfl) ?_
                                                                                                                                                                    refine lv_aload_n hx hb dX12_paint_59 rfl (lv_at hl 1 rfl) ?_
                                                                                                                                                                    refine va_get (D := D) (ci := 12) (v := .int 0) (C := RX12) (T := TX12) (N := 24) hx hb hts hin12 hown hK hP 14 rfl rfl 0 (by decide) (hts (.fieldLink RX12 63 "MissedPointsModel" "many" "I") (by decide +kernel)) (fun _ h9 => h9) rfl dX12_paint_60 ?_
                                                                                                                                                                    refine lv_icmp_ge (tgt := 75) hx hb dX12_paint_63 (by decide) (fun c486 => ?_) (fun c486 => ?_)
                                                                                                                                                                    · refine lv_iconst (v := 0) hx hb dX12_paint_75 (by decide) ?_
                                                                                                                                                                      refine lz_astc hx hb hK hP hD hS 9 0 rfl rfl (lz_vp (x := 76) (n := 160) (by decide) (by decide)) dX12_paint_76 (fun H locs hP hD hS => ?_)
                                                                                                                                                                      refine lv_iinc (v := 37) (lv' := [(3, .int 37), (0, .ref h0), (1, .int 1), (2, .int x1)]) hx hb dX12_paint_77 hl (k := 0) rfl (by decide) (by decide) rfl (fun ls hl => ?_)
                                                                                                                                                                      refine lv_goto (tgt := 42) hx hb dX12_paint_80 (by decide) ?_
                                                                                                                                                                      refine lv_iload_n hx hb dX12_paint_42 rfl (lv_at hl 0 rfl) ?_
                                                                                                                                                                      refine lv_bipush (v := 40) hx hb dX12_paint_43 (by decide) ?_
                                                                                                                                                                      refine lv_icmp_ge (tgt := 83) hx hb dX12_paint_45 (by decide) (fun c487 => ?_) (fun c487 => ?_)
                                                                                                                                                                      · exact absurd c487 (by decide)
                                                                                                                                                                      · refine lv_aload_n hx hb dX12_paint_48 rfl (lv_at hl 1 rfl) ?_
                                                                                                                                                                        refine va_get (D := D) (ci := 12) (v := .ref h11) (C := RX12) (T := TX12) (N := 24) hx hb hts hin12 hown hK hP 14 rfl rfl 18 (by decide) (hts (.fieldLink RX12 44 "MissedPointsModel" "items" "[I") (by decide +kernel)) (fun _ h9 => h9) rfl dX12_paint_49 ?_
                                                                                                                                                                        refine lv_bipush (v := 40) hx hb dX12_paint_52 (by decide) ?_
                                                                                                                                                                        refine lv_iload_n hx hb dX12_paint_54 rfl (lv_at hl 2 rfl) ?_
                                                                                                                                                                        refine lv_imul hx hb dX12_paint_55 ?_
                                                                                                                                                                        refine lz_top (y := 40) (by decide) ?_
                                                                                                                                                                        refine lv_iload_n hx hb dX12_paint_56 rfl (lv_at hl 0 rfl) ?_
                                                                                                                                                                        refine lv_iadd hx hb dX12_paint_57 ?_
                                                                                                                                                                        refine lz_top (y := 77) (by decide) ?_
                                                                                                                                                                        refine lv_iload_n hx hb dX12_paint_58 rfl (lv_at hl 0 rfl) ?_
                                                                                                                                                                        refine lv_aload_n hx hb dX12_paint_59 rfl (lv_at hl 1 rfl) ?_
                                                                                                                                                                        refine va_get (D := D) (ci := 12) (v := .int 0) (C := RX12) (T := TX12) (N := 24) hx hb hts hin12 hown hK hP 14 rfl rfl 0 (by decide) (hts (.fieldLink RX12 63 "MissedPointsModel" "many" "I") (by decide +kernel)) (fun _ h9 => h9) rfl dX12_paint_60 ?_
                                                                                                                                                                        refine lv_icmp_ge (tgt := 75) hx hb dX12_paint_63 (by decide) (fun c488 => ?_) (fun c488 => ?_)
                                                                                                                                                                        · refine lv_iconst (v := 0) hx hb dX12_paint_75 (by decide) ?_
                                                                                                                                                                          refine lz_astc hx hb hK hP hD hS 9 0 rfl rfl (lz_vp (x := 77) (n := 160) (by decide) (by decide)) dX12_paint_76 (fun H locs hP hD hS => ?_)
                                                                                                                                                                          refine lv_iinc (v := 38) (lv' := [(3, .int 38), (0, .ref h0), (1, .int 1), (2, .int x1)]) hx hb dX12_paint_77 hl (k := 0) rfl (by decide) (by decide) rfl (fun ls hl => ?_)
                                                                                                                                                                          refine lv_goto (tgt := 42) hx hb dX12_paint_80 (by decide) ?_
                                                                                                                                                                          refine lv_iload_n hx hb dX12_paint_42 rfl (lv_at hl 0 rfl) ?_
                                                                                                                                                                          refine lv_bipush (v := 40) hx hb dX12_paint_43 (by decide) ?_
                                                                                                                                                                          refine lv_icmp_ge (tgt := 83) hx hb dX12_paint_45 (by decide) (fun c489 => ?_) (fun c489 => ?_)
                                                                                                                                                                          · exact absurd c489 (by decide)
                                                                                                                                                                          · refine lv_aload_n hx hb dX12_paint_48 rfl (lv_at hl 1 rfl) ?_
                                                                                                                                                                            refine va_get (D := D) (ci := 12) (v := .ref h11) (C := RX12) (T := TX12) (N := 24) hx hb hts hin12 hown hK hP 14 rfl rfl 18 (by decide) (hts (.fieldLink RX12 44 "MissedPointsModel" "items" "[I") (by decide +kernel)) (fun _ h9 => h9) rfl dX12_paint_49 ?_
                                                                                                                                                                            refine lv_bipush (v := 40) hx hb dX12_paint_52 (by decide) ?_
                                                                                                                                                                            refine lv_iload_n hx hb dX12_paint_54 rfl (lv_at hl 2 rfl) ?_
                                                                                                                                                                            refine lv_imul hx hb dX12_paint_55 ?_
                                                                                                                                                                            refine lz_top (y := 40) (by decide) ?_
                                                                                                                                                                            refine lv_iload_n hx hb dX12_paint_56 rfl (lv_at hl 0 rfl) ?_
                                                                                                                                                                            refine lv_iadd hx hb dX12_paint_57 ?_
                                                                                                                                                                            refine lz_top (y := 78) (by decide) ?_
                                                                                                                                                                            refine lv_iload_n hx hb dX12_paint_58 rfl (lv_at hl 0 rfl) ?_
                                                                                                                                                                            refine lv_aload_n hx hb dX12_paint_59 rfl (lv_at hl 1 rfl) ?_
                                                                                                                                                                            refine va_get (D := D) (ci := 12) (v := .int 0) (C := RX12) (T := TX12) (N := 24) hx hb hts hin12 hown hK hP 14 rfl rfl 0 (by decide) (hts (.fieldLink RX12 63 "MissedPointsModel" "many" "I") (by decide +kernel)) (fun _ h9 => h9) rfl dX12_paint_60 ?_
                                                                                                                                                                            refine lv_icmp_ge (tgt := 75) hx hb dX12_paint_63 (by decide) (fun c490 => ?_) (fun c490 => ?_)
                                                                                                                                                                            · refine lv_iconst (v := 0) hx hb dX12_paint_75 (by decide) ?_
                                                                                                                                                                              refine lz_astc hx hb hK hP hD hS 9 0 rfl rfl (lz_vp (x := 78) (n := 160) (by decide) (by decide)) dX12_paint_76 (fun H locs hP hD hS => ?_)
                                                                                                                                                                              refine lv_iinc (v := 39) (lv' := [(3, .int 39), (0, .ref h0), (1, .int 1), (2, .int x1)]) hx hb dX12_paint_77 hl (k := 0) rfl (by decide) (by decide) rfl (fun ls hl => ?_)
                                                                                                                                                                              refine lv_goto (tgt := 42) hx hb dX12_paint_80 (by decide) ?_
                                                                                                                                                                              refine lv_iload_n hx hb dX12_paint_42 rfl (lv_at hl 0 rfl) ?_
                                                                                                                                                                              refine lv_bipush (v := 40) hx hb dX12_paint_43 (by decide) ?_
                                                                                                                                                                              refine lv_icmp_ge (tgt := 83) hx hb dX12_paint_45 (by decide) (fun c491 => ?_) (fun c491 => ?_)
                                                                                                                                                                              · exact absurd c491 (by decide)
                                                                                                                                                                              · refine lv_aload_n hx hb dX12_paint_48 rfl (lv_at hl 1 rfl) ?_
                                                                                                                                                                                refine va_get (D := D) (ci := 12) (v := .ref h11) (C := RX12) (T := TX12) (N := 24) hx hb hts hin12 hown hK hP 14 rfl rfl 18 (by decide) (hts (.fieldLink RX12 44 "MissedPointsModel" "items" "[I") (by decide +kernel)) (fun _ h9 => h9) rfl dX12_paint_49 ?_
                                                                                                                                                                                refine lv_bipush (v := 40) hx hb dX12_paint_52 (by decide) ?_
                                                                                                                                                                                refine lv_iload_n hx hb dX12_paint_54 rfl (lv_at hl 2 rfl) ?_
                                                                                                                                                                                refine lv_imul hx hb dX12_paint_55 ?_
                                                                                                                                                                                refine lz_top (y := 40) (by decide) ?_
                                                                                                                                                                                refine lv_iload_n hx hb dX12_paint_56 rfl (lv_at hl 0 rfl) ?_
                                                                                                                                                                                refine lv_iadd hx hb dX12_paint_57 ?_
                                                                                                                                                                                refine lz_top (y := 79) (by decide) ?_
                                                                                                                                                                                refine lv_iload_n hx hb dX12_paint_58 rfl (lv_at hl 0 rfl) ?_
                                                                                                                                                                                refine lv_aload_n hx hb dX12_paint_59 rfl (lv_at hl 1 rfl) ?_
                                                                                                                                                                                refine va_get (D := D) (ci := 12) (v := .int 0) (C := RX12) (T := TX12) (N := 24) hx hb hts hin12 hown hK hP 14 rfl rfl 0 (by decide) (hts (.fieldLink RX12 63 "MissedPointsModel" "many" "I") (by decide +kernel)) (fun _ h9 => h9) rfl dX12_paint_60 ?_
                                                                                                                                                                                refine lv_icmp_ge (tgt := 75) hx hb dX12_paint_63 (by decide) (fun c492 => ?_) (fun c492 => ?_)
                                                                                                                                                                                · refine lv_iconst (v := 0) hx hb dX12_paint_75 (by decide) ?_
                                                                                                                                                                                  refine lz_astc hx hb hK hP hD hS 9 0 rfl rfl (lz_vp (x := 79) (n := 160) (by decide) (by decide)) dX12_paint_76 (fun H locs hP hD hS => ?_)
                                                                                                                                                                                  refine lv_iinc (v := 40) (lv' := [(3, .int 40), (0, .ref h0), (1, .int 1), (2, .int x1)]) hx hb dX12_paint_77 hl (k := 0) rfl (by decide) (by decide) rfl (fun ls hl => ?_)
                                                                                                                                                                                  refine lv_goto (tgt := 42) hx hb dX12_paint_80 (by decide) ?_
                                                                                                                                                                                  refine lv_iload_n hx hb dX12_paint_42 rfl (lv_at hl 0 rfl) ?_
                                                                                                                                                                                  refine lv_bipush (v := 40) hx hb dX12_paint_43 (by decide) ?_
                                                                                                                                                                                  refine lv_icmp_ge (tgt := 83) hx hb dX12_paint_45 (by decide) (fun c493 => ?_) (fun c493 => ?_)
                                                                                                                                                                                  · refine lv_aload_n hx hb dX12_paint_83 rfl (lv_at hl 1 rfl) ?_
                                                                                                                                                                                    refine va_get (D := D) (ci := 12) (v := .int 0) (C := RX12) (T := TX12) (N := 24) hx hb hts hin12 hown hK hP 14 rfl rfl 0 (by decide) (hts (.fieldLink RX12 63 "MissedPointsModel" "many" "I") (by decide +kernel)) (fun _ h9 => h9) rfl dX12_paint_84 ?_
                                                                                                                                                                                    have hP9 := hP.sub (ws' := []) [] rfl
                                                                                                                                                                                    have hD9 := hD.sub (ws' := []) [] (by decide) rfl
                                                                                                                                                                                    subst hAe
                                                                                                                                                                                    exact W.iret (v := 0) hx hb hr (fun t ht hW => ⟨⟨_, (), rfl, by rw [if_neg k315, if_neg k317, if_neg k321, if_neg k323], by rw [ht]; exact hP9, hD9⟩, hS.F ht⟩) hS.2.2 dX12_paint_87
                                                                                                                                                                                  · exact absurd c493 (by decide)
                                                                                                                                                                                · exact absurd c492 (by decide)
                                                                                                                                                                            · exact absurd c490 (by decide)
                                                                                                                                                                        · exact absurd c488 (by decide)
                                                                                                                                                                    · exact absurd c486 (by decide)
                                                                                                                                                                · exact absurd c484 (by decide)
                                                                                                                                                            · exact absurd c482 (by decide)
                                                                                                                                                        · exact absurd c480 (by decide)
                                                                                                                                                    · exact absurd c478 (by decide)
                                                                                                                                                · exact absurd c476 (by decide)
                                                                                                                                            · exact absurd c474 (by decide)
                                                                                                                                        · exact absurd c472 (by decide)
                                                                                                                                    · exact absurd c470 (by decide)
                                                                                                                                · exact absurd c468 (by decide)
                                                                                                                            · exact absurd c466 (by decide)
                                                                                                                        · exact absurd c464 (by decide)
                                                                                                                    · exact absurd c462 (by decide)
                                                                                                                · exact absurd c460 (by decide)
                                                                                                            · exact absurd c458 (by decide)
                                                                                                        · exact absurd c456 (by decide)
                                                                                                    · exact absurd c454 (by decide)
                                                                                                · exact absurd c452 (by decide)
                                                                                            · exact absurd c450 (by decide)
                                                                                        · exact absurd c448 (by decide)
                                                                                    · exact absurd c446 (by decide)
                                                                                · exact absurd c444 (by decide)
                                                                            · exact absurd c442 (by decide)
                                                                        · exact absurd c440 (by decide)
                                                                    · exact absurd c438 (by decide)
                                                                · exact absurd c436 (by decide)
                                                            · exact absurd c434 (by decide)
                                                        · exact absurd c432 (by decide)
                                                    · exact absurd c430 (by decide)
                                                · exact absurd c428 (by decide)
                                            · exact absurd c426 (by decide)
                                        · exact absurd c424 (by decide)
                                    · exact absurd c422 (by decide)
                                · exact absurd c420 (by decide)
                            · exact absurd c418 (by decide)
                        · exact absurd c416 (by decide)
                    · exact absurd c414 (by decide)
                · by_cases k494 : x0 = 2
                  · subst k494
                    refine va_iast hx hb hK hP hD hS 7 0 rfl rfl (lz_vp (x := 2) (n := 4) (by decide) (by decide)) dX12_paint_29 (fun H locs hP hD hS => ?_)
                    have hP : va_P D cls [(h1, .inl (cI, 12, .inl (fun _ => 0))), (h2, .inl (cI, 4096, .inl (fun _ => 0))), (h4, .inl (cI, 28672, .inl (fun _ => 0))), (h5, .inl (cI, 12, .inl (fun _ => 0))), (h6, .inl (cI, 12, .inl (fun _ => 0))), (h7, .inl (cI, 12, .inl (fun _ => 0))), (h8, .inl (cI, 120, .inl (fun _ => 0))), (h9, .inl (cI, 4, .inl (upd (fun _ => -1) 2 x1))), (h10, .inl (cI, 4, .inl (fun _ => 0))), (h11, .inl (cI, 160, .inl (fun _ => 0))), (h12, .inl (cI, 4, .inl (fun _ => -1))), (h13, .inl (cI, 4, .inl (fun _ => 0))), (h14, .inl (cI, 4, .inl (fun _ => 0))), (h15, .inl (cI, 28, .inl (fun _ => 0))), (h0, .inr (12, [.int 0, .int 1, .ref h1, .ref h2, .ref h3, .ref h4, .ref h5, .ref h6, .ref h7, .ref h8, .int 0, .int 0, .int 0, .int 0, .int 0, .int 0, .ref h9, .ref h10, .ref h11, .ref h12, .ref h13, .ref h14, .ref h15, .int 0])), (h3, .inl (cI, 4096, .inl (upd (fun _ => 0) 0 1)))] H := hP
                    have hD : va_D A [(h1, .inl (cI, 12, .inl (fun _ => 0))), (h2, .inl (cI, 4096, .inl (fun _ => 0))), (h4, .inl (cI, 28672, .inl (fun _ => 0))), (h5, .inl (cI, 12, .inl (fun _ => 0))), (h6, .inl (cI, 12, .inl (fun _ => 0))), (h7, .inl (cI, 12, .inl (fun _ => 0))), (h8, .inl (cI, 120, .inl (fun _ => 0))), (h9, .inl (cI, 4, .inl (upd (fun _ => -1) 2 x1))), (h10, .inl (cI, 4, .inl (fun _ => 0))), (h11, .inl (cI, 160, .inl (fun _ => 0))), (h12, .inl (cI, 4, .inl (fun _ => -1))), (h13, .inl (cI, 4, .inl (fun _ => 0))), (h14, .inl (cI, 4, .inl (fun _ => 0))), (h15, .inl (cI, 28, .inl (fun _ => 0))), (h0, .inr (12, [.int 0, .int 1, .ref h1, .ref h2, .ref h3, .ref h4, .ref h5, .ref h6, .ref h7, .ref h8, .int 0, .int 0, .int 0, .int 0, .int 0, .int 0, .ref h9, .ref h10, .ref h11, .ref h12, .ref h13, .ref h14, .ref h15, .int 0])), (h3, .inl (cI, 4096, .inl (upd (fun _ => 0) 0 1)))] := hD
                    refine lv_aload_n hx hb dX12_paint_30 rfl (lv_at hl 0 rfl) ?_
                    refine va_get (D := D) (ci := 12) (v := .ref h10) (C := RX12) (T := TX12) (N := 24) hx hb hts hin12 hown hK hP 14 rfl rfl 17 (by decide) (hts (.fieldLink RX12 41 "MissedPointsModel" "size" "[I") (by decide +kernel)) (fun _ h9 => h9) rfl dX12_paint_31 ?_
                    refine lv_iload_n hx hb dX12_paint_34 rfl (lv_at hl 1 rfl) ?_
                    refine lv_aload_n hx hb dX12_paint_35 rfl (lv_at hl 0 rfl) ?_
                    refine va_get (D := D) (ci := 12) (v := .int 0) (C := RX12) (T := TX12) (N := 24) hx hb hts hin12 hown hK hP 14 rfl rfl 0 (by decide) (hts (.fieldLink RX12 63 "MissedPointsModel" "many" "I") (by decide +kernel)) (fun _ h9 => h9) rfl dX12_paint_36 ?_
                    refine lz_astc hx hb hK hP hD hS 8 0 rfl rfl (lz_vp (x := 2) (n := 4) (by decide) (by decide)) dX12_paint_39 (fun H locs hP hD hS => ?_)
                    refine lv_iconst (v := 0) hx hb dX12_paint_40 (by decide) ?_
                    refine lv_istore_n (lv' := [(3, .int 0), (0, .ref h0), (1, .int 2), (2, .int x1)]) hx hb dX12_paint_41 rfl hl (by decide) rfl (fun ls hl => ?_)
                    refine lv_iload_n hx hb dX12_paint_42 rfl (lv_at hl 0 rfl) ?_
                    refine lv_bipush (v := 40) hx hb dX12_paint_43 (by decide) ?_
                    refine lv_icmp_ge (tgt := 83) hx hb dX12_paint_45 (by decide) (fun c495 => ?_) (fun c495 => ?_)
                    · exact absurd c495 (by decide)
                    · refine lv_aload_n hx hb dX12_paint_48 rfl (lv_at hl 1 rfl) ?_
                      refine va_get (D := D) (ci := 12) (v := .ref h11) (C := RX12) (T := TX12) (N := 24) hx hb hts hin12 hown hK hP 14 rfl rfl 18 (by decide) (hts (.fieldLink RX12 44 "MissedPointsModel" "items" "[I") (by decide +kernel)) (fun _ h9 => h9) rfl dX12_paint_49 ?_
                      refine lv_bipush (v := 40) hx hb dX12_paint_52 (by decide) ?_
                      refine lv_iload_n hx hb dX12_paint_54 rfl (lv_at hl 2 rfl) ?_
                      refine lv_imul hx hb dX12_paint_55 ?_
                      refine lz_top (y := 80) (by decide) ?_
                      refine lv_iload_n hx hb dX12_paint_56 rfl (lv_at hl 0 rfl) ?_
                      refine lv_iadd hx hb dX12_paint_57 ?_
                      refine lz_top (y := 80) (by decide) ?_
                      refine lv_iload_n hx hb dX12_paint_58 rfl (lv_at hl 0 rfl) ?_
                      refine lv_aload_n hx hb dX12_paint_59 rfl (lv_at hl 1 rfl) ?_
                      refine va_get (D := D) (ci := 12) (v := .int 0) (C := RX12) (T := TX12) (N := 24) hx hb hts hin12 hown hK hP 14 rfl rfl 0 (by decide) (hts (.fieldLink RX12 63 "MissedPointsModel" "many" "I") (by decide +kernel)) (fun _ h9 => h9) rfl dX12_paint_60 ?_
                      refine lv_icmp_ge (tgt := 75) hx hb dX12_paint_63 (by decide) (fun c496 => ?_) (fun c496 => ?_)
                      · refine lv_iconst (v := 0) hx hb dX12_paint_75 (by decide) ?_
                        refine lz_astc hx hb hK hP hD hS 9 0 rfl rfl (lz_vp (x := 80) (n := 160) (by decide) (by decide)) dX12_paint_76 (fun H locs hP hD hS => ?_)
                        refine lv_iinc (v := 1) (lv' := [(3, .int 1), (0, .ref h0), (1, .int 2), (2, .int x1)]) hx hb dX12_paint_77 hl (k := 0) rfl (by decide) (by decide) rfl (fun ls hl => ?_)
                        refine lv_goto (tgt := 42) hx hb dX12_paint_80 (by decide) ?_
                        refine lv_iload_n hx hb dX12_paint_42 rfl (lv_at hl 0 rfl) ?_
                        refine lv_bipush (v := 40) hx hb dX12_paint_43 (by decide) ?_
                        refine lv_icmp_ge (tgt := 83) hx hb dX12_paint_45 (by decide) (fun c497 => ?_) (fun c497 => ?_)
                        · exact absurd c497 (by decide)
                        · refine lv_aload_n hx hb dX12_paint_48 rfl (lv_at hl 1 rfl) ?_
                          refine va_get (D := D) (ci := 12) (v := .ref h11) (C := RX12) (T := TX12) (N := 24) hx hb hts hin12 hown hK hP 14 rfl rfl 18 (by decide) (hts (.fieldLink RX12 44 "MissedPointsModel" "items" "[I") (by decide +kernel)) (fun _ h9 => h9) rfl dX12_paint_49 ?_
                          refine lv_bipush (v := 40) hx hb dX12_paint_52 (by decide) ?_
                          refine lv_iload_n hx hb dX12_paint_54 rfl (lv_at hl 2 rfl) ?_
                          refine lv_imul hx hb dX12_paint_55 ?_
                          refine lz_top (y := 80) (by decide) ?_
                          refine lv_iload_n hx hb dX12_paint_56 rfl (lv_at hl 0 rfl) ?_
                          refine lv_iadd hx hb dX12_paint_57 ?_
                          refine lz_top (y := 81) (by decide) ?_
                          refine lv_iload_n hx hb dX12_paint_58 rfl (lv_at hl 0 rfl) ?_
                          refine lv_aload_n hx hb dX12_paint_59 rfl (lv_at hl 1 rfl) ?_
                          refine va_get (D := D) (ci := 12) (v := .int 0) (C := RX12) (T := TX12) (N := 24) hx hb hts hin12 hown hK hP 14 rfl rfl 0 (by decide) (hts (.fieldLink RX12 63 "MissedPointsModel" "many" "I") (by decide +kernel)) (fun _ h9 => h9) rfl dX12_paint_60 ?_
                          refine lv_icmp_ge (tgt := 75) hx hb dX12_paint_63 (by decide) (fun c498 => ?_) (fun c498 => ?_)
                          · refine lv_iconst (v := 0) hx hb dX12_paint_75 (by decide) ?_
                            refine lz_astc hx hb hK hP hD hS 9 0 rfl rfl (lz_vp (x := 81) (n := 160) (by decide) (by decide)) dX12_paint_76 (fun H locs hP hD hS => ?_)
                            refine lv_iinc (v := 2) (lv' := [(3, .int 2), (0, .ref h0), (1, .int 2), (2, .int x1)]) hx hb dX12_paint_77 hl (k := 0) rfl (by decide) (by decide) rfl (fun ls hl => ?_)
                            refine lv_goto (tgt := 42) hx hb dX12_paint_80 (by decide) ?_
                            refine lv_iload_n hx hb dX12_paint_42 rfl (lv_at hl 0 rfl) ?_
                            refine lv_bipush (v := 40) hx hb dX12_paint_43 (by decide) ?_
                            refine lv_icmp_ge (tgt := 83) hx hb dX12_paint_45 (by decide) (fun c499 => ?_) (fun c499 => ?_)
                            · exact absurd c499 (by decide)
                            · refine lv_aload_n hx hb dX12_paint_48 rfl (lv_at hl 1 rfl) ?_
                              refine va_get (D := D) (ci := 12) (v := .ref h11) (C := RX12) (T := TX12) (N := 24) hx hb hts hin12 hown hK hP 14 rfl rfl 18 (by decide) (hts (.fieldLink RX12 44 "MissedPointsModel" "items" "[I") (by decide +kernel)) (fun _ h9 => h9) rfl dX12_paint_49 ?_
                              refine lv_bipush (v := 40) hx hb dX12_paint_52 (by decide) ?_
                              refine lv_iload_n hx hb dX12_paint_54 rfl (lv_at hl 2 rfl) ?_
                              refine lv_imul hx hb dX12_paint_55 ?_
                              refine lz_top (y := 80) (by decide) ?_
                              refine lv_iload_n hx hb dX12_paint_56 rfl (lv_at hl 0 rfl) ?_
                              refine lv_iadd hx hb dX12_paint_57 ?_
                              refine lz_top (y := 82) (by decide) ?_
                              refine lv_iload_n hx hb dX12_paint_58 rfl (lv_at hl 0 rfl) ?_
                              refine lv_aload_n hx hb dX12_paint_59 rfl (lv_at hl 1 rfl) ?_
                              refine va_get (D := D) (ci := 12) (v := .int 0) (C := RX12) (T := TX12) (N := 24) hx hb hts hin12 hown hK hP 14 rfl rfl 0 (by decide) (hts (.fieldLink RX12 63 "MissedPointsModel" "many" "I") (by decide +kernel)) (fun _ h9 => h9) rfl dX12_paint_60 ?_
                              refine lv_icmp_ge (tgt := 75) hx hb dX12_paint_63 (by decide) (fun c500 => ?_) (fun c500 => ?_)
                              · refine lv_iconst (v := 0) hx hb dX12_paint_75 (by decide) ?_
                                refine lz_astc hx hb hK hP hD hS 9 0 rfl rfl (lz_vp (x := 82) (n := 160) (by decide) (by decide)) dX12_paint_76 (fun H locs hP hD hS => ?_)
                                refine lv_iinc (v := 3) (lv' := [(3, .int 3), (0, .ref h0), (1, .int 2), (2, .int x1)]) hx hb dX12_paint_77 hl (k := 0) rfl (by decide) (by decide) rfl (fun ls hl => ?_)
                                refine lv_goto (tgt := 42) hx hb dX12_paint_80 (by decide) ?_
                                refine lv_iload_n hx hb dX12_paint_42 rfl (lv_at hl 0 rfl) ?_
                                refine lv_bipush (v := 40) hx hb dX12_paint_43 (by decide) ?_
                                refine lv_icmp_ge (tgt := 83) hx hb dX12_paint_45 (by decide) (fun c501 => ?_) (fun c501 => ?_)
                                · exact absurd c501 (by decide)
                                · refine lv_aload_n hx hb dX12_paint_48 rfl (lv_at hl 1 rfl) ?_
                                  refine va_get (D := D) (ci := 12) (v := .ref h11) (C := RX12) (T := TX12) (N := 24) hx hb hts hin12 hown hK hP 14 rfl rfl 18 (by decide) (hts (.fieldLink RX12 44 "MissedPointsModel" "items" "[I") (by decide +kernel)) (fun _ h9 => h9) rfl dX12_paint_49 ?_
                                  refine lv_bipush (v := 40) hx hb dX12_paint_52 (by decide) ?_
                                  refine lv_iload_n hx hb dX12_paint_54 rfl (lv_at hl 2 rfl) ?_
                                  refine lv_imul hx hb dX12_paint_55 ?_
                                  refine lz_top (y := 80) (by decide) ?_
                                  refine lv_iload_n hx hb dX12_paint_56 rfl (lv_at hl 0 rfl) ?_
                                  refine lv_iadd hx hb dX12_paint_57 ?_
                                  refine lz_top (y := 83) (by decide) ?_
                                  refine lv_iload_n hx hb dX12_paint_58 rfl (lv_at hl 0 rfl) ?_
                                  refine lv_aload_n hx hb dX12_paint_59 rfl (lv_at hl 1 rfl) ?_
                                  refine va_get (D := D) (ci := 12) (v := .int 0) (C := RX12) (T := TX12) (N := 24) hx hb hts hin12 hown hK hP 14 rfl rfl 0 (by decide) (hts (.fieldLink RX12 63 "MissedPointsModel" "many" "I") (by decide +kernel)) (fun _ h9 => h9) rfl dX12_paint_60 ?_
                                  refine lv_icmp_ge (tgt := 75) hx hb dX12_paint_63 (by decide) (fun c502 => ?_) (fun c502 => ?_)
                                  · refine lv_iconst (v := 0) hx hb dX12_paint_75 (by decide) ?_
                                    refine lz_astc hx hb hK hP hD hS 9 0 rfl rfl (lz_vp (x := 83) (n := 160) (by decide) (by decide)) dX12_paint_76 (fun H locs hP hD hS => ?_)
                                    refine lv_iinc (v := 4) (lv' := [(3, .int 4), (0, .ref h0), (1, .int 2), (2, .int x1)]) hx hb dX12_paint_77 hl (k := 0) rfl (by decide) (by decide) rfl (fun ls hl => ?_)
                                    refine lv_goto (tgt := 42) hx hb dX12_paint_80 (by decide) ?_
                                    refine lv_iload_n hx hb dX12_paint_42 rfl (lv_at hl 0 rfl) ?_
                                    refine lv_bipush (v := 40) hx hb dX12_paint_43 (by decide) ?_
                                    refine lv_icmp_ge (tgt := 83) hx hb dX12_paint_45 (by decide) (fun c503 => ?_) (fun c503 => ?_)
                                    · exact absurd c503 (by decide)
                                    · refine lv_aload_n hx hb dX12_paint_48 rfl (lv_at hl 1 rfl) ?_
                                      refine va_get (D := D) (ci := 12) (v := .ref h11) (C := RX12) (T := TX12) (N := 24) hx hb hts hin12 hown hK hP 14 rfl rfl 18 (by decide) (hts (.fieldLink RX12 44 "MissedPointsModel" "items" "[I") (by decide +kernel)) (fun _ h9 => h9) rfl dX12_paint_49 ?_
                                      refine lv_bipush (v := 40) hx hb dX12_paint_52 (by decide) ?_
                                      refine lv_iload_n hx hb dX12_paint_54 rfl (lv_at hl 2 rfl) ?_
                                      refine lv_imul hx hb dX12_paint_55 ?_
                                      refine lz_top (y := 80) (by decide) ?_
                                      refine lv_iload_n hx hb dX12_paint_56 rfl (lv_at hl 0 rfl) ?_
                                      refine lv_iadd hx hb dX12_paint_57 ?_
                                      refine lz_top (y := 84) (by decide) ?_
                                      refine lv_iload_n hx hb dX12_paint_58 rfl (lv_at hl 0 rfl) ?_
                                      refine lv_aload_n hx hb dX12_paint_59 rfl (lv_at hl 1 rfl) ?_
                                      refine va_get (D := D) (ci := 12) (v := .int 0) (C := RX12) (T := TX12) (N := 24) hx hb hts hin12 hown hK hP 14 rfl rfl 0 (by decide) (hts (.fieldLink RX12 63 "MissedPointsModel" "many" "I") (by decide +kernel)) (fun _ h9 => h9) rfl dX12_paint_60 ?_
                                      refine lv_icmp_ge (tgt := 75) hx hb dX12_paint_63 (by decide) (fun c504 => ?_) (fun c504 => ?_)
                                      · refine lv_iconst (v := 0) hx hb dX12_paint_75 (by decide) ?_
                                        refine lz_astc hx hb hK hP hD hS 9 0 rfl rfl (lz_vp (x := 84) (n := 160) (by decide) (by decide)) dX12_paint_76 (fun H locs hP hD hS => ?_)
                                        refine lv_iinc (v := 5) (lv' := [(3, .int 5), (0, .ref h0), (1, .int 2), (2, .int x1)]) hx hb dX12_paint_77 hl (k := 0) rfl (by decide) (by decide) rfl (fun ls hl => ?_)
                                        refine lv_goto (tgt := 42) hx hb dX12_paint_80 (by decide) ?_
                                        refine lv_iload_n hx hb dX12_paint_42 rfl (lv_at hl 0 rfl) ?_
                                        refine lv_bipush (v := 40) hx hb dX12_paint_43 (by decide) ?_
                                        refine lv_icmp_ge (tgt := 83) hx hb dX12_paint_45 (by decide) (fun c505 => ?_) (fun c505 => ?_)
                                        · exact absurd c505 (by decide)
                                        · refine lv_aload_n hx hb dX12_paint_48 rfl (lv_at hl 1 rfl) ?_
                                          refine va_get (D := D) (ci := 12) (v := .ref h11) (C := RX12) (T := TX12) (N := 24) hx hb hts hin12 hown hK hP 14 rfl rfl 18 (by decide) (hts (.fieldLink RX12 44 "MissedPointsModel" "items" "[I") (by decide +kernel)) (fun _ h9 => h9) rfl dX12_paint_49 ?_
                                          refine lv_bipush (v := 40) hx hb dX12_paint_52 (by decide) ?_
                                          refine lv_iload_n hx hb dX12_paint_54 rfl (lv_at hl 2 rfl) ?_
                                          refine lv_imul hx hb dX12_paint_55 ?_
                                          refine lz_top (y := 80) (by decide) ?_
                                          refine lv_iload_n hx hb dX12_paint_56 rfl (lv_at hl 0 rfl) ?_
                                          refine lv_iadd hx hb dX12_paint_57 ?_
                                          refine lz_top (y := 85) (by decide) ?_
                                          refine lv_iload_n hx hb dX12_paint_58 rfl (lv_at hl 0 rfl) ?_
                                          refine lv_aload_n hx hb dX12_paint_59 rfl (lv_at hl 1 rfl) ?_
                                          refine va_get (D := D) (ci := 12) (v := .int 0) (C := RX12) (T := TX12) (N := 24) hx hb hts hin12 hown hK hP 14 rfl rfl 0 (by decide) (hts (.fieldLink RX12 63 "MissedPointsModel" "many" "I") (by decide +kernel)) (fun _ h9 => h9) rfl dX12_paint_60 ?_
                                          refine lv_icmp_ge (tgt := 75) hx hb dX12_paint_63 (by decide) (fun c506 => ?_) (fun c506 => ?_)
                                          · refine lv_iconst (v := 0) hx hb dX12_paint_75 (by decide) ?_
                                            refine lz_astc hx hb hK hP hD hS 9 0 rfl rfl (lz_vp (x := 85) (n := 160) (by decide) (by decide)) dX12_paint_76 (fun H locs hP hD hS => ?_)
                                            refine lv_iinc (v := 6) (lv' := [(3, .int 6), (0, .ref h0), (1, .int 2), (2, .int x1)]) hx hb dX12_paint_77 hl (k := 0) rfl (by decide) (by decide) rfl (fun ls hl => ?_)
                                            refine lv_goto (tgt := 42) hx hb dX12_paint_80 (by decide) ?_
                                            refine lv_iload_n hx hb dX12_paint_42 rfl (lv_at hl 0 rfl) ?_
                                            refine lv_bipush (v := 40) hx hb dX12_paint_43 (by decide) ?_
                                            refine lv_icmp_ge (tgt := 83) hx hb dX12_paint_45 (by decide) (fun c507 => ?_) (fun c507 => ?_)
                                            · exact absurd c507 (by decide)
                                            · refine lv_aload_n hx hb dX12_paint_48 rfl (lv_at hl 1 rfl) ?_
                                              refine va_get (D := D) (ci := 12) (v := .ref h11) (C := RX12) (T := TX12) (N := 24) hx hb hts hin12 hown hK hP 14 rfl rfl 18 (by decide) (hts (.fieldLink RX12 44 "MissedPointsModel" "items" "[I") (by decide +kernel)) (fun _ h9 => h9) rfl dX12_paint_49 ?_
                                              refine lv_bipush (v := 40) hx hb dX12_paint_52 (by decide) ?_
                                              refine lv_iload_n hx hb dX12_paint_54 rfl (lv_at hl 2 rfl) ?_
                                              refine lv_imul hx hb dX12_paint_55 ?_
                                              refine lz_top (y := 80) (by decide) ?_
                                              refine lv_iload_n hx hb dX12_paint_56 rfl (lv_at hl 0 rfl) ?_
                                              refine lv_iadd hx hb dX12_paint_57 ?_
                                              refine lz_top (y := 86) (by decide) ?_
                                              refine lv_iload_n hx hb dX12_paint_58 rfl (lv_at hl 0 rfl) ?_
                                              refine lv_aload_n hx hb dX12_paint_59 rfl (lv_at hl 1 rfl) ?_
                                              refine va_get (D := D) (ci := 12) (v := .int 0) (C := RX12) (T := TX12) (N := 24) hx hb hts hin12 hown hK hP 14 rfl rfl 0 (by decide) (hts (.fieldLink RX12 63 "MissedPointsModel" "many" "I") (by decide +kernel)) (fun _ h9 => h9) rfl dX12_paint_60 ?_
                                              refine lv_icmp_ge (tgt := 75) hx hb dX12_paint_63 (by decide) (fun c508 => ?_) (fun c508 => ?_)
                                              · refine lv_iconst (v := 0) hx hb dX12_paint_75 (by decide) ?_
                                                refine lz_astc hx hb hK hP hD hS 9 0 rfl rfl (lz_vp (x := 86) (n := 160) (by decide) (by decide)) dX12_paint_76 (fun H locs hP hD hS => ?_)
                                                refine lv_iinc (v := 7) (lv' := [(3, .int 7), (0, .ref h0), (1, .int 2), (2, .int x1)]) hx hb dX12_paint_77 hl (k := 0) rfl (by decide) (by decide) rfl (fun ls hl => ?_)
                                                refine lv_goto (tgt := 42) hx hb dX12_paint_80 (by decide) ?_
                                                refine lv_iload_n hx hb dX12_paint_42 rfl (lv_at hl 0 rfl) ?_
                                                refine lv_bipush (v := 40) hx hb dX12_paint_43 (by decide) ?_
                                                refine lv_icmp_ge (tgt := 83) hx hb dX12_paint_45 (by decide) (fun c509 => ?_) (fun c509 => ?_)
                                                · exact absurd c509 (by decide)
                                                · refine lv_aload_n hx hb dX12_paint_48 rfl (lv_at hl 1 rfl) ?_
                                                  refine va_get (D := D) (ci := 12) (v := .ref h11) (C := RX12) (T := TX12) (N := 24) hx hb hts hin12 hown hK hP 14 rfl rfl 18 (by decide) (hts (.fieldLink RX12 44 "MissedPointsModel" "items" "[I") (by decide +kernel)) (fun _ h9 => h9) rfl dX12_paint_49 ?_
                                                  refine lv_bipush (v := 40) hx hb dX12_paint_52 (by decide) ?_
                                                  refine lv_iload_n hx hb dX12_paint_54 rfl (lv_at hl 2 rfl) ?_
                                                  refine lv_imul hx hb dX12_paint_55 ?_
                                                  refine lz_top (y := 80) (by decide) ?_
                                                  refine lv_iload_n hx hb dX12_paint_56 rfl (lv_at hl 0 rfl) ?_
                                                  refine lv_iadd hx hb dX12_paint_57 ?_
                                                  refine lz_top (y := 87) (by decide) ?_
                                                  refine lv_iload_n hx hb dX12_paint_58 rfl (lv_at hl 0 rfl) ?_
                                                  refine lv_aload_n hx hb dX12_paint_59 rfl (lv_at hl 1 rfl) ?_
                                                  refine va_get (D := D) (ci := 12) (v := .int 0) (C := RX12) (T := TX12) (N := 24) hx hb hts hin12 hown hK hP 14 rfl rfl 0 (by decide) (hts (.fieldLink RX12 63 "MissedPointsModel" "many" "I") (by decide +kernel)) (fun _ h9 => h9) rfl dX12_paint_60 ?_
                                                  refine lv_icmp_ge (tgt := 75) hx hb dX12_paint_63 (by decide) (fun c510 => ?_) (fun c510 => ?_)
                                                  · refine lv_iconst (v := 0) hx hb dX12_paint_75 (by decide) ?_
                                                    refine lz_astc hx hb hK hP hD hS 9 0 rfl rfl (lz_vp (x := 87) (n := 160) (by decide) (by decide)) dX12_paint_76 (fun H locs hP hD hS => ?_)
                                                    refine lv_iinc (v := 8) (lv' := [(3, .int 8), (0, .ref h0), (1, .int 2), (2, .int x1)]) hx hb dX12_paint_77 hl (k := 0) rfl (by decide) (by decide) rfl (fun ls hl => ?_)
                                                    refine lv_goto (tgt := 42) hx hb dX12_paint_80 (by decide) ?_
                                                    refine lv_iload_n hx hb dX12_paint_42 rfl (lv_at hl 0 rfl) ?_
                                                    refine lv_bipush (v := 40) hx hb dX12_paint_43 (by decide) ?_
                                                    refine lv_icmp_ge (tgt := 83) hx hb dX12_paint_45 (by decide) (fun c511 => ?_) (fun c511 => ?_)
                                                    · exact absurd c511 (by decide)
                                                    · refine lv_aload_n hx hb dX12_paint_48 rfl (lv_at hl 1 rfl) ?_
                                                      refine va_get (D := D) (ci := 12) (v := .ref h11) (C := RX12) (T := TX12) (N := 24) hx hb hts hin12 hown hK hP 14 rfl rfl 18 (by decide) (hts (.fieldLink RX12 44 "MissedPointsModel" "items" "[I") (by decide +kernel)) (fun _ h9 => h9) rfl dX12_paint_49 ?_
                                                      refine lv_bipush (v := 40) hx hb dX12_paint_52 (by decide) ?_
                                                      refine lv_iload_n hx hb dX12_paint_54 rfl (lv_at hl 2 rfl) ?_
                                                      refine lv_imul hx hb dX12_paint_55 ?_
                                                      refine lz_top (y := 80) (by decide) ?_
                                                      refine lv_iload_n hx hb dX12_paint_56 rfl (lv_at hl 0 rfl) ?_
                                                      refine lv_iadd hx hb dX12_paint_57 ?_
                                                      refine lz_top (y := 88) (by decide) ?_
                                                      refine lv_iload_n hx hb dX12_paint_58 rfl (lv_at hl 0 rfl) ?_
                                                      refine lv_aload_n hx hb dX12_paint_59 rfl (lv_at hl 1 rfl) ?_
                                                      refine va_get (D := D) (ci := 12) (v := .int 0) (C := RX12) (T := TX12) (N := 24) hx hb hts hin12 hown hK hP 14 rfl rfl 0 (by decide) (hts (.fieldLink RX12 63 "MissedPointsModel" "many" "I") (by decide +kernel)) (fun _ h9 => h9) rfl dX12_paint_60 ?_
                                                      refine lv_icmp_ge (tgt := 75) hx hb dX12_paint_63 (by decide) (fun c512 => ?_) (fun c512 => ?_)
                                                      · refine lv_iconst (v := 0) hx hb dX12_paint_75 (by decide) ?_
                                                        refine lz_astc hx hb hK hP hD hS 9 0 rfl rfl (lz_vp (x := 88) (n := 160) (by decide) (by decide)) dX12_paint_76 (fun H locs hP hD hS => ?_)
                                                        refine lv_iinc (v := 9) (lv' := [(3, .int 9), (0, .ref h0), (1, .int 2), (2, .int x1)]) hx hb dX12_paint_77 hl (k := 0) rfl (by decide) (by decide) rfl (fun ls hl => ?_)
                                                        refine lv_goto (tgt := 42) hx hb dX12_paint_80 (by decide) ?_
                                                        refine lv_iload_n hx hb dX12_paint_42 rfl (lv_at hl 0 rfl) ?_
                                                        refine lv_bipush (v := 40) hx hb dX12_paint_43 (by decide) ?_
                                                        refine lv_icmp_ge (tgt := 83) hx hb dX12_paint_45 (by decide) (fun c513 => ?_) (fun c513 => ?_)
                                                        · exact absurd c513 (by decide)
                                                        · refine lv_aload_n hx hb dX12_paint_48 rfl (lv_at hl 1 rfl) ?_
                                                          refine va_get (D := D) (ci := 12) (v := .ref h11) (C := RX12) (T := TX12) (N := 24) hx hb hts hin12 hown hK hP 14 rfl rfl 18 (by decide) (hts (.fieldLink RX12 44 "MissedPointsModel" "items" "[I") (by decide +kernel)) (fun _ h9 => h9) rfl dX12_paint_49 ?_
                                                          refine lv_bipush (v := 40) hx hb dX12_paint_52 (by decide) ?_
                                                          refine lv_iload_n hx hb dX12_paint_54 rfl (lv_at hl 2 rfl) ?_
                                                          refine lv_imul hx hb dX12_paint_55 ?_
                                                          refine lz_top (y := 80) (by decide) ?_
                                                          refine lv_iload_n hx hb dX12_paint_56 rfl (lv_at hl 0 rfl) ?_
                                                          refine lv_iadd hx hb dX12_paint_57 ?_
                                                          refine lz_top (y := 89) (by decide) ?_
                                                          refine lv_iload_n hx hb dX12_paint_58 rfl (lv_at hl 0 rfl) ?_
                                                          refine lv_aload_n hx hb dX12_paint_59 rfl (lv_at hl 1 rfl) ?_
                                                          refine va_get (D := D) (ci := 12) (v := .int 0) (C := RX12) (T := TX12) (N := 24) hx hb hts hin12 hown hK hP 14 rfl rfl 0 (by decide) (hts (.fieldLink RX12 63 "MissedPointsModel" "many" "I") (by decide +kernel)) (fun _ h9 => h9) rfl dX12_paint_60 ?_
                                                          refine lv_icmp_ge (tgt := 75) hx hb dX12_paint_63 (by decide) (fun c514 => ?_) (fun c514 => ?_)
                                                          · refine lv_iconst (v := 0) hx hb dX12_paint_75 (by decide) ?_
                                                            refine lz_astc hx hb hK hP hD hS 9 0 rfl rfl (lz_vp (x := 89) (n := 160) (by decide) (by decide)) dX12_paint_76 (fun H locs hP hD hS => ?_)
                                                            refine lv_iinc (v := 10) (lv' := [(3, .int 10), (0, .ref h0), (1, .int 2), (2, .int x1)]) hx hb dX12_paint_77 hl (k := 0) rfl (by decide) (by decide) rfl (fun ls hl => ?_)
                                                            refine lv_goto (tgt := 42) hx hb dX12_paint_80 (by decide) ?_
                                                            refine lv_iload_n hx hb dX12_paint_42 rfl (lv_at hl 0 rfl) ?_
                                                            refine lv_bipush (v := 40) hx hb dX12_paint_43 (by decide) ?_
                                                            refine lv_icmp_ge (tgt := 83) hx hb dX12_paint_45 (by decide) (fun c515 => ?_) (fun c515 => ?_)
                                                            · exact absurd c515 (by decide)
                                                            · refine lv_aload_n hx hb dX12_paint_48 rfl (lv_at hl 1 rfl) ?_
                                                              refine va_get (D := D) (ci := 12) (v := .ref h11) (C := RX12) (T := TX12) (N := 24) hx hb hts hin12 hown hK hP 14 rfl rfl 18 (by decide) (hts (.fieldLink RX12 44 "MissedPointsModel" "items" "[I") (by decide +kernel)) (fun _ h9 => h9) rfl dX12_paint_49 ?_
                                                              refine lv_bipush (v := 40) hx hb dX12_paint_52 (by decide) ?_
                                                              refine lv_iload_n hx hb dX12_paint_54 rfl (lv_at hl 2 rfl) ?_
                                                              refine lv_imul hx hb dX12_paint_55 ?_
                                                              refine lz_top (y := 80) (by decide) ?_
                                                              refine lv_iload_n hx hb dX12_paint_56 rfl (lv_at hl 0 rfl) ?_
                                                              refine lv_iadd hx hb dX12_paint_57 ?_
                                                              refine lz_top (y := 90) (by decide) ?_
                                                              refine lv_iload_n hx hb dX12_paint_58 rfl (lv_at hl 0 rfl) ?_
                                                              refine lv_aload_n hx hb dX12_paint_59 rfl (lv_at hl 1 rfl) ?_
                                                              refine va_get (D := D) (ci := 12) (v := .int 0) (C := RX12) (T := TX12) (N := 24) hx hb hts hin12 hown hK hP 14 rfl rfl 0 (by decide) (hts (.fieldLink RX12 63 "MissedPointsModel" "many" "I") (by decide +kernel)) (fun _ h9 => h9) rfl dX12_paint_60 ?_
                                                              refine lv_icmp_ge (tgt := 75) hx hb dX12_paint_63 (by decide) (fun c516 => ?_) (fun c516 => ?_)
                                                              · refine lv_iconst (v := 0) hx hb dX12_paint_75 (by decide) ?_
                                                                refine lz_astc hx hb hK hP hD hS 9 0 rfl rfl (lz_vp (x := 90) (n := 160) (by decide) (by decide)) dX12_paint_76 (fun H locs hP hD hS => ?_)
                                                                refine lv_iinc (v := 11) (lv' := [(3, .int 11), (0, .ref h0), (1, .int 2), (2, .int x1)]) hx hb dX12_paint_77 hl (k := 0) rfl (by decide) (by decide) rfl (fun ls hl => ?_)
                                                                refine lv_goto (tgt := 42) hx hb dX12_paint_80 (by decide) ?_
                                                                refine lv_iload_n hx hb dX12_paint_42 rfl (lv_at hl 0 rfl) ?_
                                                                refine lv_bipush (v := 40) hx hb dX12_paint_43 (by decide) ?_
                                                                refine lv_icmp_ge (tgt := 83) hx hb dX12_paint_45 (by decide) (fun c517 => ?_) (fun c517 => ?_)
                                                                · exact absurd c517 (by decide)
                                                                · refine lv_aload_n hx hb dX12_paint_48 rfl (lv_at hl 1 rfl) ?_
                                                                  refine va_get (D := D) (ci := 12) (v := .ref h11) (C := RX12) (T := TX12) (N := 24) hx hb hts hin12 hown hK hP 14 rfl rfl 18 (by decide) (hts (.fieldLink RX12 44 "MissedPointsModel" "items" "[I") (by decide +kernel)) (fun _ h9 => h9) rfl dX12_paint_49 ?_
                                                                  refine lv_bipush (v := 40) hx hb dX12_paint_52 (by decide) ?_
                                                                  refine lv_iload_n hx hb dX12_paint_54 rfl (lv_at hl 2 rfl) ?_
                                                                  refine lv_imul hx hb dX12_paint_55 ?_
                                                                  refine lz_top (y := 80) (by decide) ?_
                                                                  refine lv_iload_n hx hb dX12_paint_56 rfl (lv_at hl 0 rfl) ?_
                                                                  refine lv_iadd hx hb dX12_paint_57 ?_
                                                                  refine lz_top (y := 91) (by decide) ?_
                                                                  refine lv_iload_n hx hb dX12_paint_58 rfl (lv_at hl 0 rfl) ?_
                                                                  refine lv_aload_n hx hb dX12_paint_59 rfl (lv_at hl 1 rfl) ?_
                                                                  refine va_get (D := D) (ci := 12) (v := .int 0) (C := RX12) (T := TX12) (N := 24) hx hb hts hin12 hown hK hP 14 rfl rfl 0 (by decide) (hts (.fieldLink RX12 63 "MissedPointsModel" "many" "I") (by decide +kernel)) (fun _ h9 => h9) rfl dX12_paint_60 ?_
                                                                  refine lv_icmp_ge (tgt := 75) hx hb dX12_paint_63 (by decide) (fun c518 => ?_) (fun c518 => ?_)
                                                                  · refine lv_iconst (v := 0) hx hb dX12_paint_75 (by decide) ?_
                                                                    refine lz_astc hx hb hK hP hD hS 9 0 rfl rfl (lz_vp (x := 91) (n := 160) (by decide) (by decide)) dX12_paint_76 (fun H locs hP hD hS => ?_)
                                                                    refine lv_iinc (v := 12) (lv' := [(3, .int 12), (0, .ref h0), (1, .int 2), (2, .int x1)]) hx hb dX12_paint_77 hl (k := 0) rfl (by decide) (by decide) rfl (fun ls hl => ?_)
                                                                    refine lv_goto (tgt := 42) hx hb dX12_paint_80 (by decide) ?_
                                                                    refine lv_iload_n hx hb dX12_paint_42 rfl (lv_at hl 0 rfl) ?_
                                                                    refine lv_bipush (v := 40) hx hb dX12_paint_43 (by decide) ?_
                                                                    refine lv_icmp_ge (tgt := 83) hx hb dX12_paint_45 (by decide) (fun c519 => ?_) (fun c519 => ?_)
                                                                    · exact absurd c519 (by decide)
                                                                    · refine lv_aload_n hx hb dX12_paint_48 rfl (lv_at hl 1 rfl) ?_
                                                                      refine va_get (D := D) (ci := 12) (v := .ref h11) (C := RX12) (T := TX12) (N := 24) hx hb hts hin12 hown hK hP 14 rfl rfl 18 (by decide) (hts (.fieldLink RX12 44 "MissedPointsModel" "items" "[I") (by decide +kernel)) (fun _ h9 => h9) rfl dX12_paint_49 ?_
                                                                      refine lv_bipush (v := 40) hx hb dX12_paint_52 (by decide) ?_
                                                                      refine lv_iload_n hx hb dX12_paint_54 rfl (lv_at hl 2 rfl) ?_
                                                                      refine lv_imul hx hb dX12_paint_55 ?_
                                                                      refine lz_top (y := 80) (by decide) ?_
                                                                      refine lv_iload_n hx hb dX12_paint_56 rfl (lv_at hl 0 rfl) ?_
                                                                      refine lv_iadd hx hb dX12_paint_57 ?_
                                                                      refine lz_top (y := 92) (by decide) ?_
                                                                      refine lv_iload_n hx hb dX12_paint_58 rfl (lv_at hl 0 rfl) ?_
                                                                      refine lv_aload_n hx hb dX12_paint_59 rfl (lv_at hl 1 rfl) ?_
                                                                      refine va_get (D := D) (ci := 12) (v := .int 0) (C := RX12) (T := TX12) (N := 24) hx hb hts hin12 hown hK hP 14 rfl rfl 0 (by decide) (hts (.fieldLink RX12 63 "MissedPointsModel" "many" "I") (by decide +kernel)) (fun _ h9 => h9) rfl dX12_paint_60 ?_
                                                                      refine lv_icmp_ge (tgt := 75) hx hb dX12_paint_63 (by decide) (fun c520 => ?_) (fun c520 => ?_)
                                                                      · refine lv_iconst (v := 0) hx hb dX12_paint_75 (by decide) ?_
                                                                        refine lz_astc hx hb hK hP hD hS 9 0 rfl rfl (lz_vp (x := 92) (n := 160) (by decide) (by decide)) dX12_paint_76 (fun H locs hP hD hS => ?_)
                                                                        refine lv_iinc (v := 13) (lv' := [(3, .int 13), (0, .ref h0), (1, .int 2), (2, .int x1)]) hx hb dX12_paint_77 hl (k := 0) rfl (by decide) (by decide) rfl (fun ls hl => ?_)
                                                                        refine lv_goto (tgt := 42) hx hb dX12_paint_80 (by decide) ?_
                                                                        refine lv_iload_n hx hb dX12_paint_42 rfl (lv_at hl 0 rfl) ?_
                                                                        refine lv_bipush (v := 40) hx hb dX12_paint_43 (by decide) ?_
                                                                        refine lv_icmp_ge (tgt := 83) hx hb dX12_paint_45 (by decide) (fun c521 => ?_) (fun c521 => ?_)
                                                                        · exact absurd c521 (by decide)
                                                                        · refine lv_aload_n hx hb dX12_paint_48 rfl (lv_at hl 1 rfl) ?_
                                                                          refine va_get (D := D) (ci := 12) (v := .ref h11) (C := RX12) (T := TX12) (N := 24) hx hb hts hin12 hown hK hP 14 rfl rfl 18 (by decide) (hts (.fieldLink RX12 44 "MissedPointsModel" "items" "[I") (by decide +kernel)) (fun _ h9 => h9) rfl dX12_paint_49 ?_
                                                                          refine lv_bipush (v := 40) hx hb dX12_paint_52 (by decide) ?_
                                                                          refine lv_iload_n hx hb dX12_paint_54 rfl (lv_at hl 2 rfl) ?_
                                                                          refine lv_imul hx hb dX12_paint_55 ?_
                                                                          refine lz_top (y := 80) (by decide) ?_
                                                                          refine lv_iload_n hx hb dX12_paint_56 rfl (lv_at hl 0 rfl) ?_
                                                                          refine lv_iadd hx hb dX12_paint_57 ?_
                                                                          refine lz_top (y := 93) (by decide) ?_
                                                                          refine lv_iload_n hx hb dX12_paint_58 rfl (lv_at hl 0 rfl) ?_
                                                                          refine lv_aload_n hx hb dX12_paint_59 rfl (lv_at hl 1 rfl) ?_
                                                                          refine va_get (D := D) (ci := 12) (v := .int 0) (C := RX12) (T := TX12) (N := 24) hx hb hts hin12 hown hK hP 14 rfl rfl 0 (by decide) (hts (.fieldLink RX12 63 "MissedPointsModel" "many" "I") (by decide +kernel)) (fun _ h9 => h9) rfl dX12_paint_60 ?_
                                                                          refine lv_icmp_ge (tgt := 75) hx hb dX12_paint_63 (by decide) (fun c522 => ?_) (fun c522 => ?_)
                                                                          · refine lv_iconst (v := 0) hx hb dX12_paint_75 (by decide) ?_
                                                                            refine lz_astc hx hb hK hP hD hS 9 0 rfl rfl (lz_vp (x := 93) (n := 160) (by decide) (by decide)) dX12_paint_76 (fun H locs hP hD hS => ?_)
                                                                            refine lv_iinc (v := 14) (lv' := [(3, .int 14), (0, .ref h0), (1, .int 2), (2, .int x1)]) hx hb dX12_paint_77 hl (k := 0) rfl (by decide) (by decide) rfl (fun ls hl => ?_)
                                                                            refine lv_goto (tgt := 42) hx hb dX12_paint_80 (by decide) ?_
                                                                            refine lv_iload_n hx hb dX12_paint_42 rfl (lv_at hl 0 rfl) ?_
                                                                            refine lv_bipush (v := 40) hx hb dX12_paint_43 (by decide) ?_
                                                                            refine lv_icmp_ge (tgt := 83) hx hb dX12_paint_45 (by decide) (fun c523 => ?_) (fun c523 => ?_)
                                                                            · exact absurd c523 (by decide)
                                                                            · refine lv_aload_n hx hb dX12_paint_48 rfl (lv_at hl 1 rfl) ?_
                                                                              refine va_get (D := D) (ci := 12) (v := .ref h11) (C := RX12) (T := TX12) (N := 24) hx hb hts hin12 hown hK hP 14 rfl rfl 18 (by decide) (hts (.fieldLink RX12 44 "MissedPointsModel" "items" "[I") (by decide +kernel)) (fun _ h9 => h9) rfl dX12_paint_49 ?_
                                                                              refine lv_bipush (v := 40) hx hb dX12_paint_52 (by decide) ?_
                                                                              refine lv_iload_n hx hb dX12_paint_54 rfl (lv_at hl 2 rfl) ?_
                                                                              refine lv_imul hx hb dX12_paint_55 ?_
                                                                              refine lz_top (y := 80) (by decide) ?_
                                                                              refine lv_iload_n hx hb dX12_paint_56 rfl (lv_at hl 0 rfl) ?_
                                                                              refine lv_iadd hx hb dX12_paint_57 ?_
                                                                              refine lz_top (y := 94) (by decide) ?_
                                                                              refine lv_iload_n hx hb dX12_paint_58 rfl (lv_at hl 0 rfl) ?_
                                                                              refine lv_aload_n hx hb dX12_paint_59 rfl (lv_at hl 1 rfl) ?_
                                                                              refine va_get (D := D) (ci := 12) (v := .int 0) (C := RX12) (T := TX12) (N := 24) hx hb hts hin12 hown hK hP 14 rfl rfl 0 (by decide) (hts (.fieldLink RX12 63 "MissedPointsModel" "many" "I") (by decide +kernel)) (fun _ h9 => h9) rfl dX12_paint_60 ?_
                                                                              refine lv_icmp_ge (tgt := 75) hx hb dX12_paint_63 (by decide) (fun c524 => ?_) (fun c524 => ?_)
                                                                              · refine lv_iconst (v := 0) hx hb dX12_paint_75 (by decide) ?_
                                                                                refine lz_astc hx hb hK hP hD hS 9 0 rfl rfl (lz_vp (x := 94) (n := 160) (by decide) (by decide)) dX12_paint_76 (fun H locs hP hD hS => ?_)
                                                                                refine lv_iinc (v := 15) (lv' := [(3, .int 15), (0, .ref h0), (1, .int 2), (2, .int x1)]) hx hb dX12_paint_77 hl (k := 0) rfl (by decide) (by decide) rfl (fun ls hl => ?_)
                                                                                refine lv_goto (tgt := 42) hx hb dX12_paint_80 (by decide) ?_
                                                                                refine lv_iload_n hx hb dX12_paint_42 rfl (lv_at hl 0 rfl) ?_
                                                                                refine lv_bipush (v := 40) hx hb dX12_paint_43 (by decide) ?_
                                                                                refine lv_icmp_ge (tgt := 83) hx hb dX12_paint_45 (by decide) (fun c525 => ?_) (fun c525 => ?_)
                                                                                · exact absurd c525 (by decide)
                                                                                · refine lv_aload_n hx hb dX12_paint_48 rfl (lv_at hl 1 rfl) ?_
                                                                                  refine va_get (D := D) (ci := 12) (v := .ref h11) (C := RX12) (T := TX12) (N := 24) hx hb hts hin12 hown hK hP 14 rfl rfl 18 (by decide) (hts (.fieldLink RX12 44 "MissedPointsModel" "items" "[I") (by decide +kernel)) (fun _ h9 => h9) rfl dX12_paint_49 ?_
                                                                                  refine lv_bipush (v := 40) hx hb dX12_paint_52 (by decide) ?_
                                                                                  refine lv_iload_n hx hb dX12_paint_54 rfl (lv_at hl 2 rfl) ?_
                                                                                  refine lv_imul hx hb dX12_paint_55 ?_
                                                                                  refine lz_top (y := 80) (by decide) ?_
                                                                                  refine lv_iload_n hx hb dX12_paint_56 rfl (lv_at hl 0 rfl) ?_
                                                                                  refine lv_iadd hx hb dX12_paint_57 ?_
                                                                                  refine lz_top (y := 95) (by decide) ?_
                                                                                  refine lv_iload_n hx hb dX12_paint_58 rfl (lv_at hl 0 rfl) ?_
                                                                                  refine lv_aload_n hx hb dX12_paint_59 rfl (lv_at hl 1 rfl) ?_
                                                                                  refine va_get (D := D) (ci := 12) (v := .int 0) (C := RX12) (T := TX12) (N := 24) hx hb hts hin12 hown hK hP 14 rfl rfl 0 (by decide) (hts (.fieldLink RX12 63 "MissedPointsModel" "many" "I") (by decide +kernel)) (fun _ h9 => h9) rfl dX12_paint_60 ?_
                                                                                  refine lv_icmp_ge (tgt := 75) hx hb dX12_paint_63 (by decide) (fun c526 => ?_) (fun c526 => ?_)
                                                                                  · refine lv_iconst (v := 0) hx hb dX12_paint_75 (by decide) ?_
                                                                                    refine lz_astc hx hb hK hP hD hS 9 0 rfl rfl (lz_vp (x := 95) (n := 160) (by decide) (by decide)) dX12_paint_76 (fun H locs hP hD hS => ?_)
                                                                                    refine lv_iinc (v := 16) (lv' := [(3, .int 16), (0, .ref h0), (1, .int 2), (2, .int x1)]) hx hb dX12_paint_77 hl (k := 0) rfl (by decide) (by decide) rfl (fun ls hl => ?_)
                                                                                    refine lv_goto (tgt := 42) hx hb dX12_paint_80 (by decide) ?_
                                                                                    refine lv_iload_n hx hb dX12_paint_42 rfl (lv_at hl 0 rfl) ?_
                                                                                    refine lv_bipush (v := 40) hx hb dX12_paint_43 (by decide) ?_
                                                                                    refine lv_icmp_ge (tgt := 83) hx hb dX12_paint_45 (by decide) (fun c527 => ?_) (fun c527 => ?_)
                                                                                    · exact absurd c527 (by decide)
                                                                                    · refine lv_aload_n hx hb dX12_paint_48 rfl (lv_at hl 1 rfl) ?_
                                                                                      refine va_get (D := D) (ci := 12) (v := .ref h11) (C := RX12) (T := TX12) (N := 24) hx hb hts hin12 hown hK hP 14 rfl rfl 18 (by decide) (hts (.fieldLink RX12 44 "MissedPointsModel" "items" "[I") (by decide +kernel)) (fun _ h9 => h9) rfl dX12_paint_49 ?_
                                                                                      refine lv_bipush (v := 40) hx hb dX12_paint_52 (by decide) ?_
                                                                                      refine lv_iload_n hx hb dX12_paint_54 rfl (lv_at hl 2 rfl) ?_
                                                                                      refine lv_imul hx hb dX12_paint_55 ?_
                                                                                      refine lz_top (y := 80) (by decide) ?_
                                                                                      refine lv_iload_n hx hb dX12_paint_56 rfl (lv_at hl 0 rfl) ?_
                                                                                      refine lv_iadd hx hb dX12_paint_57 ?_
                                                                                      refine lz_top (y := 96) (by decide) ?_
                                                                                      refine lv_iload_n hx hb dX12_paint_58 rfl (lv_at hl 0 rfl) ?_
                                                                                      refine lv_aload_n hx hb dX12_paint_59 rfl (lv_at hl 1 rfl) ?_
                                                                                      refine va_get (D := D) (ci := 12) (v := .int 0) (C := RX12) (T := TX12) (N := 24) hx hb hts hin12 hown hK hP 14 rfl rfl 0 (by decide) (hts (.fieldLink RX12 63 "MissedPointsModel" "many" "I") (by decide +kernel)) (fun _ h9 => h9) rfl dX12_paint_60 ?_
                                                                                      refine lv_icmp_ge (tgt := 75) hx hb dX12_paint_63 (by decide) (fun c528 => ?_) (fun c528 => ?_)
                                                                                      · refine lv_iconst (v := 0) hx hb dX12_paint_75 (by decide) ?_
                                                                                        refine lz_astc hx hb hK hP hD hS 9 0 rfl rfl (lz_vp (x := 96) (n := 160) (by decide) (by decide)) dX12_paint_76 (fun H locs hP hD hS => ?_)
                                                                                        refine lv_iinc (v := 17) (lv' := [(3, .int 17), (0, .ref h0), (1, .int 2), (2, .int x1)]) hx hb dX12_paint_77 hl (k := 0) rfl (by decide) (by decide) rfl (fun ls hl => ?_)
                                                                                        refine lv_goto (tgt := 42) hx hb dX12_paint_80 (by decide) ?_
                                                                                        refine lv_iload_n hx hb dX12_paint_42 rfl (lv_at hl 0 rfl) ?_
                                                                                        refine lv_bipush (v := 40) hx hb dX12_paint_43 (by decide) ?_
                                                                                        refine lv_icmp_ge (tgt := 83) hx hb dX12_paint_45 (by decide) (fun c529 => ?_) (fun c529 => ?_)
                                                                                        · exact absurd c529 (by decide)
                                                                                        · refine lv_aload_n hx hb dX12_paint_48 rfl (lv_at hl 1 rfl) ?_
                                                                                          refine va_get (D := D) (ci := 12) (v := .ref h11) (C := RX12) (T := TX12) (N := 24) hx hb hts hin12 hown hK hP 14 rfl rfl 18 (by decide) (hts (.fieldLink RX12 44 "MissedPointsModel" "items" "[I") (by decide +kernel)) (fun _ h9 => h9) rfl dX12_paint_49 ?_
                                                                                          refine lv_bipush (v := 40) hx hb dX12_paint_52 (by decide) ?_
                                                                                          refine lv_iload_n hx hb dX12_paint_54 rfl (lv_at hl 2 rfl) ?_
                                                                                          refine lv_imul hx hb dX12_paint_55 ?_
                                                                                          refine lz_top (y := 80) (by decide) ?_
                                                                                          refine lv_iload_n hx hb dX12_paint_56 rfl (lv_at hl 0 rfl) ?_
                                                                                          refine lv_iadd hx hb dX12_paint_57 ?_
                                                                                          refine lz_top (y := 97) (by decide) ?_
                                                                                          refine lv_iload_n hx hb dX12_paint_58 rfl (lv_at hl 0 rfl) ?_
                                                                                          refine lv_aload_n hx hb dX12_paint_59 rfl (lv_at hl 1 rfl) ?_
                                                                                          refine va_get (D := D) (ci := 12) (v := .int 0) (C := RX12) (T := TX12) (N := 24) hx hb hts hin12 hown hK hP 14 rfl rfl 0 (by decide) (hts (.fieldLink RX12 63 "MissedPointsModel" "many" "I") (by decide +kernel)) (fun _ h9 => h9) rfl dX12_paint_60 ?_
                                                                                          refine lv_icmp_ge (tgt := 75) hx hb dX12_paint_63 (by decide) (fun c530 => ?_) (fun c530 => ?_)
                                                                                          · refine lv_iconst (v := 0) hx hb dX12_paint_75 (by decide) ?_
                                                                                            refine lz_astc hx hb hK hP hD hS 9 0 rfl rfl (lz_vp (x := 97) (n := 160) (by decide) (by decide)) dX12_paint_76 (fun H locs hP hD hS => ?_)
                                                                                            refine lv_iinc (v := 18) (lv' := [(3, .int 18), (0, .ref h0), (1, .int 2), (2, .int x1)]) hx hb dX12_paint_77 hl (k := 0) rfl (by decide) (by decide) rfl (fun ls hl => ?_)
                                                                                            refine lv_goto (tgt := 42) hx hb dX12_paint_80 (by decide) ?_
                                                                                            refine lv_iload_n hx hb dX12_paint_42 rfl (lv_at hl 0 rfl) ?_
                                                                                            refine lv_bipush (v := 40) hx hb dX12_paint_43 (by decide) ?_
                                                                                            refine lv_icmp_ge (tgt := 83) hx hb dX12_paint_45 (by decide) (fun c531 => ?_) (fun c531 => ?_)
                                                                                            · exact absurd c531 (by decide)
                                                                                            · refine lv_aload_n hx hb dX12_paint_48 rfl (lv_at hl 1 rfl) ?_
                                                                                              refine va_get (D := D) (ci := 12) (v := .ref h11) (C := RX12) (T := TX12) (N := 24) hx hb hts hin12 hown hK hP 14 rfl rfl 18 (by decide) (hts (.fieldLink RX12 44 "MissedPointsModel" "items" "[I") (by decide +kernel)) (fun _ h9 => h9) rfl dX12_paint_49 ?_
                                                                                              refine lv_bipush (v := 40) hx hb dX12_paint_52 (by decide) ?_
                                                                                              refine lv_iload_n hx hb dX12_paint_54 rfl (lv_at hl 2 rfl) ?_
                                                                                              refine lv_imul hx hb dX12_paint_55 ?_
                                                                                              refine lz_top (y := 80) (by decide) ?_
                                                                                              refine lv_iload_n hx hb dX12_paint_56 rfl (lv_at hl 0 rfl) ?_
                                                                                              refine lv_iadd hx hb dX12_paint_57 ?_
                                                                                              refine lz_top (y := 98) (by decide) ?_
                                                                                              refine lv_iload_n hx hb dX12_paint_58 rfl (lv_at hl 0 rfl) ?_
                                                                                              refine lv_aload_n hx hb dX12_paint_59 rfl (lv_at hl 1 rfl) ?_
                                                                                              refine va_get (D := D) (ci := 12) (v := .int 0) (C := RX12) (T := TX12) (N := 24) hx hb hts hin12 hown hK hP 14 rfl rfl 0 (by decide) (hts (.fieldLink RX12 63 "MissedPointsModel" "many" "I") (by decide +kernel)) (fun _ h9 => h9) rfl dX12_paint_60 ?_
                                                                                              refine lv_icmp_ge (tgt := 75) hx hb dX12_paint_63 (by decide) (fun c532 => ?_) (fun c532 => ?_)
                                                                                              · refine lv_iconst (v := 0) hx hb dX12_paint_75 (by decide) ?_
                                                                                                refine lz_astc hx hb hK hP hD hS 9 0 rfl rfl (lz_vp (x := 98) (n := 160) (by decide) (by decide)) dX12_paint_76 (fun H locs hP hD hS => ?_)
                                                                                                refine lv_iinc (v := 19) (lv' := [(3, .int 19), (0, .ref h0), (1, .int 2), (2, .int x1)]) hx hb dX12_paint_77 hl (k := 0) rfl (by decide) (by decide) rfl (fun ls hl => ?_)
                                                                                                refine lv_goto (tgt := 42) hx hb dX12_paint_80 (by decide) ?_
                                                                                                refine lv_iload_n hx hb dX12_paint_42 rfl (lv_at hl 0 rfl) ?_
                                                                                                refine lv_bipush (v := 40) hx hb dX12_paint_43 (by decide) ?_
                                                                                                refine lv_icmp_ge (tgt := 83) hx hb dX12_paint_45 (by decide) (fun c533 => ?_) (fun c533 => ?_)
                                                                                                · exact absurd c533 (by decide)
                                                                                                · refine lv_aload_n hx hb dX12_paint_48 rfl (lv_at hl 1 rfl) ?_
                                                                                                  refine va_get (D := D) (ci := 12) (v := .ref h11) (C := RX12) (T := TX12) (N := 24) hx hb hts hin12 hown hK hP 14 rfl rfl 18 (by decide) (hts (.fieldLink RX12 44 "MissedPointsModel" "items" "[I") (by decide +kernel)) (fun _ h9 => h9) rfl dX12_paint_49 ?_
                                                                                                  refine lv_bipush (v := 40) hx hb dX12_paint_52 (by decide) ?_
                                                                                                  refine lv_iload_n hx hb dX12_paint_54 rfl (lv_at hl 2 rfl) ?_
                                                                                                  refine lv_imul hx hb dX12_paint_55 ?_
                                                                                                  refine lz_top (y := 80) (by decide) ?_
                                                                                                  refine lv_iload_n hx hb dX12_paint_56 rfl (lv_at hl 0 rfl) ?_
                                                                                                  refine lv_iadd hx hb dX12_paint_57 ?_
                                                                                                  refine lz_top (y := 99) (by decide) ?_
                                                                                                  refine lv_iload_n hx hb dX12_paint_58 rfl (lv_at hl 0 rfl) ?_
                                                                                                  refine lv_aload_n hx hb dX12_paint_59 rfl (lv_at hl 1 rfl) ?_
                                                                                                  refine va_get (D := D) (ci := 12) (v := .int 0) (C := RX12) (T := TX12) (N := 24) hx hb hts hin12 hown hK hP 14 rfl rfl 0 (by decide) (hts (.fieldLink RX12 63 "MissedPointsModel" "many" "I") (by decide +kernel)) (fun _ h9 => h9) rfl dX12_paint_60 ?_
                                                                                                  refine lv_icmp_ge (tgt := 75) hx hb dX12_paint_63 (by decide) (fun c534 => ?_) (fun c534 => ?_)
                                                                                                  · refine lv_iconst (v := 0) hx hb dX12_paint_75 (by decide) ?_
                                                                                                    refine lz_astc hx hb hK hP hD hS 9 0 rfl rfl (lz_vp (x := 99) (n := 160) (by decide) (by decide)) dX12_paint_76 (fun H locs hP hD hS => ?_)
                                                                                                    refine lv_iinc (v := 20) (lv' := [(3, .int 20), (0, .ref h0), (1, .int 2), (2, .int x1)]) hx hb dX12_paint_77 hl (k := 0) rfl (by decide) (by decide) rfl (fun ls hl => ?_)
                                                                                                    refine lv_goto (tgt := 42) hx hb dX12_paint_80 (by decide) ?_
                                                                                                    refine lv_iload_n hx hb dX12_paint_42 rfl (lv_at hl 0 rfl) ?_
                                                                                                    refine lv_bipush (v := 40) hx hb dX12_paint_43 (by decide) ?_
                                                                                                    refine lv_icmp_ge (tgt := 83) hx hb dX12_paint_45 (by decide) (fun c535 => ?_) (fun c535 => ?_)
                                                                                                    · exact absurd c535 (by decide)
                                                                                                    · refine lv_aload_n hx hb dX12_paint_48 rfl (lv_at hl 1 rfl) ?_
                                                                                                      refine va_get (D := D) (ci := 12) (v := .ref h11) (C := RX12) (T := TX12) (N := 24) hx hb hts hin12 hown hK hP 14 rfl rfl 18 (by decide) (hts (.fieldLink RX12 44 "MissedPointsModel" "items" "[I") (by decide +kernel)) (fun _ h9 => h9) rfl dX12_paint_49 ?_
                                                                                                      refine lv_bipush (v := 40) hx hb dX12_paint_52 (by decide) ?_
                                                                                                      refine lv_iload_n hx hb dX12_paint_54 rfl (lv_at hl 2 rfl) ?_
                                                                                                      refine lv_imul hx hb dX12_paint_55 ?_
                                                                                                      refine lz_top (y := 80) (by decide) ?_
                                                                                                      refine lv_iload_n hx hb dX12_paint_56 rfl (lv_at hl 0 rfl) ?_
                                                                                                      refine lv_iadd hx hb dX12_paint_57 ?_
                                                                                                      refine lz_top (y := 100) (by decide) ?_
                                                                                                      refine lv_iload_n hx hb dX12_paint_58 rfl (lv_at hl 0 rfl) ?_
                                                                                                      refine lv_aload_n hx hb dX12_paint_59 rfl (lv_at hl 1 rfl) ?_
                                                                                                      refine va_get (D := D) (ci := 12) (v := .int 0) (C := RX12) (T := TX12) (N := 24) hx hb hts hin12 hown hK hP 14 rfl rfl 0 (by decide) (hts (.fieldLink RX12 63 "MissedPointsModel" "many" "I") (by decide +kernel)) (fun _ h9 => h9) rfl dX12_paint_60 ?_
                                                                                                      refine lv_icmp_ge (tgt := 75) hx hb dX12_paint_63 (by decide) (fun c536 => ?_) (fun c536 => ?_)
                                                                                                      · refine lv_iconst (v := 0) hx hb dX12_paint_75 (by decide) ?_
                                                                                                        refine lz_astc hx hb hK hP hD hS 9 0 rfl rfl (lz_vp (x := 100) (n := 160) (by decide) (by decide)) dX12_paint_76 (fun H locs hP hD hS => ?_)
                                                                                                        refine lv_iinc (v := 21) (lv' := [(3, .int 21), (0, .ref h0), (1, .int 2), (2, .int x1)]) hx hb dX12_paint_77 hl (k := 0) rfl (by decide) (by decide) rfl (fun ls hl => ?_)
                                                                                                        refine lv_goto (tgt := 42) hx hb dX12_paint_80 (by decide) ?_
                                                                                                        refine lv_iload_n hx hb dX12_paint_42 rfl (lv_at hl 0 rfl) ?_
                                                                                                        refine lv_bipush (v := 40) hx hb dX12_paint_43 (by decide) ?_
                                                                                                        refine lv_icmp_ge (tgt := 83) hx hb dX12_paint_45 (by decide) (fun c537 => ?_) (fun c537 => ?_)
                                                                                                        · exact absurd c537 (by decide)
                                                                                                        · refine lv_aload_n hx hb dX12_paint_48 rfl (lv_at hl 1 rfl) ?_
                                                                                                          refine va_get (D := D) (ci := 12) (v := .ref h11) (C := RX12) (T := TX12) (N := 24) hx hb hts hin12 hown hK hP 14 rfl rfl 18 (by decide) (hts (.fieldLink RX12 44 "MissedPointsModel" "items" "[I") (by decide +kernel)) (fun _ h9 => h9) rfl dX12_paint_49 ?_
                                                                                                          refine lv_bipush (v := 40) hx hb dX12_paint_52 (by decide) ?_
                                                                                                          refine lv_iload_n hx hb dX12_paint_54 rfl (lv_at hl 2 rfl) ?_
                                                                                                          refine lv_imul hx hb dX12_paint_55 ?_
                                                                                                          refine lz_top (y := 80) (by decide) ?_
                                                                                                          refine lv_iload_n hx hb dX12_paint_56 rfl (lv_at hl 0 rfl) ?_
                                                                                                          refine lv_iadd hx hb dX12_paint_57 ?_
                                                                                                          refine lz_top (y := 101) (by decide) ?_
                                                                                                          refine lv_iload_n hx hb dX12_paint_58 rfl (lv_at hl 0 rfl) ?_
                                                                                                          refine lv_aload_n hx hb dX12_paint_59 rfl (lv_at hl 1 rfl) ?_
                                                                                                          refine va_get (D := D) (ci := 12) (v := .int 0) (C := RX12) (T := TX12) (N := 24) hx hb hts hin12 hown hK hP 14 rfl rfl 0 (by decide) (hts (.fieldLink RX12 63 "MissedPointsModel" "many" "I") (by decide +kernel)) (fun _ h9 => h9) rfl dX12_paint_60 ?_
                                                                                                          refine lv_icmp_ge (tgt := 75) hx hb dX12_paint_63 (by decide) (fun c538 => ?_) (fun c538 => ?_)
                                                                                                          · refine lv_iconst (v := 0) hx hb dX12_paint_75 (by decide) ?_
                                                                                                            refine lz_astc hx hb hK hP hD hS 9 0 rfl rfl (lz_vp (x := 101) (n := 160) (by decide) (by decide)) dX12_paint_76 (fun H locs hP hD hS => ?_)
                                                                                                            refine lv_iinc (v := 22) (lv' := [(3, .int 22), (0, .ref h0), (1, .int 2), (2, .int x1)]) hx hb dX12_paint_77 hl (k := 0) rfl (by decide) (by decide) rfl (fun ls hl => ?_)
                                                                                                            refine lv_goto (tgt := 42) hx hb dX12_paint_80 (by decide) ?_
                                                                                                            refine lv_iload_n hx hb dX12_paint_42 rfl (lv_at hl 0 rfl) ?_
                                                                                                            refine lv_bipush (v := 40) hx hb dX12_paint_43 (by decide) ?_
                                                                                                            refine lv_icmp_ge (tgt := 83) hx hb dX12_paint_45 (by decide) (fun c539 => ?_) (fun c539 => ?_)
                                                                                                            · exact absurd c539 (by decide)
                                                                                                            · refine lv_aload_n hx hb dX12_paint_48 rfl (lv_at hl 1 rfl) ?_
                                                                                                              refine va_get (D := D) (ci := 12) (v := .ref h11) (C := RX12) (T := TX12) (N := 24) hx hb hts hin12 hown hK hP 14 rfl rfl 18 (by decide) (hts (.fieldLink RX12 44 "MissedPointsModel" "items" "[I") (by decide +kernel)) (fun _ h9 => h9) rfl dX12_paint_49 ?_
                                                                                                              refine lv_bipush (v := 40) hx hb dX12_paint_52 (by decide) ?_
                                                                                                              refine lv_iload_n hx hb dX12_paint_54 rfl (lv_at hl 2 rfl) ?_
                                                                                                              refine lv_imul hx hb dX12_paint_55 ?_
                                                                                                              refine lz_top (y := 80) (by decide) ?_
                                                                                                              refine lv_iload_n hx hb dX12_paint_56 rfl (lv_at hl 0 rfl) ?_
                                                                                                              refine lv_iadd hx hb dX12_paint_57 ?_
                                                                                                              refine lz_top (y := 102) (by decide) ?_
                                                                                                              refine lv_iload_n hx hb dX12_paint_58 rfl (lv_at hl 0 rfl) ?_
                                                                                                              refine lv_aload_n hx hb dX12_paint_59 rfl (lv_at hl 1 rfl) ?_
                                                                                                              refine va_get (D := D) (ci := 12) (v := .int 0) (C := RX12) (T := TX12) (N := 24) hx hb hts hin12 hown hK hP 14 rfl rfl 0 (by decide) (hts (.fieldLink RX12 63 "MissedPointsModel" "many" "I") (by decide +kernel)) (fun _ h9 => h9) rfl dX12_paint_60 ?_
                                                                                                              refine lv_icmp_ge (tgt := 75) hx hb dX12_paint_63 (by decide) (fun c540 => ?_) (fun c540 => ?_)
                                                                                                              · refine lv_iconst (v := 0) hx hb dX12_paint_75 (by decide) ?_
                                                                                                                refine lz_astc hx hb hK hP hD hS 9 0 rfl rfl (lz_vp (x := 102) (n := 160) (by decide) (by decide)) dX12_paint_76 (fun H locs hP hD hS => ?_)
                                                                                                                refine lv_iinc (v := 23) (lv' := [(3, .int 23), (0, .ref h0), (1, .int 2), (2, .int x1)]) hx hb dX12_paint_77 hl (k := 0) rfl (by decide) (by decide) rfl (fun ls hl => ?_)
                                                                                                                refine lv_goto (tgt := 42) hx hb dX12_paint_80 (by decide) ?_
                                                                                                                refine lv_iload_n hx hb dX12_paint_42 rfl (lv_at hl 0 rfl) ?_
                                                                                                                refine lv_bipush (v := 40) hx hb dX12_paint_43 (by decide) ?_
                                                                                                                refine lv_icmp_ge (tgt := 83) hx hb dX12_paint_45 (by decide) (fun c541 => ?_) (fun c541 => ?_)
                                                                                                                · exact absurd c541 (by decide)
                                                                                                                · refine lv_aload_n hx hb dX12_paint_48 rfl (lv_at hl 1 rfl) ?_
                                                                                                                  refine va_get (D := D) (ci := 12) (v := .ref h11) (C := RX12) (T := TX12) (N := 24) hx hb hts hin12 hown hK hP 14 rfl rfl 18 (by decide) (hts (.fieldLink RX12 44 "MissedPointsModel" "items" "[I") (by decide +kernel)) (fun _ h9 => h9) rfl dX12_paint_49 ?_
                                                                                                                  refine lv_bipush (v := 40) hx hb dX12_paint_52 (by decide) ?_
                                                                                                                  refine lv_iload_n hx hb dX12_paint_54 rfl (lv_at hl 2 rfl) ?_
                                                                                                                  refine lv_imul hx hb dX12_paint_55 ?_
                                                                                                                  refine lz_top (y := 80) (by decide) ?_
                                                                                                                  refine lv_iload_n hx hb dX12_paint_56 rfl (lv_at hl 0 rfl) ?_
                                                                                                                  refine lv_iadd hx hb dX12_paint_57 ?_
                                                                                                                  refine lz_top (y := 103) (by decide) ?_
                                                                                                                  refine lv_iload_n hx hb dX12_paint_58 rfl (lv_at hl 0 rfl) ?_
                                                                                                                  refine lv_aload_n hx hb dX12_paint_59 rfl (lv_at hl 1 rfl) ?_
                                                                                                                  refine va_get (D := D) (ci := 12) (v := .int 0) (C := RX12) (T := TX12) (N := 24) hx hb hts hin12 hown hK hP 14 rfl rfl 0 (by decide) (hts (.fieldLink RX12 63 "MissedPointsModel" "many" "I") (by decide +kernel)) (fun _ h9 => h9) rfl dX12_paint_60 ?_
                                                                                                                  refine lv_icmp_ge (tgt := 75) hx hb dX12_paint_63 (by decide) (fun c542 => ?_) (fun c542 => ?_)
                                                                                                                  · refine lv_iconst (v := 0) hx hb dX12_paint_75 (by decide) ?_
                                                                                                                    refine lz_astc hx hb hK hP hD hS 9 0 rfl rfl (lz_vp (x := 103) (n := 160) (by decide) (by decide)) dX12_paint_76 (fun H locs hP hD hS => ?_)
                                                                                                                    refine lv_iinc (v := 24) (lv' := [(3, .int 24), (0, .ref h0), (1, .int 2), (2, .int x1)]) hx hb dX12_paint_77 hl (k := 0) rfl (by decide) (by decide) rfl (fun ls hl => ?_)
                                                                                                                    refine lv_goto (tgt := 42) hx hb dX12_paint_80 (by decide) ?_
                                                                                                                    refine lv_iload_n hx hb dX12_paint_42 rfl (lv_at hl 0 rfl) ?_
                                                                                                                    refine lv_bipush (v := 40) hx hb dX12_paint_43 (by decide) ?_
                                                                                                                    refine lv_icmp_ge (tgt := 83) hx hb dX12_paint_45 (by decide) (fun c543 => ?_) (fun c543 => ?_)
                                                                                                                    · exact absurd c543 (by decide)
                                                                                                                    · refine lv_aload_n hx hb dX12_paint_48 rfl (lv_at hl 1 rfl) ?_
                                                                                                                      refine va_get (D := D) (ci := 12) (v := .ref h11) (C := RX12) (T := TX12) (N := 24) hx hb hts hin12 hown hK hP 14 rfl rfl 18 (by decide) (hts (.fieldLink RX12 44 "MissedPointsModel" "items" "[I") (by decide +kernel)) (fun _ h9 => h9) rfl dX12_paint_49 ?_
                                                                                                                      refine lv_bipush (v := 40) hx hb dX12_paint_52 (by decide) ?_
                                                                                                                      refine lv_iload_n hx hb dX12_paint_54 rfl (lv_at hl 2 rfl) ?_
                                                                                                                      refine lv_imul hx hb dX12_paint_55 ?_
                                                                                                                      refine lz_top (y := 80) (by decide) ?_
                                                                                                                      refine lv_iload_n hx hb dX12_paint_56 rfl (lv_at hl 0 rfl) ?_
                                                                                                                      refine lv_iadd hx hb dX12_paint_57 ?_
                                                                                                                      refine lz_top (y := 104) (by decide) ?_
                                                                                                                      refine lv_iload_n hx hb dX12_paint_58 rfl (lv_at hl 0 rfl) ?_
                                                                                                                      refine lv_aload_n hx hb dX12_paint_59 rfl (lv_at hl 1 rfl) ?_
                                                                                                                      refine va_get (D := D) (ci := 12) (v := .int 0) (C := RX12) (T := TX12) (N := 24) hx hb hts hin12 hown hK hP 14 rfl rfl 0 (by decide) (hts (.fieldLink RX12 63 "MissedPointsModel" "many" "I") (by decide +kernel)) (fun _ h9 => h9) rfl dX12_paint_60 ?_
                                                                                                                      refine lv_icmp_ge (tgt := 75) hx hb dX12_paint_63 (by decide) (fun c544 => ?_) (fun c544 => ?_)
                                                                                                                      · refine lv_iconst (v := 0) hx hb dX12_paint_75 (by decide) ?_
                                                                                                                        refine lz_astc hx hb hK hP hD hS 9 0 rfl rfl (lz_vp (x := 104) (n := 160) (by decide) (by decide)) dX12_paint_76 (fun H locs hP hD hS => ?_)
                                                                                                                        refine lv_iinc (v := 25) (lv' := [(3, .int 25), (0, .ref h0), (1, .int 2), (2, .int x1)]) hx hb dX12_paint_77 hl (k := 0) rfl (by decide) (by decide) rfl (fun ls hl => ?_)
                                                                                                                        refine lv_goto (tgt := 42) hx hb dX12_paint_80 (by decide) ?_
                                                                                                                        refine lv_iload_n hx hb dX12_paint_42 rfl (lv_at hl 0 rfl) ?_
                                                                                                                        refine lv_bipush (v := 40) hx hb dX12_paint_43 (by decide) ?_
                                                                                                                        refine lv_icmp_ge (tgt := 83) hx hb dX12_paint_45 (by decide) (fun c545 => ?_) (fun c545 => ?_)
                                                                                                                        · exact absurd c545 (by decide)
                                                                                                                        · refine lv_aload_n hx hb dX12_paint_48 rfl (lv_at hl 1 rfl) ?_
                                                                                                                          refine va_get (D := D) (ci := 12) (v := .ref h11) (C := RX12) (T := TX12) (N := 24) hx hb hts hin12 hown hK hP 14 rfl rfl 18 (by decide) (hts (.fieldLink RX12 44 "MissedPointsModel" "items" "[I") (by decide +kernel)) (fun _ h9 => h9) rfl dX12_paint_49 ?_
                                                                                                                          refine lv_bipush (v := 40) hx hb dX12_paint_52 (by decide) ?_
                                                                                                                          refine lv_iload_n hx hb dX12_paint_54 rfl (lv_at hl 2 rfl) ?_
                                                                                                                          refine lv_imul hx hb dX12_paint_55 ?_
                                                                                                                          refine lz_top (y := 80) (by decide) ?_
                                                                                                                          refine lv_iload_n hx hb dX12_paint_56 rfl (lv_at hl 0 rfl) ?_
                                                                                                                          refine lv_iadd hx hb dX12_paint_57 ?_
                                                                                                                          refine lz_top (y := 105) (by decide) ?_
                                                                                                                          refine lv_iload_n hx hb dX12_paint_58 rfl (lv_at hl 0 rfl) ?_
                                                                                                                          refine lv_aload_n hx hb dX12_paint_59 rfl (lv_at hl 1 rfl) ?_
                                                                                                                          refine va_get (D := D) (ci := 12) (v := .int 0) (C := RX12) (T := TX12) (N := 24) hx hb hts hin12 hown hK hP 14 rfl rfl 0 (by decide) (hts (.fieldLink RX12 63 "MissedPointsModel" "many" "I") (by decide +kernel)) (fun _ h9 => h9) rfl dX12_paint_60 ?_
                                                                                                                          refine lv_icmp_ge (tgt := 75) hx hb dX12_paint_63 (by decide) (fun c546 => ?_) (fun c546 => ?_)
                                                                                                                          · refine lv_iconst (v := 0) hx hb dX12_paint_75 (by decide) ?_
                                                                                                                            refine lz_astc hx hb hK hP hD hS 9 0 rfl rfl (lz_vp (x := 105) (n := 160) (by decide) (by decide)) dX12_paint_76 (fun H locs hP hD hS => ?_)
                                                                                                                            refine lv_iinc (v := 26) (lv' := [(3, .int 26), (0, .ref h0), (1, .int 2), (2, .int x1)]) hx hb dX12_paint_77 hl (k := 0) rfl (by decide) (by decide) rfl (fun ls hl => ?_)
                                                                                                                            refine lv_goto (tgt := 42) hx hb dX12_paint_80 (by decide) ?_
                                                                                                                            refine lv_iload_n hx hb dX12_paint_42 rfl (lv_at hl 0 rfl) ?_
                                                                                                                            refine lv_bipush (v := 40) hx hb dX12_paint_43 (by decide) ?_
                                                                                                                            refine lv_icmp_ge (tgt := 83) hx hb dX12_paint_45 (by decide) (fun c547 => ?_) (fun c547 => ?_)
                                                                                                                            · exact absurd c547 (by decide)
                                                                                                                            · refine lv_aload_n hx hb dX12_paint_48 rfl (lv_at hl 1 rfl) ?_
                                                                                                                              refine va_get (D := D) (ci := 12) (v := .ref h11) (C := RX12) (T := TX12) (N := 24) hx hb hts hin12 hown hK hP 14 rfl rfl 18 (by decide) (hts (.fieldLink RX12 44 "MissedPointsModel" "items" "[I") (by decide +kernel)) (fun _ h9 => h9) rfl dX12_paint_49 ?_
                                                                                                                              refine lv_bipush (v := 40) hx hb dX12_paint_52 (by decide) ?_
                                                                                                                              refine lv_iload_n hx hb dX12_paint_54 rfl (lv_at hl 2 rfl) ?_
                                                                                                                              refine lv_imul hx hb dX12_paint_55 ?_
                                                                                                                              refine lz_top (y := 80) (by decide) ?_
                                                                                                                              refine lv_iload_n hx hb dX12_paint_56 rfl (lv_at hl 0 rfl) ?_
                                                                                                                              refine lv_iadd hx hb dX12_paint_57 ?_
                                                                                                                              refine lz_top (y := 106) (by decide) ?_
                                                                                                                              refine lv_iload_n hx hb dX12_paint_58 rfl (lv_at hl 0 rfl) ?_
                                                                                                                              refine lv_aload_n hx hb dX12_paint_59 rfl (lv_at hl 1 rfl) ?_
                                                                                                                              refine va_get (D := D) (ci := 12) (v := .int 0) (C := RX12) (T := TX12) (N := 24) hx hb hts hin12 hown hK hP 14 rfl rfl 0 (by decide) (hts (.fieldLink RX12 63 "MissedPointsModel" "many" "I") (by decide +kernel)) (fun _ h9 => h9) rfl dX12_paint_60 ?_
                                                                                                                              refine lv_icmp_ge (tgt := 75) hx hb dX12_paint_63 (by decide) (fun c548 => ?_) (fun c548 => ?_)
                                                                                                                              · refine lv_iconst (v := 0) hx hb dX12_paint_75 (by decide) ?_
                                                                                                                                refine lz_astc hx hb hK hP hD hS 9 0 rfl rfl (lz_vp (x := 106) (n := 160) (by decide) (by decide)) dX12_paint_76 (fun H locs hP hD hS => ?_)
                                                                                                                                refine lv_iinc (v := 27) (lv' := [(3, .int 27), (0, .ref h0), (1, .int 2), (2, .int x1)]) hx hb dX12_paint_77 hl (k := 0) rfl (by decide) (by decide) rfl (fun ls hl => ?_)
                                                                                                                                refine lv_goto (tgt := 42) hx hb dX12_paint_80 (by decide) ?_
                                                                                                                                refine lv_iload_n hx hb dX12_paint_42 rfl (lv_at hl 0 rfl) ?_
                                                                                                                                refine lv_bipush (v := 40) hx hb dX12_paint_43 (by decide) ?_
                                                                                                                                refine lv_icmp_ge (tgt := 83) hx hb dX12_paint_45 (by decide) (fun c549 => ?_) (fun c549 => ?_)
                                                                                                                                · exact absurd c549 (by decide)
                                                                                                                                · refine lv_aload_n hx hb dX12_paint_48 rfl (lv_at hl 1 rfl) ?_
                                                                                                                                  refine va_get (D := D) (ci := 12) (v := .ref h11) (C := RX12) (T := TX12) (N := 24) hx hb hts hin12 hown hK hP 14 rfl rfl 18 (by decide) (hts (.fieldLink RX12 44 "MissedPointsModel" "items" "[I") (by decide +kernel)) (fun _ h9 => h9) rfl dX12_paint_49 ?_
                                                                                                                                  refine lv_bipush (v := 40) hx hb dX12_paint_52 (by decide) ?_
                                                                                                                                  refine lv_iload_n hx hb dX12_paint_54 rfl (lv_at hl 2 rfl) ?_
                                                                                                                                  refine lv_imul hx hb dX12_paint_55 ?_
                                                                                                                                  refine lz_top (y := 80) (by decide) ?_
                                                                                                                                  refine lv_iload_n hx hb dX12_paint_56 rfl (lv_at hl 0 rfl) ?_
                                                                                                                                  refine lv_iadd hx hb dX12_paint_57 ?_
                                                                                                                                  refine lz_top (y := 107) (by decide) ?_
                                                                                                                                  refine lv_iload_n hx hb dX12_paint_58 rfl (lv_at hl 0 rfl) ?_
                                                                                                                                  refine lv_aload_n hx hb dX12_paint_59 rfl (lv_at hl 1 rfl) ?_
                                                                                                                                  refine va_get (D := D) (ci := 12) (v := .int 0) (C := RX12) (T := TX12) (N := 24) hx hb hts hin12 hown hK hP 14 rfl rfl 0 (by decide) (hts (.fieldLink RX12 63 "MissedPointsModel" "many" "I") (by decide +kernel)) (fun _ h9 => h9) rfl dX12_paint_60 ?_
                                                                                                                                  refine lv_icmp_ge (tgt := 75) hx hb dX12_paint_63 (by decide) (fun c550 => ?_) (fun c550 => ?_)
                                                                                                                                  · refine lv_iconst (v := 0) hx hb dX12_paint_75 (by decide) ?_
                                                                                                                                    refine lz_astc hx hb hK hP hD hS 9 0 rfl rfl (lz_vp (x := 107) (n := 160) (by decide) (by decide)) dX12_paint_76 (fun H locs hP hD hS => ?_)
                                                                                                                                    refine lv_iinc (v := 28) (lv' := [(3, .int 28), (0, .ref h0), (1, .int 2), (2, .int x1)]) hx hb dX12_paint_77 hl (k := 0) rfl (by decide) (by decide) rfl (fun ls hl => ?_)
                                                                                                                                    refine lv_goto (tgt := 42) hx hb dX12_paint_80 (by decide) ?_
                                                                                                                                    refine lv_iload_n hx hb dX12_paint_42 rfl (lv_at hl 0 rfl) ?_
                                                                                                                                    refine lv_bipush (v := 40) hx hb dX12_paint_43 (by decide) ?_
                                                                                                                                    refine lv_icmp_ge (tgt := 83) hx hb dX12_paint_45 (by decide) (fun c551 => ?_) (fun c551 => ?_)
                                                                                                                                    · exact absurd c551 (by decide)
                                                                                                                                    · refine lv_aload_n hx hb dX12_paint_48 rfl (lv_at hl 1 rfl) ?_
                                                                                                                                      refine va_get (D := D) (ci := 12) (v := .ref h11) (C := RX12) (T := TX12) (N := 24) hx hb hts hin12 hown hK hP 14 rfl rfl 18 (by decide) (hts (.fieldLink RX12 44 "MissedPointsModel" "items" "[I") (by decide +kernel)) (fun _ h9 => h9) rfl dX12_paint_49 ?_
                                                                                                                                      refine lv_bipush (v := 40) hx hb dX12_paint_52 (by decide) ?_
                                                                                                                                      refine lv_iload_n hx hb dX12_paint_54 rfl (lv_at hl 2 rfl) ?_
                                                                                                                                      refine lv_imul hx hb dX12_paint_55 ?_
                                                                                                                                      refine lz_top (y := 80) (by decide) ?_
                                                                                                                                      refine lv_iload_n hx hb dX12_paint_56 rfl (lv_at hl 0 rfl) ?_
                                                                                                                                      refine lv_iadd hx hb dX12_paint_57 ?_
                                                                                                                                      refine lz_top (y := 108) (by decide) ?_
                                                                                                                                      refine lv_iload_n hx hb dX12_paint_58 rfl (lv_at hl 0 rfl) ?_
                                                                                                                                      refine lv_aload_n hx hb dX12_paint_59 rfl (lv_at hl 1 rfl) ?_
                                                                                                                                      refine va_get (D := D) (ci := 12) (v := .int 0) (C := RX12) (T := TX12) (N := 24) hx hb hts hin12 hown hK hP 14 rfl rfl 0 (by decide) (hts (.fieldLink RX12 63 "MissedPointsModel" "many" "I") (by decide +kernel)) (fun _ h9 => h9) rfl dX12_paint_60 ?_
                                                                                                                                      refine lv_icmp_ge (tgt := 75) hx hb dX12_paint_63 (by decide) (fun c552 => ?_) (fun c552 => ?_)
                                                                                                                                      · refine lv_iconst (v := 0) hx hb dX12_paint_75 (by decide) ?_
                                                                                                                                        refine lz_astc hx hb hK hP hD hS 9 0 rfl rfl (lz_vp (x := 108) (n := 160) (by decide) (by decide)) dX12_paint_76 (fun H locs hP hD hS => ?_)
                                                                                                                                        refine lv_iinc (v := 29) (lv' := [(3, .int 29), (0, .ref h0), (1, .int 2), (2, .int x1)]) hx hb dX12_paint_77 hl (k := 0) rfl (by decide) (by decide) rfl (fun ls hl => ?_)
                                                                                                                                        refine lv_goto (tgt := 42) hx hb dX12_paint_80 (by decide) ?_
                                                                                                                                        refine lv_iload_n hx hb dX12_paint_42 rfl (lv_at hl 0 rfl) ?_
                                                                                                                                        refine lv_bipush (v := 40) hx hb dX12_paint_43 (by decide) ?_
                                                                                                                                        refine lv_icmp_ge (tgt := 83) hx hb dX12_paint_45 (by decide) (fun c553 => ?_) (fun c553 => ?_)
                                                                                                                                        · exact absurd c553 (by decide)
                                                                                                                                        · refine lv_aload_n hx hb dX12_paint_48 rfl (lv_at hl 1 rfl) ?_
                                                                                                                                          refine va_get (D := D) (ci := 12) (v := .ref h11) (C := RX12) (T := TX12) (N := 24) hx hb hts hin12 hown hK hP 14 rfl rfl 18 (by decide) (hts (.fieldLink RX12 44 "MissedPointsModel" "items" "[I") (by decide +kernel)) (fun _ h9 => h9) rfl dX12_paint_49 ?_
                                                                                                                                          refine lv_bipush (v := 40) hx hb dX12_paint_52 (by decide) ?_
                                                                                                                                          refine lv_iload_n hx hb dX12_paint_54 rfl (lv_at hl 2 rfl) ?_
                                                                                                                                          refine lv_imul hx hb dX12_paint_55 ?_
                                                                                                                                          refine lz_top (y := 80) (by decide) ?_
                                                                                                                                          refine lv_iload_n hx hb dX12_paint_56 rfl (lv_at hl 0 rfl) ?_
                                                                                                                                          refine lv_iadd hx hb dX12_paint_57 ?_
                                                                                                                                          refine lz_top (y := 109) (by decide) ?_
                                                                                                                                          refine lv_iload_n hx hb dX12_paint_58 rfl (lv_at hl 0 rfl) ?_
                                                                                                                                          refine lv_aload_n hx hb dX12_paint_59 rfl (lv_at hl 1 rfl) ?_
                                                                                                                                          refine va_get (D := D) (ci := 12) (v := .int 0) (C := RX12) (T := TX12) (N := 24) hx hb hts hin12 hown hK hP 14 rfl rfl 0 (by decide) (hts (.fieldLink RX12 63 "MissedPointsModel" "many" "I") (by decide +kernel)) (fun _ h9 => h9) rfl dX12_paint_60 ?_
                                                                                                                                          refine lv_icmp_ge (tgt := 75) hx hb dX12_paint_63 (by decide) (fun c554 => ?_) (fun c554 => ?_)
                                                                                                                                          · refine lv_iconst (v := 0) hx hb dX12_paint_75 (by decide) ?_
                                                                                                                                            refine lz_astc hx hb hK hP hD hS 9 0 rfl rfl (lz_vp (x := 109) (n := 160) (by decide) (by decide)) dX12_paint_76 (fun H locs hP hD hS => ?_)
                                                                                                                                            refine lv_iinc (v := 30) (lv' := [(3, .int 30), (0, .ref h0), (1, .int 2), (2, .int x1)]) hx hb dX12_paint_77 hl (k := 0) rfl (by decide) (by decide) rfl (fun ls hl => ?_)
                                                                                                                                            refine lv_goto (tgt := 42) hx hb dX12_paint_80 (by decide) ?_
                                                                                                                                            refine lv_iload_n hx hb dX12_paint_42 rfl (lv_at hl 0 rfl) ?_
                                                                                                                                            refine lv_bipush (v := 40) hx hb dX12_paint_43 (by decide) ?_
                                                                                                                                            refine lv_icmp_ge (tgt := 83) hx hb dX12_paint_45 (by decide) (fun c555 => ?_) (fun c555 => ?_)
                                                                                                                                            · exact absurd c555 (by decide)
                                                                                                                                            · refine lv_aload_n hx hb dX12_paint_48 rfl (lv_at hl 1 rfl) ?_
                                                                                                                                              refine va_get (D := D) (ci := 12) (v := .ref h11) (C := RX12) (T := TX12) (N := 24) hx hb hts hin12 hown hK hP 14 rfl rfl 18 (by decide) (hts (.fieldLink RX12 44 "MissedPointsModel" "items" "[I") (by decide +kernel)) (fun _ h9 => h9) rfl dX12_paint_49 ?_
                                                                                                                                              refine lv_bipush (v := 40) hx hb dX12_paint_52 (by decide) ?_
                                                                                                                                              refine lv_iload_n hx hb dX12_paint_54 rfl (lv_at hl 2 rfl) ?_
                                                                                                                                              refine lv_imul hx hb dX12_paint_55 ?_
                                                                                                                                              refine lz_top (y := 80) (by decide) ?_
                                                                                                                                              refine lv_iload_n hx hb dX12_paint_56 rfl (lv_at hl 0 rfl) ?_
                                                                                                                                              refine lv_iadd hx hb dX12_paint_57 ?_
                                                                                                                                              refine lz_top (y := 110) (by decide) ?_
                                                                                                                                              refine lv_iload_n hx hb dX12_paint_58 rfl (lv_at hl 0 rfl) ?_
                                                                                                                                              refine lv_aload_n hx hb dX12_paint_59 rfl (lv_at hl 1 rfl) ?_
                                                                                                                                              refine va_get (D := D) (ci := 12) (v := .int 0) (C := RX12) (T := TX12) (N := 24) hx hb hts hin12 hown hK hP 14 rfl rfl 0 (by decide) (hts (.fieldLink RX12 63 "MissedPointsModel" "many" "I") (by decide +kernel)) (fun _ h9 => h9) rfl dX12_paint_60 ?_
                                                                                                                                              refine lv_icmp_ge (tgt := 75) hx hb dX12_paint_63 (by decide) (fun c556 => ?_) (fun c556 => ?_)
                                                                                                                                              · refine lv_iconst (v := 0) hx hb dX12_paint_75 (by decide) ?_
                                                                                                                                                refine lz_astc hx hb hK hP hD hS 9 0 rfl rfl (lz_vp (x := 110) (n := 160) (by decide) (by decide)) dX12_paint_76 (fun H locs hP hD hS => ?_)
                                                                                                                                                refine lv_iinc (v := 31) (lv' := [(3, .int 31), (0, .ref h0), (1, .int 2), (2, .int x1)]) hx hb dX12_paint_77 hl (k := 0) rfl (by decide) (by decide) rfl (fun ls hl => ?_)
                                                                                                                                                refine lv_goto (tgt := 42) hx hb dX12_paint_80 (by decide) ?_
                                                                                                                                                refine lv_iload_n hx hb dX12_paint_42 rfl (lv_at hl 0 rfl) ?_
                                                                                                                                                refine lv_bipush (v := 40) hx hb dX12_paint_43 (by decide) ?_
                                                                                                                                                refine lv_icmp_ge (tgt := 83) hx hb dX12_paint_45 (by decide) (fun c557 => ?_) (fun c557 => ?_)
                                                                                                                                                · exact absurd c557 (by decide)
                                                                                                                                                · refine lv_aload_n hx hb dX12_paint_48 rfl (lv_at hl 1 rfl) ?_
                                                                                                                                                  refine va_get (D := D) (ci := 12) (v := .ref h11) (C := RX12) (T := TX12) (N := 24) hx hb hts hin12 hown hK hP 14 rfl rfl 18 (by decide) (hts (.fieldLink RX12 44 "MissedPointsModel" "items" "[I") (by decide +kernel)) (fun _ h9 => h9) rfl dX12_paint_49 ?_
                                                                                                                                                  refine lv_bipush (v := 40) hx hb dX12_paint_52 (by decide) ?_
                                                                                                                                                  refine lv_iload_n hx hb dX12_paint_54 rfl (lv_at hl 2 rfl) ?_
                                                                                                                                                  refine lv_imul hx hb dX12_paint_55 ?_
                                                                                                                                                  refine lz_top (y := 80) (by decide) ?_
                                                                                                                                                  refine lv_iload_n hx hb dX12_paint_56 rfl (lv_at hl 0 rfl) ?_
                                                                                                                                                  refine lv_iadd hx hb dX12_paint_57 ?_
                                                                                                                                                  refine lz_top (y := 111) (by decide) ?_
                                                                                                                                                  refine lv_iload_n hx hb dX12_paint_58 rfl (lv_at hl 0 rfl) ?_
                                                                                                                                                  refine lv_aload_n hx hb dX12_paint_59 rfl (lv_at hl 1 rfl) ?_
                                                                                                                                                  refine va_get (D := D) (ci := 12) (v := .int 0) (C := RX12) (T := TX12) (N := 24) hx hb hts hin12 hown hK hP 14 rfl rfl 0 (by decide) (hts (.fieldLink RX12 63 "MissedPointsModel" "many" "I") (by decide +kernel)) (fun _ h9 => h9) rfl dX12_paint_60 ?_
                                                                                                                                                  refine lv_icmp_ge (tgt := 75) hx hb dX12_paint_63 (by decide) (fun c558 => ?_) (fun c558 => ?_)
                                                                                                                                                  · refine lv_iconst (v := 0) hx hb dX12_paint_75 (by decide) ?_
                                                                                                                                                    refine lz_astc hx hb hK hP hD hS 9 0 rfl rfl (lz_vp (x := 111) (n := 160) (by decide) (by decide)) dX12_paint_76 (fun H locs hP hD hS => ?_)
                                                                                                                                                    refine lv_iinc (v := 32) (lv' := [(3, .int 32), (0, .ref h0), (1, .int 2), (2, .int x1)]) hx hb dX12_paint_77 hl (k := 0) rfl (by decide) (by decide) rfl (fun ls hl => ?_)
                                                                                                                                                    refine lv_goto (tgt := 42) hx hb dX12_paint_80 (by decide) ?_
                                                                                                                                                    refine lv_iload_n hx hb dX12_paint_42 rfl (lv_at hl 0 rfl) ?_
                                                                                                                                                    refine lv_bipush (v := 40) hx hb dX12_paint_43 (by decide) ?_
                                                                                                                                                    refine lv_icmp_ge (tgt := 83) hx hb dX12_paint_45 (by decide) (fun c559 => ?_) (fun c559 => ?_)
                                                                                                                                                    · exact absurd c559 (by decide)
                                                                                                                                                    · refine lv_aload_n hx hb dX12_paint_48 rfl (lv_at hl 1 rfl) ?_
                                                                                                                                                      refine va_get (D := D) (ci := 12) (v := .ref h11) (C := RX12) (T := TX12) (N := 24) hx hb hts hin12 hown hK hP 14 rfl rfl 18 (by decide) (hts (.fieldLink RX12 44 "MissedPointsModel" "items" "[I") (by decide +kernel)) (fun _ h9 => h9) rfl dX12_paint_49 ?_
                                                                                                                                                      refine lv_bipush (v := 40) hx hb dX12_paint_52 (by decide) ?_
                                                                                                                                                      refine lv_iload_n hx hb dX12_paint_54 rfl (lv_at hl 2 rfl) ?_
                                                                                                                                                      refine lv_imul hx hb dX12_paint_55 ?_
                                                                                                                                                      refine lz_top (y := 80) (by decide) ?_
                                                                                                                                                      refine lv_iload_n hx hb dX12_paint_56 rfl (lv_at hl 0 rfl) ?_
                                                                                                                                                      refine lv_iadd hx hb dX12_paint_57 ?_
                                                                                                                                                      refine lz_top (y := 112) (by decide) ?_
                                                                                                                                                      refine lv_iload_n hx hb dX12_paint_58 rfl (lv_at hl 0 rfl) ?_
                                                                                                                                                      refine lv_aload_n hx hb dX12_paint_59 rfl (lv_at hl 1 rfl) ?_
                                                                                                                                                      refine va_get (D := D) (ci := 12) (v := .int 0) (C := RX12) (T := TX12) (N := 24) hx hb hts hin12 hown hK hP 14 rfl rfl 0 (by decide) (hts (.fieldLink RX12 63 "MissedPointsModel" "many" "I") (by decide +kernel)) (fun _ h9 => h9) rfl dX12_paint_60 ?_
                                                                                                                                                      refine lv_icmp_ge (tgt := 75) hx hb dX12_paint_63 (by decide) (fun c560 => ?_) (fun c560 => ?_)
                                                                                                                                                      · refine lv_iconst (v := 0) hx hb dX12_paint_75 (by decide) ?_
                                                                                                                                                        refine lz_astc hx hb hK hP hD hS 9 0 rfl rfl (lz_vp (x := 112) (n := 160) (by decide) (by decide)) dX12_paint_76 (fun H locs hP hD hS => ?_)
                                                                                                                                                        refine lv_iinc (v := 33) (lv' := [(3, .int 33), (0, .ref h0), (1, .int 2), (2, .int x1)]) hx hb dX12_paint_77 hl (k := 0) rfl (by decide) (by decide) rfl (fun ls hl => ?_)
                                                                                                                                                        refine lv_goto (tgt := 42) hx hb dX12_paint_80 (by decide) ?_
                                                                                                                                                        refine lv_iload_n hx hb dX12_paint_42 rfl (lv_at hl 0 rfl) ?_
                                                                                                                                                        refine lv_bipush (v := 40) hx hb dX12_paint_43 (by decide) ?_
                                                                                                                                                        refine lv_icmp_ge (tgt := 83) hx hb dX12_paint_45 (by decide) (fun c561 => ?_) (fun c561 => ?_)
                                                                                                                                                        · exact absurd c561 (by decide)
                                                                                                                                                        · refine lv_aload_n hx hb dX12_paint_48 rfl (lv_at hl 1 rfl) ?_
                                                                                                                                                          refine va_get (D := D) (ci := 12) (v := .ref h11) (C := RX12) (T := TX12) (N := 24) hx hb hts hin12 hown hK hP 14 rfl rfl 18 (by decide) (hts (.fieldLink RX12 44 "MissedPointsModel" "items" "[I") (by decide +kernel)) (fun _ h9 => h9) rfl dX12_paint_49 ?_
                                                                                                                                                          refine lv_bipush (v := 40) hx hb dX12_paint_52 (by decide) ?_
                                                                                                                                                          refine lv_iload_n hx hb dX12_paint_54 rfl (lv_at hl 2 rfl) ?_
                                                                                                                                                          refine lv_imul hx hb dX12_paint_55 ?_
                                                                                                                                                          refine lz_top (y := 80) (by decide) ?_
                                                                                                                                                          refine lv_iload_n hx hb dX12_paint_56 rfl (lv_at hl 0 rfl) ?_
                                                                                                                                                          refine lv_iadd hx hb dX12_paint_57 ?_
                                                                                                                                                          refine lz_top (y := 113) (by decide) ?_
                                                                                                                                                          refine lv_iload_n hx hb dX12_paint_58 rfl (lv_at hl 0 rfl) ?_
                                                                                                                                                          refine lv_aload_n hx hb dX12_paint_59 rfl (lv_at hl 1 rfl) ?_
                                                                                                                                                          refine va_get (D := D) (ci := 12) (v := .int 0) (C := RX12) (T := TX12) (N := 24) hx hb hts hin12 hown hK hP 14 rfl rfl 0 (by decide) (hts (.fieldLink RX12 63 "MissedPointsModel" "many" "I") (by decide +kernel)) (fun _ h9 => h9) rfl dX12_paint_60 ?_
                                                                                                                                                          refine lv_icmp_ge (tgt := 75) hx hb dX12_paint_63 (by decide) (fun c562 => ?_) (fun c562 => ?_)
                                                                                                                                                          · refine lv_iconst (v := 0) hx hb dX12_paint_75 (by decide) ?_
                                                                                                                                                            refine lz_astc hx hb hK hP hD hS 9 0 rfl rfl (lz_vp (x := 113) (n := 160) (by decide) (by decide)) dX12_paint_76 (fun H locs hP hD hS => ?_)
                                                                                                                                                            refine lv_iinc (v := 34) (lv' := [(3, .int 34), (0, .ref h0), (1, .int 2), (2, .int x1)]) hx hb dX12_paint_77 hl (k := 0) rfl (by decide) (by decide) rfl (fun ls hl => ?_)
                                                                                                                                                            refine lv_goto (tgt := 42) hx hb dX12_paint_80 (by decide) ?_
                                                                                                                                                            refine lv_iload_n hx hb dX12_paint_42 rfl (lv_at hl 0 rfl) ?_
                                                                                                                                                            refine lv_bipush (v := 40) hx hb dX12_paint_43 (by decide) ?_
                                                                                                                                                            refine lv_icmp_ge (tgt := 83) hx hb dX12_paint_45 (by decide) (fun c563 => ?_) (fun c563 => ?_)
                                                                                                                                                            · exact absurd c563 (by decide)
                                                                                                                                                            · refine lv_aload_n hx hb dX12_paint_48 rfl (lv_at hl 1 rfl) ?_
                                                                                                                                                              refine va_get (D := D) (ci := 12) (v := .ref h11) (C := RX12) (T := TX12) (N := 24) hx hb hts hin12 hown hK hP 14 rfl rfl 18 (by decide) (hts (.fieldLink RX12 44 "MissedPointsModel" "items" "[I") (by decide +kernel)) (fun _ h9 => h9) rfl dX12_paint_49 ?_
                                                                                                                                                              refine lv_bipush (v := 40) hx hb dX12_paint_52 (by decide) ?_
                                                                                                                                                              refine lv_iload_n hx hb dX12_paint_54 rfl (lv_at hl 2 rfl) ?_
                                                                                                                                                              refine lv_imul hx hb dX12_paint_55 ?_
                                                                                                                                                              refine lz_top (y := 80) (by decide) ?_
                                                                                                                                                              refine lv_iload_n hx hb dX12_paint_56 rfl (lv_at hl 0 rfl) ?_
                                                                                                                                                              refine lv_iadd hx hb dX12_paint_57 ?_
                                                                                                                                                              refine lz_top (y := 114) (by decide) ?_
                                                                                                                                                              refine lv_iload_n hx hb dX12_paint_58 rfl (lv_at hl 0 rfl) ?_
                                                                                                                                                              refine lv_aload_n hx hb dX12_paint_59 rfl (lv_at hl 1 rfl) ?_
                                                                                                                                                              refine va_get (D := D) (ci := 12) (v := .int 0) (C := RX12) (T := TX12) (N := 24) hx hb hts hin12 hown hK hP 14 rfl rfl 0 (by decide) (hts (.fieldLink RX12 63 "MissedPointsModel" "many" "I") (by decide +kernel)) (fun _ h9 => h9) rfl dX12_paint_60 ?_
                                                                                                                                                              refine lv_icmp_ge (tgt := 75) hx hb dX12_paint_63 (by decide) (fun c564 => ?_) (fun c564 => ?_)
                                                                                                                                                              · refine lv_iconst (v := 0) hx hb dX12_paint_75 (by decide) ?_
                                                                                                                                                                refine lz_astc hx hb hK hP hD hS 9 0 rfl rfl (lz_vp (x := 114) (n := 160) (by decide) (by decide)) dX12_paint_76 (fun H locs hP hD hS => ?_)
                                                                                                                                                                refine lv_iinc (v := 35) (lv' := [(3, .int 35), (0, .ref h0), (1, .int 2), (2, .int x1)]) hx hb dX12_paint_77 hl (k := 0) rfl (by decide) (by decide) rfl (fun ls hl => ?_)
                                                                                                                                                                refine lv_goto (tgt := 42) hx hb dX12_paint_80 (by decide) ?_
                                                                                                                                                                refine lv_iload_n hx hb dX12_paint_42 rfl (lv_at hl 0 rfl) ?_
                                                                                                                                                                refine lv_bipush (v := 40) hx hb dX12_paint_43 (by decide) ?_
                                                                                                                                                                refine lv_icmp_ge (tgt := 83) hx hb dX12_paint_45 (by decide) (fun c565 => ?_) (fun c565 => ?_)
                                                                                                                                                                · exact absurd c565 (by decide)
                                                                                                                                                                · refine lv_aload_n hx hb dX12_paint_48 rfl (lv_at hl 1 rfl) ?_
                                                                                                                                                                  refine va_get (D := D) (ci := 12) (v := .ref h11) (C := RX12) (T := TX12) (N := 24) hx hb hts hin12 hown hK hP 14 rfl rfl 18 (by decide) (hts (.fieldLink RX12 44 "MissedPointsModel" "items" "[I") (by decide +kernel)) (fun _ h9 => h9) rfl dX12_paint_49 ?_
                                                                                                                                                                  refine lv_bipush (v := 40) hx hb dX12_paint_52 (by decide) ?_
                                                                                                                                                                  refine lv_iload_n hx hb dX12_paint_54 rfl (lv_at hl 2 rfl) ?_
                                                                                                                                                                  refine lv_imul hx hb dX12_paint_55 ?_
                                                                                                                                                                  refine lz_top (y := 80) (by decide) ?_
                                                                                                                                                                  refine lv_iload_n hx hb dX12_paint_56 rfl (lv_at hl 0 rfl) ?_
                                                                                                                                                                  refine lv_iadd hx hb dX12_paint_57 ?_
                                                                                                                                                                  refine lz_top (y := 115) (by decide) ?_
                                                                                                                                                                  refine lv_iload_n hx hb dX12_paint_58 rfl (lv_at hl 0 rfl) ?_
                                                                                                                                                                  refine lv_aload_n hx hb dX12_paint_59 rfl (lv_at hl 1 rfl) ?_
                                                                                                                                                                  refine va_get (D := D) (ci := 12) (v := .int 0) (C := RX12) (T := TX12) (N := 24) hx hb hts hin12 hown hK hP 14 rfl rfl 0 (by decide) (hts (.fieldLink RX12 63 "MissedPointsModel" "many" "I") (by decide +kernel)) (fun _ h9 => h9) rfl dX12_paint_60 ?_
                                                                                                                                                                  refine lv_icmp_ge (tgt := 75) hx hb dX12_paint_63 (by decide) (fun c566 => ?_) (fun c566 => ?_)
                                                                                                                                                                  · refine lv_iconst (v := 0) hx hb dX12_paint_75 (by decide) ?_
                                                                                                                                                                    refine lz_astc hx hb hK hP hD hS 9 0 rfl rfl (lz_vp (x := 115) (n := 160) (by decide) (by decide)) dX12_paint_76 (fun H locs hP hD hS => ?_)
                                                                                                                                                                    refine lv_iinc (v := 36) (lv' := [(3, .int 36), (0, .ref h0), (1, .int 2), (2, .int x1)]) hx hb dX12_paint_77 hl (k := 0) rfl (by decide) (by decide) rfl (fun ls hl => ?_)
                                                                                                                                                                    refine lv_goto (tgt := 42) hx hb dX12_paint_80 (by decide) ?_
                                                                                                                                                                    refine lv_iload_n hx hb dX12_paint_42 rfl (lv_at hl 0 rfl) ?_
                                                                                                                                                                    refine lv_bipush (v := 40) hx hb dX12_paint_43 (by decide) ?_
                                                                                                                                                                    refine lv_icmp_ge (tgt := 83) hx hb dX12_paint_45 (by decide) (fun c567 => ?_) (fun c567 => ?_)
                                                                                                                                                                    · exact absurd c567 (by decide)
                                                                                                                                                                    · refine lv_aload_n hx hb dX12_paint_48 rfl (lv_at hl 1 rfl) ?_
                                                                                                                                                                      refine va_get (D := D) (ci := 12) (v := .ref h11) (C := RX12) (T := TX12) (N := 24) hx hb hts hin12 hown hK hP 14 rfl rfl 18 (by decide) (hts (.fieldLink RX12 44 "MissedPointsModel" "items" "[I") (by decide +kernel)) (fun _ h9 => h9) rfl dX12_paint_49 ?_
                                                                                                                                                                      refine lv_bipush (v := 40) hx hb dX12_paint_52 (by decide) ?_
                                                                                                                                                                      refine lv_iload_n hx hb dX12_paint_54 rfl (lv_at hl 2 rfl) ?_
                                                                                                                                                                      refine lv_imul hx hb dX12_paint_55 ?_
                                                                                                                                                                      refine lz_top (y := 80) (by decide) ?_
                                                                                                                                                                      refine lv_iload_n hx hb dX12_paint_56 rfl (lv_at hl 0 rfl) ?_
                                                                                                                                                                      refine lv_iadd hx hb dX12_paint_57 ?_
                                                                                                                                                                      refine lz_top (y := 116) (by decide) ?_
                                                                                                                                                                      refine lv_iload_n hx hb dX12_paint_58 rfl (lv_at hl 0 rfl) ?_
                                                                                                                                                                      refine lv_aload_n hx hb dX12_paint_59 rfl (lv_at hl 1 rfl) ?_
                                                                                                                                                                      refine va_get (D := D) (ci := 12) (v := .int 0) (C := RX12) (T := TX12) (N := 24) hx hb hts hin12 hown hK hP 14 rfl rfl 0 (by decide) (hts (.fieldLink RX12 63 "MissedPointsModel" "many" "I") (by decide +kernel)) (fun _ h9 => h9) rfl dX12_paint_60 ?_
                                                                                                                                                                      refine lv_icmp_ge (tgt := 75) hx hb dX12_paint_63 (by decide) (fun c568 => ?_) (fun c568 => ?_)
                                                                                                                                                                      · refine lv_iconst (v := 0) hx hb dX12_paint_75 (by decide) ?_
                                                                                                                                                                        refine lz_astc hx hb hK hP hD hS 9 0 rfl rfl (lz_vp (x := 116) (n := 160) (by decide) (by decide)) dX12_paint_76 (fun H locs hP hD hS => ?_)
                                                                                                                                                                        refine lv_iinc (v := 37) (lv' := [(3, .int 37), (0, .ref h0), (1, .int 2), (2, .int x1)]) hx hb dX12_paint_77 hl (k := 0) rfl (by decide) (by decide) rfl (fun ls hl => ?_)
                                                                                                                                                                        refine lv_goto (tgt := 42) hx hb dX12_paint_80 (by decide) ?_
                                                                                                                                                                        refine lv_iload_n hx hb dX12_paint_42 rfl (lv_at hl 0 rfl) ?_
                                                                                                                                                                        refine lv_bipush (v := 40) hx hb dX12_paint_43 (by decide) ?_
                                                                                                                                                                        refine lv_icmp_ge (tgt := 83) hx hb dX12_paint_45 (by decide) (fun c569 => ?_) (fun c569 => ?_)
                                                                                                                                                                        · exact absurd c569 (by decide)
                                                                                                                                                                        · refine lv_aload_n hx hb dX12_paint_48 rfl (lv_at hl 1 rfl) ?_
                                                                                                                                                                          refine va_get (D := D) (ci := 12) (v := .ref h11) (C := RX12) (T := TX12) (N := 24) hx hb hts hin12 hown hK hP 14 rfl rfl 18 (by decide) (hts (.fieldLink RX12 44 "MissedPointsModel" "items" "[I") (by decide +kernel)) (fun _ h9 => h9) rfl dX12_paint_49 ?_
                                                                                                                                                                          refine lv_bipush (v := 40) hx hb dX12_paint_52 (by decide) ?_
                                                                                                                                                                          refine lv_iload_n hx hb dX12_paint_54 rfl (lv_at hl 2 rfl) ?_
                                                                                                                                                                          refine lv_imul hx hb dX12_paint_55 ?_
                                                                                                                                                                          refine lz_top (y := 80) (by decide) ?_
                                                                                                                                                                          refine lv_iload_n hx hb dX12_paint_56 rfl (lv_at hl 0 rfl) ?_
                                                                                                                                                                          refine lv_iadd hx hb dX12_paint_57 ?_
                                                                                                                                                                          refine lz_top (y := 117) (by decide) ?_
                                                                                                                                                                          refine lv_iload_n hx hb dX12_paint_58 rfl (lv_at hl 0 rfl) ?_
                                                                                                                                                                          refine lv_aload_n hx hb dX12_paint_59 rfl (lv_at hl 1 rfl) ?_
                                                                                                                                                                          refine va_get (D := D) (ci := 12) (v := .int 0) (C := RX12) (T := TX12) (N := 24) hx hb hts hin12 hown hK hP 14 rfl rfl 0 (by decide) (hts (.fieldLink RX12 63 "MissedPointsModel" "many" "I") (by decide +kernel)) (fun _ h9 => h9) rfl dX12_paint_60 ?_
                                                                                                                                                                          refine lv_icmp_ge (tgt := 75) hx hb dX12_paint_63 (by decide) (fun c570 => ?_) (fun c570 => ?_)
                                                                                                                                                                          · refine lv_iconst (v := 0) hx hb dX12_paint_75 (by decide) ?_
                                                                                                                                                                            refine lz_astc hx hb hK hP hD hS 9 0 rfl rfl (lz_vp (x := 117) (n := 160) (by decide) (by decide)) dX12_paint_76 (fun H locs hP hD hS => ?_)
                                                                                                                                                                            refine lv_iinc (v := 38) (lv' := [(3, .int 38), (0, .ref h0), (1, .int 2), (2, .int x1)]) hx hb dX12_paint_77 hl (k := 0) rfl (by decide) (by decide) rfl (fun ls hl => ?_)
                                                                                                                                                                            refine lv_goto (tgt := 42) hx hb dX12_paint_80 (by decide) ?_
                                                                                                                                                                            refine lv_iload_n hx hb dX12_paint_42 rfl (lv_at hl 0 rfl) ?_
                                                                                                                                                                            refine lv_bipush (v := 40) hx hb dX12_paint_43 (by decide) ?_
                                                                                                                                                                            refine lv_icmp_ge (tgt := 83) hx hb dX12_paint_45 (by decide) (fun c571 => ?_) (fun c571 => ?_)
                                                                                                                                                                            · exact absurd c571 (by decide)
                                                                                                                                                                            · refine lv_aload_n hx hb dX12_paint_48 rfl (lv_at hl 1 rfl) ?_
                                                                                                                                                                              refine va_get (D := D) (ci := 12) (v := .ref h11) (C := RX12) (T := TX12) (N := 24) hx hb hts hin12 hown hK hP 14 rfl rfl 18 (by decide) (hts (.fieldLink RX12 44 "MissedPointsModel" "items" "[I") (by decide +kernel)) (fun _ h9 => h9) rfl dX12_paint_49 ?_
                                                                                                                                                                              refine lv_bipush (v := 40) hx hb dX12_paint_52 (by decide) ?_
                                                                                                                                                                              refine lv_iload_n hx hb dX12_paint_54 rfl (lv_at hl 2 rfl) ?_
                                                                                                                                                                              refine lv_imul hx hb dX12_paint_55 ?_
                                                                                                                                                                              refine lz_top (y := 80) (by decide) ?_
                                                                                                                                                                              refine lv_iload_n hx hb dX12_paint_56 rfl (lv_at hl 0 rfl) ?_
                                                                                                                                                                              refine lv_iadd hx hb dX12_paint_57 ?_
                                                                                                                                                                              refine lz_top (y := 118) (by decide) ?_
                                                                                                                                                                              refine lv_iload_n hx hb dX12_paint_58 rfl (lv_at hl 0 rfl) ?_
                                                                                                                                                                              refine lv_aload_n hx hb dX12_paint_59 rfl (lv_at hl 1 rfl) ?_
                                                                                                                                                                              refine va_get (D := D) (ci := 12) (v := .int 0) (C := RX12) (T := TX12) (N := 24) hx hb hts hin12 hown hK hP 14 rfl rfl 0 (by decide) (hts (.fieldLink RX12 63 "MissedPointsModel" "many" "I") (by decide +kernel)) (fun _ h9 => h9) rfl dX12_paint_60 ?_
                                                                                                                                                                              refine lv_icmp_ge (tgt := 75) hx hb dX12_paint_63 (by decide) (fun c572 => ?_) (fun c572 => ?_)
                                                                                                                                                                              · refine lv_iconst (v := 0) hx hb dX12_paint_75 (by decide) ?_
                                                                                                                                                                                refine lz_astc hx hb hK hP hD hS 9 0 rfl rfl (lz_vp (x := 118) (n := 160) (by decide) (by decide)) dX12_paint_76 (fun H locs hP hD hS => ?_)
                                                                                                                                                                                refine lv_iinc (v := 39) (lv' := [(3, .int 39), (0, .ref h0), (1, .int 2), (2, .int x1)]) hx hb dX12_paint_77 hl (k := 0) rfl (by decide) (by decide) rfl (fun ls hl => ?_)
                                                                                                                                                                                refine lv_goto (tgt := 42) hx hb dX12_paint_80 (by decide) ?_
                                                                                                                                                                                refine lv_iload_n hx hb dX12_paint_42 rfl (lv_at hl 0 rfl) ?_
                                                                                                                                                                                refine lv_bipush (v := 40) hx hb dX12_paint_43 (by decide) ?_
                                                                                                                                                                                refine lv_icmp_ge (tgt := 83) hx hb dX12_paint_45 (by decide) (fun c573 => ?_) (fun c573 => ?_)
                                                                                                                                                                                · exact absurd c573 (by decide)
                                                                                                                                                                                · refine lv_aload_n hx hb dX12_paint_48 rfl (lv_at hl 1 rfl) ?_
                                                                                                                                                                                  refine va_get (D := D) (ci := 12) (v := .ref h11) (C := RX12) (T := TX12) (N := 24) hx hb hts hin12 hown hK hP 14 rfl rfl 18 (by decide) (hts (.fieldLink RX12 44 "MissedPointsModel" "items" "[I") (by decide +kernel)) (fun _ h9 => h9) rfl dX12_paint_49 ?_
                                                                                                                                                                                  refine lv_bipush (v := 40) hx hb dX12_paint_52 (by decide) ?_
                                                                                                                                                                                  refine lv_iload_n hx hb dX12_paint_54 rfl (lv_at hl 2 rfl) ?_
                                                                                                                                                                                  refine lv_imul hx hb dX12_paint_55 ?_
                                                                                                                                                                                  refine lz_top (y := 80) (by decide) ?_
                                                                                                                                                                                  refine lv_iload_n hx hb dX12_paint_56 rfl (lv_at hl 0 rfl) ?_
                                                                                                                                                                                  refine lv_iadd hx hb dX12_paint_57 ?_
                                                                                                                                                                                  refine lz_top (y := 119) (by decide) ?_
                                                                                                                                                                                  refine lv_iload_n hx hb dX12_paint_58 rfl (lv_at hl 0 rfl) ?_
                                                                                                                                                                                  refine lv_aload_n hx hb dX12_paint_59 rfl (lv_at hl 1 rfl) ?_
                                                                                                                                                                                  refine va_get (D := D) (ci := 12) (v := .int 0) (C := RX12) (T := TX12) (N := 24) hx hb hts hin12 hown hK hP 14 rfl rfl 0 (by decide) (hts (.fieldLink RX12 63 "MissedPointsModel" "many" "I") (by decide +kernel)) (fun _ h9 => h9) rfl dX12_paint_60 ?_
                                                                                                                                                                                  refine lv_icmp_ge (tgt := 75) hx hb dX12_paint_63 (by decide) (fun c574 => ?_) (fun c574 => ?_)
                                                                                                                                                                                  · refine lv_iconst (v := 0) hx hb dX12_paint_75 (by decide) ?_
                                                                                                                                                                                    refine lz_astc hx hb hK hP hD hS 9 0 rfl rfl (lz_vp (x := 119) (n := 160) (by decide) (by decide)) dX12_paint_76 (fun H locs hP hD hS => ?_)
                                                                                                                                                                                    refine lv_iinc (v := 40) (lv' := [(3, .int 40), (0, .ref h0), (1, .int 2), (2, .int x1)]) hx hb dX12_paint_77 hl (k := 0) rfl (by decide) (by decide) rfl (fun ls hl => ?_)
                                                                                                                                                                                    refine lv_goto (tgt := 42) hx hb dX12_paint_80 (by decide) ?_
                                                                                                                                                                                    refine lv_iload_n hx hb dX12_paint_42 rfl (lv_at hl 0 rfl) ?_
                                                                                                                                                                                    refine lv_bipush (v := 40) hx hb dX12_paint_43 (by decide) ?_
                                                                                                                                                                                    refine lv_icmp_ge (tgt := 83) hx hb dX12_paint_45 (by decide) (fun c575 => ?_) (fun c575 => ?_)
                                                                                                                                                                                    · refine lv_aload_n hx hb dX12_paint_83 rfl (lv_at hl 1 rfl) ?_
                                                                                                                                                                                      refine va_get (D := D) (ci := 12) (v := .int 0) (C := RX12) (T := TX12) (N := 24) hx hb hts hin12 hown hK hP 14 rfl rfl 0 (by decide) (hts (.fieldLink RX12 63 "MissedPointsModel" "many" "I") (by decide +kernel)) (fun _ h9 => h9) rfl dX12_paint_84 ?_
                                                                                                                                                                                      have hP9 := hP.sub (ws' := []) [] rfl
                                                                                                                                                                                      have hD9 := hD.sub (ws' := []) [] (by decide) rfl
                                                                                                                                                                                      subst hAe
                                                                                                                                                                                      exact W.iret (v := 0) hx hb hr (fun t ht hW => ⟨⟨_, (), rfl, by rw [if_neg k315, if_neg k317, if_neg k321, if_neg k323], by rw [ht]; exact hP9, hD9⟩, hS.F ht⟩) hS.2.2 dX12_paint_87
                                                                                                                                                                                    · exact absurd c575 (by decide)
                                                                                                                                                                                  · exact absurd c574 (by decide)
                                                                                                                                                                              · exact absurd c572 (by decide)
                                                                                                                                                                          · exact absurd c570 (by decide)
                                                                                                                                                                      · exact absurd c568 (by decide)
                                                                                                                                                                  · exact absurd c566 (by decide)
                                                                                                                                                              · exact absurd c564 (by decide)
                                                                                                                                                          · exact absurd c562 (by decide)
                                                                                                                                                      · exact absurd c560 (by decide)
                                                                                                                                                  · exact absurd c558 (by decide)
                                                                                                                                              · exact absurd c556 (by decide)
                                                                                                                                          · exact absurd c554 (by decide)
                                                                                                                                      · exact absurd c552 (by decide)
                                                                                                                                  · exact absurd c550 (by decide)
                                                                                                                              · exact absurd c548 (by decide)
                                                                                                                          · exact absurd c546 (by decide)
                                                                                                                      · exact absurd c544 (by decide)
                                                                                                                  · exact absurd c542 (by decide)
                                                                                                              · exact absurd c540 (by decide)
                                                                                                          · exact absurd c538 (by decide)
                                                                                                      · exact absurd c536 (by decide)
                                                                                                  · exact absurd c534 (by decide)
                                                                                              · exact absurd c532 (by decide)
                                                                                          · exact absurd c530 (by decide)
                                                                                      · exact absurd c528 (by decide)
                                                                                  · exact absurd c526 (by decide)
                                                                              · exact absurd c524 (by decide)
                                                                          · exact absurd c522 (by decide)
                                                                      · exact absurd c520 (by decide)
                                                                  · exact absurd c518 (by decide)
                                                              · exact absurd c516 (by decide)
                                                          · exact absurd c514 (by decide)
                                                      · exact absurd c512 (by decide)
                                                  · exact absurd c510 (by decide)
                                              · exact absurd c508 (by decide)
                                          · exact absurd c506 (by decide)
                                      · exact absurd c504 (by decide)
                                  · exact absurd c502 (by decide)
                              · exact absurd c500 (by decide)
                          · exact absurd c498 (by decide)
                      · exact absurd c496 (by decide)
                  · obtain rfl : x0 = 3 := by have zf1 := mt (lz_lt x0 (0 : Int32)).mpr k315; have zf2 := mt (lz_lt (3 : Int32) x0).mpr k317; have zf3 := mt (lz_lt x1 (0 : Int32)).mpr k321; have zf4 := mt (lz_lt (1 : Int32) x1).mpr k323; have zf5 := mt (lz_eq x0 (0 : Int32)).mpr k330; have zf6 := mt (lz_eq x0 (1 : Int32)).mpr k412; have zf7 := mt (lz_eq x0 (2 : Int32)).mpr k494; have zn0 : (0 : Int32).toInt = 0 := (by decide); have zn1 : (1 : Int32).toInt = 1 := (by decide); have zn2 : (2 : Int32).toInt = 2 := (by decide); have zn3 : (3 : Int32).toInt = 3 := (by decide); rw [lz_eq]; omega
                    refine va_iast hx hb hK hP hD hS 7 0 rfl rfl (lz_vp (x := 3) (n := 4) (by decide) (by decide)) dX12_paint_29 (fun H locs hP hD hS => ?_)
                    have hP : va_P D cls [(h1, .inl (cI, 12, .inl (fun _ => 0))), (h2, .inl (cI, 4096, .inl (fun _ => 0))), (h4, .inl (cI, 28672, .inl (fun _ => 0))), (h5, .inl (cI, 12, .inl (fun _ => 0))), (h6, .inl (cI, 12, .inl (fun _ => 0))), (h7, .inl (cI, 12, .inl (fun _ => 0))), (h8, .inl (cI, 120, .inl (fun _ => 0))), (h9, .inl (cI, 4, .inl (upd (fun _ => -1) 3 x1))), (h10, .inl (cI, 4, .inl (fun _ => 0))), (h11, .inl (cI, 160, .inl (fun _ => 0))), (h12, .inl (cI, 4, .inl (fun _ => -1))), (h13, .inl (cI, 4, .inl (fun _ => 0))), (h14, .inl (cI, 4, .inl (fun _ => 0))), (h15, .inl (cI, 28, .inl (fun _ => 0))), (h0, .inr (12, [.int 0, .int 1, .ref h1, .ref h2, .ref h3, .ref h4, .ref h5, .ref h6, .ref h7, .ref h8, .int 0, .int 0, .int 0, .int 0, .int 0, .int 0, .ref h9, .ref h10, .ref h11, .ref h12, .ref h13, .ref h14, .ref h15, .int 0])), (h3, .inl (cI, 4096, .inl (upd (fun _ => 0) 0 1)))] H := hP
                    have hD : va_D A [(h1, .inl (cI, 12, .inl (fun _ => 0))), (h2, .inl (cI, 4096, .inl (fun _ => 0))), (h4, .inl (cI, 28672, .inl (fun _ => 0))), (h5, .inl (cI, 12, .inl (fun _ => 0))), (h6, .inl (cI, 12, .inl (fun _ => 0))), (h7, .inl (cI, 12, .inl (fun _ => 0))), (h8, .inl (cI, 120, .inl (fun _ => 0))), (h9, .inl (cI, 4, .inl (upd (fun _ => -1) 3 x1))), (h10, .inl (cI, 4, .inl (fun _ => 0))), (h11, .inl (cI, 160, .inl (fun _ => 0))), (h12, .inl (cI, 4, .inl (fun _ => -1))), (h13, .inl (cI, 4, .inl (fun _ => 0))), (h14, .inl (cI, 4, .inl (fun _ => 0))), (h15, .inl (cI, 28, .inl (fun _ => 0))), (h0, .inr (12, [.int 0, .int 1, .ref h1, .ref h2, .ref h3, .ref h4, .ref h5, .ref h6, .ref h7, .ref h8, .int 0, .int 0, .int 0, .int 0, .int 0, .int 0, .ref h9, .ref h10, .ref h11, .ref h12, .ref h13, .ref h14, .ref h15, .int 0])), (h3, .inl (cI, 4096, .inl (upd (fun _ => 0) 0 1)))] := hD
                    refine lv_aload_n hx hb dX12_paint_30 rfl (lv_at hl 0 rfl) ?_
                    refine va_get (D := D) (ci := 12) (v := .ref h10) (C := RX12) (T := TX12) (N := 24) hx hb hts hin12 hown hK hP 14 rfl rfl 17 (by decide) (hts (.fieldLink RX12 41 "MissedPointsModel" "size" "[I") (by decide +kernel)) (fun _ h9 => h9) rfl dX12_paint_31 ?_
                    refine lv_iload_n hx hb dX12_paint_34 rfl (lv_at hl 1 rfl) ?_
                    refine lv_aload_n hx hb dX12_paint_35 rfl (lv_at hl 0 rfl) ?_
                    refine va_get (D := D) (ci := 12) (v := .int 0) (C := RX12) (T := TX12) (N := 24) hx hb hts hin12 hown hK hP 14 rfl rfl 0 (by decide) (hts (.fieldLink RX12 63 "MissedPointsModel" "many" "I") (by decide +kernel)) (fun _ h9 => h9) rfl dX12_paint_36 ?_
                    refine lz_astc hx hb hK hP hD hS 8 0 rfl rfl (lz_vp (x := 3) (n := 4) (by decide) (by decide)) dX12_paint_39 (fun H locs hP hD hS => ?_)
                    refine lv_iconst (v := 0) hx hb dX12_paint_40 (by decide) ?_
                    refine lv_istore_n (lv' := [(3, .int 0), (0, .ref h0), (1, .int 3), (2, .int x1)]) hx hb dX12_paint_41 rfl hl (by decide) rfl (fun ls hl => ?_)
                    refine lv_iload_n hx hb dX12_paint_42 rfl (lv_at hl 0 rfl) ?_
                    refine lv_bipush (v := 40) hx hb dX12_paint_43 (by decide) ?_
                    refine lv_icmp_ge (tgt := 83) hx hb dX12_paint_45 (by decide) (fun c576 => ?_) (fun c576 => ?_)
                    · exact absurd c576 (by decide)
                    · refine lv_aload_n hx hb dX12_paint_48 rfl (lv_at hl 1 rfl) ?_
                      refine va_get (D := D) (ci := 12) (v := .ref h11) (C := RX12) (T := TX12) (N := 24) hx hb hts hin12 hown hK hP 14 rfl rfl 18 (by decide) (hts (.fieldLink RX12 44 "MissedPointsModel" "items" "[I") (by decide +kernel)) (fun _ h9 => h9) rfl dX12_paint_49 ?_
                      refine lv_bipush (v := 40) hx hb dX12_paint_52 (by decide) ?_
                      refine lv_iload_n hx hb dX12_paint_54 rfl (lv_at hl 2 rfl) ?_
                      refine lv_imul hx hb dX12_paint_55 ?_
                      refine lz_top (y := 120) (by decide) ?_
                      refine lv_iload_n hx hb dX12_paint_56 rfl (lv_at hl 0 rfl) ?_
                      refine lv_iadd hx hb dX12_paint_57 ?_
                      refine lz_top (y := 120) (by decide) ?_
                      refine lv_iload_n hx hb dX12_paint_58 rfl (lv_at hl 0 rfl) ?_
                      refine lv_aload_n hx hb dX12_paint_59 rfl (lv_at hl 1 rfl) ?_
                      refine va_get (D := D) (ci := 12) (v := .int 0) (C := RX12) (T := TX12) (N := 24) hx hb hts hin12 hown hK hP 14 rfl rfl 0 (by decide) (hts (.fieldLink RX12 63 "MissedPointsModel" "many" "I") (by decide +kernel)) (fun _ h9 => h9) rfl dX12_paint_60 ?_
                      refine lv_icmp_ge (tgt := 75) hx hb dX12_paint_63 (by decide) (fun c577 => ?_) (fun c577 => ?_)
                      · refine lv_iconst (v := 0) hx hb dX12_paint_75 (by decide) ?_
                        refine lz_astc hx hb hK hP hD hS 9 0 rfl rfl (lz_vp (x := 120) (n := 160) (by decide) (by decide)) dX12_paint_76 (fun H locs hP hD hS => ?_)
                        refine lv_iinc (v := 1) (lv' := [(3, .int 1), (0, .ref h0), (1, .int 3), (2, .int x1)]) hx hb dX12_paint_77 hl (k := 0) rfl (by decide) (by decide) rfl (fun ls hl => ?_)
                        refine lv_goto (tgt := 42) hx hb dX12_paint_80 (by decide) ?_
                        refine lv_iload_n hx hb dX12_paint_42 rfl (lv_at hl 0 rfl) ?_
                        refine lv_bipush (v := 40) hx hb dX12_paint_43 (by decide) ?_
                        refine lv_icmp_ge (tgt := 83) hx hb dX12_paint_45 (by decide) (fun c578 => ?_) (fun c578 => ?_)
                        · exact absurd c578 (by decide)
                        · refine lv_aload_n hx hb dX12_paint_48 rfl (lv_at hl 1 rfl) ?_
                          refine va_get (D := D) (ci := 12) (v := .ref h11) (C := RX12) (T := TX12) (N := 24) hx hb hts hin12 hown hK hP 14 rfl rfl 18 (by decide) (hts (.fieldLink RX12 44 "MissedPointsModel" "items" "[I") (by decide +kernel)) (fun _ h9 => h9) rfl dX12_paint_49 ?_
                          refine lv_bipush (v := 40) hx hb dX12_paint_52 (by decide) ?_
                          refine lv_iload_n hx hb dX12_paint_54 rfl (lv_at hl 2 rfl) ?_
                          refine lv_imul hx hb dX12_paint_55 ?_
                          refine lz_top (y := 120) (by decide) ?_
                          refine lv_iload_n hx hb dX12_paint_56 rfl (lv_at hl 0 rfl) ?_
                          refine lv_iadd hx hb dX12_paint_57 ?_
                          refine lz_top (y := 121) (by decide) ?_
                          refine lv_iload_n hx hb dX12_paint_58 rfl (lv_at hl 0 rfl) ?_
                          refine lv_aload_n hx hb dX12_paint_59 rfl (lv_at hl 1 rfl) ?_
                          refine va_get (D := D) (ci := 12) (v := .int 0) (C := RX12) (T := TX12) (N := 24) hx hb hts hin12 hown hK hP 14 rfl rfl 0 (by decide) (hts (.fieldLink RX12 63 "MissedPointsModel" "many" "I") (by decide +kernel)) (fun _ h9 => h9) rfl dX12_paint_60 ?_
                          refine lv_icmp_ge (tgt := 75) hx hb dX12_paint_63 (by decide) (fun c579 => ?_) (fun c579 => ?_)
                          · refine lv_iconst (v := 0) hx hb dX12_paint_75 (by decide) ?_
                            refine lz_astc hx hb hK hP hD hS 9 0 rfl rfl (lz_vp (x := 121) (n := 160) (by decide) (by decide)) dX12_paint_76 (fun H locs hP hD hS => ?_)
                            refine lv_iinc (v := 2) (lv' := [(3, .int 2), (0, .ref h0), (1, .int 3), (2, .int x1)]) hx hb dX12_paint_77 hl (k := 0) rfl (by decide) (by decide) rfl (fun ls hl => ?_)
                            refine lv_goto (tgt := 42) hx hb dX12_paint_80 (by decide) ?_
                            refine lv_iload_n hx hb dX12_paint_42 rfl (lv_at hl 0 rfl) ?_
                            refine lv_bipush (v := 40) hx hb dX12_paint_43 (by decide) ?_
                            refine lv_icmp_ge (tgt := 83) hx hb dX12_paint_45 (by decide) (fun c580 => ?_) (fun c580 => ?_)
                            · exact absurd c580 (by decide)
                            · refine lv_aload_n hx hb dX12_paint_48 rfl (lv_at hl 1 rfl) ?_
                              refine va_get (D := D) (ci := 12) (v := .ref h11) (C := RX12) (T := TX12) (N := 24) hx hb hts hin12 hown hK hP 14 rfl rfl 18 (by decide) (hts (.fieldLink RX12 44 "MissedPointsModel" "items" "[I") (by decide +kernel)) (fun _ h9 => h9) rfl dX12_paint_49 ?_
                              refine lv_bipush (v := 40) hx hb dX12_paint_52 (by decide) ?_
                              refine lv_iload_n hx hb dX12_paint_54 rfl (lv_at hl 2 rfl) ?_
                              refine lv_imul hx hb dX12_paint_55 ?_
                              refine lz_top (y := 120) (by decide) ?_
                              refine lv_iload_n hx hb dX12_paint_56 rfl (lv_at hl 0 rfl) ?_
                              refine lv_iadd hx hb dX12_paint_57 ?_
                              refine lz_top (y := 122) (by decide) ?_
                              refine lv_iload_n hx hb dX12_paint_58 rfl (lv_at hl 0 rfl) ?_
                              refine lv_aload_n hx hb dX12_paint_59 rfl (lv_at hl 1 rfl) ?_
                              refine va_get (D := D) (ci := 12) (v := .int 0) (C := RX12) (T := TX12) (N := 24) hx hb hts hin12 hown hK hP 14 rfl rfl 0 (by decide) (hts (.fieldLink RX12 63 "MissedPointsModel" "many" "I") (by decide +kernel)) (fun _ h9 => h9) rfl dX12_paint_60 ?_
                              refine lv_icmp_ge (tgt := 75) hx hb dX12_paint_63 (by decide) (fun c581 => ?_) (fun c581 => ?_)
                              · refine lv_iconst (v := 0) hx hb dX12_paint_75 (by decide) ?_
                                refine lz_astc hx hb hK hP hD hS 9 0 rfl rfl (lz_vp (x := 122) (n := 160) (by decide) (by decide)) dX12_paint_76 (fun H locs hP hD hS => ?_)
                                refine lv_iinc (v := 3) (lv' := [(3, .int 3), (0, .ref h0), (1, .int 3), (2, .int x1)]) hx hb dX12_paint_77 hl (k := 0) rfl (by decide) (by decide) rfl (fun ls hl => ?_)
                                refine lv_goto (tgt := 42) hx hb dX12_paint_80 (by decide) ?_
                                refine lv_iload_n hx hb dX12_paint_42 rfl (lv_at hl 0 rfl) ?_
                                refine lv_bipush (v := 40) hx hb dX12_paint_43 (by decide) ?_
                                refine lv_icmp_ge (tgt := 83) hx hb dX12_paint_45 (by decide) (fun c582 => ?_) (fun c582 => ?_)
                                · exact absurd c582 (by decide)
                                · refine lv_aload_n hx hb dX12_paint_48 rfl (lv_at hl 1 rfl) ?_
                                  refine va_get (D := D) (ci := 12) (v := .ref h11) (C := RX12) (T := TX12) (N := 24) hx hb hts hin12 hown hK hP 14 rfl rfl 18 (by decide) (hts (.fieldLink RX12 44 "MissedPointsModel" "items" "[I") (by decide +kernel)) (fun _ h9 => h9) rfl dX12_paint_49 ?_
                                  refine lv_bipush (v := 40) hx hb dX12_paint_52 (by decide) ?_
                                  refine lv_iload_n hx hb dX12_paint_54 rfl (lv_at hl 2 rfl) ?_
                                  refine lv_imul hx hb dX12_paint_55 ?_
                                  refine lz_top (y := 120) (by decide) ?_
                                  refine lv_iload_n hx hb dX12_paint_56 rfl (lv_at hl 0 rfl) ?_
                                  refine lv_iadd hx hb dX12_paint_57 ?_
                                  refine lz_top (y := 123) (by decide) ?_
                                  refine lv_iload_n hx hb dX12_paint_58 rfl (lv_at hl 0 rfl) ?_
                                  refine lv_aload_n hx hb dX12_paint_59 rfl (lv_at hl 1 rfl) ?_
                                  refine va_get (D := D) (ci := 12) (v := .int 0) (C := RX12) (T := TX12) (N := 24) hx hb hts hin12 hown hK hP 14 rfl rfl 0 (by decide) (hts (.fieldLink RX12 63 "MissedPointsModel" "many" "I") (by decide +kernel)) (fun _ h9 => h9) rfl dX12_paint_60 ?_
                                  refine lv_icmp_ge (tgt := 75) hx hb dX12_paint_63 (by decide) (fun c583 => ?_) (fun c583 => ?_)
                                  · refine lv_iconst (v := 0) hx hb dX12_paint_75 (by decide) ?_
                                    refine lz_astc hx hb hK hP hD hS 9 0 rfl rfl (lz_vp (x := 123) (n := 160) (by decide) (by decide)) dX12_paint_76 (fun H locs hP hD hS => ?_)
                                    refine lv_iinc (v := 4) (lv' := [(3, .int 4), (0, .ref h0), (1, .int 3), (2, .int x1)]) hx hb dX12_paint_77 hl (k := 0) rfl (by decide) (by decide) rfl (fun ls hl => ?_)
                                    refine lv_goto (tgt := 42) hx hb dX12_paint_80 (by decide) ?_
                                    refine lv_iload_n hx hb dX12_paint_42 rfl (lv_at hl 0 rfl) ?_
                                    refine lv_bipush (v := 40) hx hb dX12_paint_43 (by decide) ?_
                                    refine lv_icmp_ge (tgt := 83) hx hb dX12_paint_45 (by decide) (fun c584 => ?_) (fun c584 => ?_)
                                    · exact absurd c584 (by decide)
                                    · refine lv_aload_n hx hb dX12_paint_48 rfl (lv_at hl 1 rfl) ?_
                                      refine va_get (D := D) (ci := 12) (v := .ref h11) (C := RX12) (T := TX12) (N := 24) hx hb hts hin12 hown hK hP 14 rfl rfl 18 (by decide) (hts (.fieldLink RX12 44 "MissedPointsModel" "items" "[I") (by decide +kernel)) (fun _ h9 => h9) rfl dX12_paint_49 ?_
                                      refine lv_bipush (v := 40) hx hb dX12_paint_52 (by decide) ?_
                                      refine lv_iload_n hx hb dX12_paint_54 rfl (lv_at hl 2 rfl) ?_
                                      refine lv_imul hx hb dX12_paint_55 ?_
                                      refine lz_top (y := 120) (by decide) ?_
                                      refine lv_iload_n hx hb dX12_paint_56 rfl (lv_at hl 0 rfl) ?_
                                      refine lv_iadd hx hb dX12_paint_57 ?_
                                      refine lz_top (y := 124) (by decide) ?_
                                      refine lv_iload_n hx hb dX12_paint_58 rfl (lv_at hl 0 rfl) ?_
                                      refine lv_aload_n hx hb dX12_paint_59 rfl (lv_at hl 1 rfl) ?_
                                      refine va_get (D := D) (ci := 12) (v := .int 0) (C := RX12) (T := TX12) (N := 24) hx hb hts hin12 hown hK hP 14 rfl rfl 0 (by decide) (hts (.fieldLink RX12 63 "MissedPointsModel" "many" "I") (by decide +kernel)) (fun _ h9 => h9) rfl dX12_paint_60 ?_
                                      refine lv_icmp_ge (tgt := 75) hx hb dX12_paint_63 (by decide) (fun c585 => ?_) (fun c585 => ?_)
                                      · refine lv_iconst (v := 0) hx hb dX12_paint_75 (by decide) ?_
                                        refine lz_astc hx hb hK hP hD hS 9 0 rfl rfl (lz_vp (x := 124) (n := 160) (by decide) (by decide)) dX12_paint_76 (fun H locs hP hD hS => ?_)
                                        refine lv_iinc (v := 5) (lv' := [(3, .int 5), (0, .ref h0), (1, .int 3), (2, .int x1)]) hx hb dX12_paint_77 hl (k := 0) rfl (by decide) (by decide) rfl (fun ls hl => ?_)
                                        refine lv_goto (tgt := 42) hx hb dX12_paint_80 (by decide) ?_
                                        refine lv_iload_n hx hb dX12_paint_42 rfl (lv_at hl 0 rfl) ?_
                                        refine lv_bipush (v := 40) hx hb dX12_paint_43 (by decide) ?_
                                        refine lv_icmp_ge (tgt := 83) hx hb dX12_paint_45 (by decide) (fun c586 => ?_) (fun c586 => ?_)
                                        · exact absurd c586 (by decide)
                                        · refine lv_aload_n hx hb dX12_paint_48 rfl (lv_at hl 1 rfl) ?_
                                          refine va_get (D := D) (ci := 12) (v := .ref h11) (C := RX12) (T := TX12) (N := 24) hx hb hts hin12 hown hK hP 14 rfl rfl 18 (by decide) (hts (.fieldLink RX12 44 "MissedPointsModel" "items" "[I") (by decide +kernel)) (fun _ h9 => h9) rfl dX12_paint_49 ?_
                                          refine lv_bipush (v := 40) hx hb dX12_paint_52 (by decide) ?_
                                          refine lv_iload_n hx hb dX12_paint_54 rfl (lv_at hl 2 rfl) ?_
                                          refine lv_imul hx hb dX12_paint_55 ?_
                                          refine lz_top (y := 120) (by decide) ?_
                                          refine lv_iload_n hx hb dX12_paint_56 rfl (lv_at hl 0 rfl) ?_
                                          refine lv_iadd hx hb dX12_paint_57 ?_
                                          refine lz_top (y := 125) (by decide) ?_
                                          refine lv_iload_n hx hb dX12_paint_58 rfl (lv_at hl 0 rfl) ?_
                                          refine lv_aload_n hx hb dX12_paint_59 rfl (lv_at hl 1 rfl) ?_
                                          refine va_get (D := D) (ci := 12) (v := .int 0) (C := RX12) (T := TX12) (N := 24) hx hb hts hin12 hown hK hP 14 rfl rfl 0 (by decide) (hts (.fieldLink RX12 63 "MissedPointsModel" "many" "I") (by decide +kernel)) (fun _ h9 => h9) rfl dX12_paint_60 ?_
                                          refine lv_icmp_ge (tgt := 75) hx hb dX12_paint_63 (by decide) (fun c587 => ?_) (fun c587 => ?_)
                                          · refine lv_iconst (v := 0) hx hb dX12_paint_75 (by decide) ?_
                                            refine lz_astc hx hb hK hP hD hS 9 0 rfl rfl (lz_vp (x := 125) (n := 160) (by decide) (by decide)) dX12_paint_76 (fun H locs hP hD hS => ?_)
                                            refine lv_iinc (v := 6) (lv' := [(3, .int 6), (0, .ref h0), (1, .int 3), (2, .int x1)]) hx hb dX12_paint_77 hl (k := 0) rfl (by decide) (by decide) rfl (fun ls hl => ?_)
                                            refine lv_goto (tgt := 42) hx hb dX12_paint_80 (by decide) ?_
                                            refine lv_iload_n hx hb dX12_paint_42 rfl (lv_at hl 0 rfl) ?_
                                            refine lv_bipush (v := 40) hx hb dX12_paint_43 (by decide) ?_
                                            refine lv_icmp_ge (tgt := 83) hx hb dX12_paint_45 (by decide) (fun c588 => ?_) (fun c588 => ?_)
                                            · exact absurd c588 (by decide)
                                            · refine lv_aload_n hx hb dX12_paint_48 rfl (lv_at hl 1 rfl) ?_
                                              refine va_get (D := D) (ci := 12) (v := .ref h11) (C := RX12) (T := TX12) (N := 24) hx hb hts hin12 hown hK hP 14 rfl rfl 18 (by decide) (hts (.fieldLink RX12 44 "MissedPointsModel" "items" "[I") (by decide +kernel)) (fun _ h9 => h9) rfl dX12_paint_49 ?_
                                              refine lv_bipush (v := 40) hx hb dX12_paint_52 (by decide) ?_
                                              refine lv_iload_n hx hb dX12_paint_54 rfl (lv_at hl 2 rfl) ?_
                                              refine lv_imul hx hb dX12_paint_55 ?_
                                              refine lz_top (y := 120) (by decide) ?_
                                              refine lv_iload_n hx hb dX12_paint_56 rfl (lv_at hl 0 rfl) ?_
                                              refine lv_iadd hx hb dX12_paint_57 ?_
                                              refine lz_top (y := 126) (by decide) ?_
                                              refine lv_iload_n hx hb dX12_paint_58 rfl (lv_at hl 0 rfl) ?_
                                              refine lv_aload_n hx hb dX12_paint_59 rfl (lv_at hl 1 rfl) ?_
                                              refine va_get (D := D) (ci := 12) (v := .int 0) (C := RX12) (T := TX12) (N := 24) hx hb hts hin12 hown hK hP 14 rfl rfl 0 (by decide) (hts (.fieldLink RX12 63 "MissedPointsModel" "many" "I") (by decide +kernel)) (fun _ h9 => h9) rfl dX12_paint_60 ?_
                                              refine lv_icmp_ge (tgt := 75) hx hb dX12_paint_63 (by decide) (fun c589 => ?_) (fun c589 => ?_)
                                              · refine lv_iconst (v := 0) hx hb dX12_paint_75 (by decide) ?_
                                                refine lz_astc hx hb hK hP hD hS 9 0 rfl rfl (lz_vp (x := 126) (n := 160) (by decide) (by decide)) dX12_paint_76 (fun H locs hP hD hS => ?_)
                                                refine lv_iinc (v := 7) (lv' := [(3, .int 7), (0, .ref h0), (1, .int 3), (2, .int x1)]) hx hb dX12_paint_77 hl (k := 0) rfl (by decide) (by decide) rfl (fun ls hl => ?_)
                                                refine lv_goto (tgt := 42) hx hb dX12_paint_80 (by decide) ?_
                                                refine lv_iload_n hx hb dX12_paint_42 rfl (lv_at hl 0 rfl) ?_
                                                refine lv_bipush (v := 40) hx hb dX12_paint_43 (by decide) ?_
                                                refine lv_icmp_ge (tgt := 83) hx hb dX12_paint_45 (by decide) (fun c590 => ?_) (fun c590 => ?_)
                                                · exact absurd c590 (by decide)
                                                · refine lv_aload_n hx hb dX12_paint_48 rfl (lv_at hl 1 rfl) ?_
                                                  refine va_get (D := D) (ci := 12) (v := .ref h11) (C := RX12) (T := TX12) (N := 24) hx hb hts hin12 hown hK hP 14 rfl rfl 18 (by decide) (hts (.fieldLink RX12 44 "MissedPointsModel" "items" "[I") (by decide +kernel)) (fun _ h9 => h9) rfl dX12_paint_49 ?_
                                                  refine lv_bipush (v := 40) hx hb dX12_paint_52 (by decide) ?_
                                                  refine lv_iload_n hx hb dX12_paint_54 rfl (lv_at hl 2 rfl) ?_
                                                  refine lv_imul hx hb dX12_paint_55 ?_
                                                  refine lz_top (y := 120) (by decide) ?_
                                                  refine lv_iload_n hx hb dX12_paint_56 rfl (lv_at hl 0 rfl) ?_
                                                  refine lv_iadd hx hb dX12_paint_57 ?_
                                                  refine lz_top (y := 127) (by decide) ?_
                                                  refine lv_iload_n hx hb dX12_paint_58 rfl (lv_at hl 0 rfl) ?_
                                                  refine lv_aload_n hx hb dX12_paint_59 rfl (lv_at hl 1 rfl) ?_
                                                  refine va_get (D := D) (ci := 12) (v := .int 0) (C := RX12) (T := TX12) (N := 24) hx hb hts hin12 hown hK hP 14 rfl rfl 0 (by decide) (hts (.fieldLink RX12 63 "MissedPointsModel" "many" "I") (by decide +kernel)) (fun _ h9 => h9) rfl dX12_paint_60 ?_
                                                  refine lv_icmp_ge (tgt := 75) hx hb dX12_paint_63 (by decide) (fun c591 => ?_) (fun c591 => ?_)
                                                  · refine lv_iconst (v := 0) hx hb dX12_paint_75 (by decide) ?_
                                                    refine lz_astc hx hb hK hP hD hS 9 0 rfl rfl (lz_vp (x := 127) (n := 160) (by decide) (by decide)) dX12_paint_76 (fun H locs hP hD hS => ?_)
                                                    refine lv_iinc (v := 8) (lv' := [(3, .int 8), (0, .ref h0), (1, .int 3), (2, .int x1)]) hx hb dX12_paint_77 hl (k := 0) rfl (by decide) (by decide) rfl (fun ls hl => ?_)
                                                    refine lv_goto (tgt := 42) hx hb dX12_paint_80 (by decide) ?_
                                                    refine lv_iload_n hx hb dX12_paint_42 rfl (lv_at hl 0 rfl) ?_
                                                    refine lv_bipush (v := 40) hx hb dX12_paint_43 (by decide) ?_
                                                    refine lv_icmp_ge (tgt := 83) hx hb dX12_paint_45 (by decide) (fun c592 => ?_) (fun c592 => ?_)
                                                    · exact absurd c592 (by decide)
                                                    · refine lv_aload_n hx hb dX12_paint_48 rfl (lv_at hl 1 rfl) ?_
                                                      refine va_get (D := D) (ci := 12) (v := .ref h11) (C := RX12) (T := TX12) (N := 24) hx hb hts hin12 hown hK hP 14 rfl rfl 18 (by decide) (hts (.fieldLink RX12 44 "MissedPointsModel" "items" "[I") (by decide +kernel)) (fun _ h9 => h9) rfl dX12_paint_49 ?_
                                                      refine lv_bipush (v := 40) hx hb dX12_paint_52 (by decide) ?_
                                                      refine lv_iload_n hx hb dX12_paint_54 rfl (lv_at hl 2 rfl) ?_
                                                      refine lv_imul hx hb dX12_paint_55 ?_
                                                      refine lz_top (y := 120) (by decide) ?_
                                                      refine lv_iload_n hx hb dX12_paint_56 rfl (lv_at hl 0 rfl) ?_
                                                      refine lv_iadd hx hb dX12_paint_57 ?_
                                                      refine lz_top (y := 128) (by decide) ?_
                                                      refine lv_iload_n hx hb dX12_paint_58 rfl (lv_at hl 0 rfl) ?_
                                                      refine lv_aload_n hx hb dX12_paint_59 rfl (lv_at hl 1 rfl) ?_
                                                      refine va_get (D := D) (ci := 12) (v := .int 0) (C := RX12) (T := TX12) (N := 24) hx hb hts hin12 hown hK hP 14 rfl rfl 0 (by decide) (hts (.fieldLink RX12 63 "MissedPointsModel" "many" "I") (by decide +kernel)) (fun _ h9 => h9) rfl dX12_paint_60 ?_
                                                      refine lv_icmp_ge (tgt := 75) hx hb dX12_paint_63 (by decide) (fun c593 => ?_) (fun c593 => ?_)
                                                      · refine lv_iconst (v := 0) hx hb dX12_paint_75 (by decide) ?_
                                                        refine lz_astc hx hb hK hP hD hS 9 0 rfl rfl (lz_vp (x := 128) (n := 160) (by decide) (by decide)) dX12_paint_76 (fun H locs hP hD hS => ?_)
                                                        refine lv_iinc (v := 9) (lv' := [(3, .int 9), (0, .ref h0), (1, .int 3), (2, .int x1)]) hx hb dX12_paint_77 hl (k := 0) rfl (by decide) (by decide) rfl (fun ls hl => ?_)
                                                        refine lv_goto (tgt := 42) hx hb dX12_paint_80 (by decide) ?_
                                                        refine lv_iload_n hx hb dX12_paint_42 rfl (lv_at hl 0 rfl) ?_
                                                        refine lv_bipush (v := 40) hx hb dX12_paint_43 (by decide) ?_
                                                        refine lv_icmp_ge (tgt := 83) hx hb dX12_paint_45 (by decide) (fun c594 => ?_) (fun c594 => ?_)
                                                        · exact absurd c594 (by decide)
                                                        · refine lv_aload_n hx hb dX12_paint_48 rfl (lv_at hl 1 rfl) ?_
                                                          refine va_get (D := D) (ci := 12) (v := .ref h11) (C := RX12) (T := TX12) (N := 24) hx hb hts hin12 hown hK hP 14 rfl rfl 18 (by decide) (hts (.fieldLink RX12 44 "MissedPointsModel" "items" "[I") (by decide +kernel)) (fun _ h9 => h9) rfl dX12_paint_49 ?_
                                                          refine lv_bipush (v := 40) hx hb dX12_paint_52 (by decide) ?_
                                                          refine lv_iload_n hx hb dX12_paint_54 rfl (lv_at hl 2 rfl) ?_
                                                          refine lv_imul hx hb dX12_paint_55 ?_
                                                          refine lz_top (y := 120) (by decide) ?_
                                                          refine lv_iload_n hx hb dX12_paint_56 rfl (lv_at hl 0 rfl) ?_
                                                          refine lv_iadd hx hb dX12_paint_57 ?_
                                                          refine lz_top (y := 129) (by decide) ?_
                                                          refine lv_iload_n hx hb dX12_paint_58 rfl (lv_at hl 0 rfl) ?_
                                                          refine lv_aload_n hx hb dX12_paint_59 rfl (lv_at hl 1 rfl) ?_
                                                          refine va_get (D := D) (ci := 12) (v := .int 0) (C := RX12) (T := TX12) (N := 24) hx hb hts hin12 hown hK hP 14 rfl rfl 0 (by decide) (hts (.fieldLink RX12 63 "MissedPointsModel" "many" "I") (by decide +kernel)) (fun _ h9 => h9) rfl dX12_paint_60 ?_
                                                          refine lv_icmp_ge (tgt := 75) hx hb dX12_paint_63 (by decide) (fun c595 => ?_) (fun c595 => ?_)
                                                          · refine lv_iconst (v := 0) hx hb dX12_paint_75 (by decide) ?_
                                                            refine lz_astc hx hb hK hP hD hS 9 0 rfl rfl (lz_vp (x := 129) (n := 160) (by decide) (by decide)) dX12_paint_76 (fun H locs hP hD hS => ?_)
                                                            refine lv_iinc (v := 10) (lv' := [(3, .int 10), (0, .ref h0), (1, .int 3), (2, .int x1)]) hx hb dX12_paint_77 hl (k := 0) rfl (by decide) (by decide) rfl (fun ls hl => ?_)
                                                            refine lv_goto (tgt := 42) hx hb dX12_paint_80 (by decide) ?_
                                                            refine lv_iload_n hx hb dX12_paint_42 rfl (lv_at hl 0 rfl) ?_
                                                            refine lv_bipush (v := 40) hx hb dX12_paint_43 (by decide) ?_
                                                            refine lv_icmp_ge (tgt := 83) hx hb dX12_paint_45 (by decide) (fun c596 => ?_) (fun c596 => ?_)
                                                            · exact absurd c596 (by decide)
                                                            · refine lv_aload_n hx hb dX12_paint_48 rfl (lv_at hl 1 rfl) ?_
                                                              refine va_get (D := D) (ci := 12) (v := .ref h11) (C := RX12) (T := TX12) (N := 24) hx hb hts hin12 hown hK hP 14 rfl rfl 18 (by decide) (hts (.fieldLink RX12 44 "MissedPointsModel" "items" "[I") (by decide +kernel)) (fun _ h9 => h9) rfl dX12_paint_49 ?_
                                                              refine lv_bipush (v := 40) hx hb dX12_paint_52 (by decide) ?_
                                                              refine lv_iload_n hx hb dX12_paint_54 rfl (lv_at hl 2 rfl) ?_
                                                              refine lv_imul hx hb dX12_paint_55 ?_
                                                              refine lz_top (y := 120) (by decide) ?_
                                                              refine lv_iload_n hx hb dX12_paint_56 rfl (lv_at hl 0 rfl) ?_
                                                              refine lv_iadd hx hb dX12_paint_57 ?_
                                                              refine lz_top (y := 130) (by decide) ?_
                                                              refine lv_iload_n hx hb dX12_paint_58 rfl (lv_at hl 0 rfl) ?_
                                                              refine lv_aload_n hx hb dX12_paint_59 rfl (lv_at hl 1 rfl) ?_
                                                              refine va_get (D := D) (ci := 12) (v := .int 0) (C := RX12) (T := TX12) (N := 24) hx hb hts hin12 hown hK hP 14 rfl rfl 0 (by decide) (hts (.fieldLink RX12 63 "MissedPointsModel" "many" "I") (by decide +kernel)) (fun _ h9 => h9) rfl dX12_paint_60 ?_
                                                              refine lv_icmp_ge (tgt := 75) hx hb dX12_paint_63 (by decide) (fun c597 => ?_) (fun c597 => ?_)
                                                              · refine lv_iconst (v := 0) hx hb dX12_paint_75 (by decide) ?_
                                                                refine lz_astc hx hb hK hP hD hS 9 0 rfl rfl (lz_vp (x := 130) (n := 160) (by decide) (by decide)) dX12_paint_76 (fun H locs hP hD hS => ?_)
                                                                refine lv_iinc (v := 11) (lv' := [(3, .int 11), (0, .ref h0), (1, .int 3), (2, .int x1)]) hx hb dX12_paint_77 hl (k := 0) rfl (by decide) (by decide) rfl (fun ls hl => ?_)
                                                                refine lv_goto (tgt := 42) hx hb dX12_paint_80 (by decide) ?_
                                                                refine lv_iload_n hx hb dX12_paint_42 rfl (lv_at hl 0 rfl) ?_
                                                                refine lv_bipush (v := 40) hx hb dX12_paint_43 (by decide) ?_
                                                                refine lv_icmp_ge (tgt := 83) hx hb dX12_paint_45 (by decide) (fun c598 => ?_) (fun c598 => ?_)
                                                                · exact absurd c598 (by decide)
                                                                · refine lv_aload_n hx hb dX12_paint_48 rfl (lv_at hl 1 rfl) ?_
                                                                  refine va_get (D := D) (ci := 12) (v := .ref h11) (C := RX12) (T := TX12) (N := 24) hx hb hts hin12 hown hK hP 14 rfl rfl 18 (by decide) (hts (.fieldLink RX12 44 "MissedPointsModel" "items" "[I") (by decide +kernel)) (fun _ h9 => h9) rfl dX12_paint_49 ?_
                                                                  refine lv_bipush (v := 40) hx hb dX12_paint_52 (by decide) ?_
                                                                  refine lv_iload_n hx hb dX12_paint_54 rfl (lv_at hl 2 rfl) ?_
                                                                  refine lv_imul hx hb dX12_paint_55 ?_
                                                                  refine lz_top (y := 120) (by decide) ?_
                                                                  refine lv_iload_n hx hb dX12_paint_56 rfl (lv_at hl 0 rfl) ?_
                                                                  refine lv_iadd hx hb dX12_paint_57 ?_
                                                                  refine lz_top (y := 131) (by decide) ?_
                                                                  refine lv_iload_n hx hb dX12_paint_58 rfl (lv_at hl 0 rfl) ?_
                                                                  refine lv_aload_n hx hb dX12_paint_59 rfl (lv_at hl 1 rfl) ?_
                                                                  refine va_get (D := D) (ci := 12) (v := .int 0) (C := RX12) (T := TX12) (N := 24) hx hb hts hin12 hown hK hP 14 rfl rfl 0 (by decide) (hts (.fieldLink RX12 63 "MissedPointsModel" "many" "I") (by decide +kernel)) (fun _ h9 => h9) rfl dX12_paint_60 ?_
                                                                  refine lv_icmp_ge (tgt := 75) hx hb dX12_paint_63 (by decide) (fun c599 => ?_) (fun c599 => ?_)
                                                                  · refine lv_iconst (v := 0) hx hb dX12_paint_75 (by decide) ?_
                                                                    refine lz_astc hx hb hK hP hD hS 9 0 rfl rfl (lz_vp (x := 131) (n := 160) (by decide) (by decide)) dX12_paint_76 (fun H locs hP hD hS => ?_)
                                                                    refine lv_iinc (v := 12) (lv' := [(3, .int 12), (0, .ref h0), (1, .int 3), (2, .int x1)]) hx hb dX12_paint_77 hl (k := 0) rfl (by decide) (by decide) rfl (fun ls hl => ?_)
                                                                    refine lv_goto (tgt := 42) hx hb dX12_paint_80 (by decide) ?_
                                                                    refine lv_iload_n hx hb dX12_paint_42 rfl (lv_at hl 0 rfl) ?_
                                                                    refine lv_bipush (v := 40) hx hb dX12_paint_43 (by decide) ?_
                                                                    refine lv_icmp_ge (tgt := 83) hx hb dX12_paint_45 (by decide) (fun c600 => ?_) (fun c600 => ?_)
                                                                    · exact absurd c600 (by decide)
                                                                    · refine lv_aload_n hx hb dX12_paint_48 rfl (lv_at hl 1 rfl) ?_
                                                                      refine va_get (D := D) (ci := 12) (v := .ref h11) (C := RX12) (T := TX12) (N := 24) hx hb hts hin12 hown hK hP 14 rfl rfl 18 (by decide) (hts (.fieldLink RX12 44 "MissedPointsModel" "items" "[I") (by decide +kernel)) (fun _ h9 => h9) rfl dX12_paint_49 ?_
                                                                      refine lv_bipush (v := 40) hx hb dX12_paint_52 (by decide) ?_
                                                                      refine lv_iload_n hx hb dX12_paint_54 rfl (lv_at hl 2 rfl) ?_
                                                                      refine lv_imul hx hb dX12_paint_55 ?_
                                                                      refine lz_top (y := 120) (by decide) ?_
                                                                      refine lv_iload_n hx hb dX12_paint_56 rfl (lv_at hl 0 rfl) ?_
                                                                      refine lv_iadd hx hb dX12_paint_57 ?_
                                                                      refine lz_top (y := 132) (by decide) ?_
                                                                      refine lv_iload_n hx hb dX12_paint_58 rfl (lv_at hl 0 rfl) ?_
                                                                      refine lv_aload_n hx hb dX12_paint_59 rfl (lv_at hl 1 rfl) ?_
                                                                      refine va_get (D := D) (ci := 12) (v := .int 0) (C := RX12) (T := TX12) (N := 24) hx hb hts hin12 hown hK hP 14 rfl rfl 0 (by decide) (hts (.fieldLink RX12 63 "MissedPointsModel" "many" "I") (by decide +kernel)) (fun _ h9 => h9) rfl dX12_paint_60 ?_
                                                                      refine lv_icmp_ge (tgt := 75) hx hb dX12_paint_63 (by decide) (fun c601 => ?_) (fun c601 => ?_)
                                                                      · refine lv_iconst (v := 0) hx hb dX12_paint_75 (by decide) ?_
                                                                        refine lz_astc hx hb hK hP hD hS 9 0 rfl rfl (lz_vp (x := 132) (n := 160) (by decide) (by decide)) dX12_paint_76 (fun H locs hP hD hS => ?_)
                                                                        refine lv_iinc (v := 13) (lv' := [(3, .int 13), (0, .ref h0), (1, .int 3), (2, .int x1)]) hx hb dX12_paint_77 hl (k := 0) rfl (by decide) (by decide) rfl (fun ls hl => ?_)
                                                                        refine lv_goto (tgt := 42) hx hb dX12_paint_80 (by decide) ?_
                                                                        refine lv_iload_n hx hb dX12_paint_42 rfl (lv_at hl 0 rfl) ?_
                                                                        refine lv_bipush (v := 40) hx hb dX12_paint_43 (by decide) ?_
                                                                        refine lv_icmp_ge (tgt := 83) hx hb dX12_paint_45 (by decide) (fun c602 => ?_) (fun c602 => ?_)
                                                                        · exact absurd c602 (by decide)
                                                                        · refine lv_aload_n hx hb dX12_paint_48 rfl (lv_at hl 1 rfl) ?_
                                                                          refine va_get (D := D) (ci := 12) (v := .ref h11) (C := RX12) (T := TX12) (N := 24) hx hb hts hin12 hown hK hP 14 rfl rfl 18 (by decide) (hts (.fieldLink RX12 44 "MissedPointsModel" "items" "[I") (by decide +kernel)) (fun _ h9 => h9) rfl dX12_paint_49 ?_
                                                                          refine lv_bipush (v := 40) hx hb dX12_paint_52 (by decide) ?_
                                                                          refine lv_iload_n hx hb dX12_paint_54 rfl (lv_at hl 2 rfl) ?_
                                                                          refine lv_imul hx hb dX12_paint_55 ?_
                                                                          refine lz_top (y := 120) (by decide) ?_
                                                                          refine lv_iload_n hx hb dX12_paint_56 rfl (lv_at hl 0 rfl) ?_
                                                                          refine lv_iadd hx hb dX12_paint_57 ?_
                                                                          refine lz_top (y := 133) (by decide) ?_
                                                                          refine lv_iload_n hx hb dX12_paint_58 rfl (lv_at hl 0 rfl) ?_
                                                                          refine lv_aload_n hx hb dX12_paint_59 rfl (lv_at hl 1 rfl) ?_
                                                                          refine va_get (D := D) (ci := 12) (v := .int 0) (C := RX12) (T := TX12) (N := 24) hx hb hts hin12 hown hK hP 14 rfl rfl 0 (by decide) (hts (.fieldLink RX12 63 "MissedPointsModel" "many" "I") (by decide +kernel)) (fun _ h9 => h9) rfl dX12_paint_60 ?_
                                                                          refine lv_icmp_ge (tgt := 75) hx hb dX12_paint_63 (by decide) (fun c603 => ?_) (fun c603 => ?_)
                                                                          · refine lv_iconst (v := 0) hx hb dX12_paint_75 (by decide) ?_
                                                                            refine lz_astc hx hb hK hP hD hS 9 0 rfl rfl (lz_vp (x := 133) (n := 160) (by decide) (by decide)) dX12_paint_76 (fun H locs hP hD hS => ?_)
                                                                            refine lv_iinc (v := 14) (lv' := [(3, .int 14), (0, .ref h0), (1, .int 3), (2, .int x1)]) hx hb dX12_paint_77 hl (k := 0) rfl (by decide) (by decide) rfl (fun ls hl => ?_)
                                                                            refine lv_goto (tgt := 42) hx hb dX12_paint_80 (by decide) ?_
                                                                            refine lv_iload_n hx hb dX12_paint_42 rfl (lv_at hl 0 rfl) ?_
                                                                            refine lv_bipush (v := 40) hx hb dX12_paint_43 (by decide) ?_
                                                                            refine lv_icmp_ge (tgt := 83) hx hb dX12_paint_45 (by decide) (fun c604 => ?_) (fun c604 => ?_)
                                                                            · exact absurd c604 (by decide)
                                                                            · refine lv_aload_n hx hb dX12_paint_48 rfl (lv_at hl 1 rfl) ?_
                                                                              refine va_get (D := D) (ci := 12) (v := .ref h11) (C := RX12) (T := TX12) (N := 24) hx hb hts hin12 hown hK hP 14 rfl rfl 18 (by decide) (hts (.fieldLink RX12 44 "MissedPointsModel" "items" "[I") (by decide +kernel)) (fun _ h9 => h9) rfl dX12_paint_49 ?_
                                                                              refine lv_bipush (v := 40) hx hb dX12_paint_52 (by decide) ?_
                                                                              refine lv_iload_n hx hb dX12_paint_54 rfl (lv_at hl 2 rfl) ?_
                                                                              refine lv_imul hx hb dX12_paint_55 ?_
                                                                              refine lz_top (y := 120) (by decide) ?_
                                                                              refine lv_iload_n hx hb dX12_paint_56 rfl (lv_at hl 0 rfl) ?_
                                                                              refine lv_iadd hx hb dX12_paint_57 ?_
                                                                              refine lz_top (y := 134) (by decide) ?_
                                                                              refine lv_iload_n hx hb dX12_paint_58 rfl (lv_at hl 0 rfl) ?_
                                                                              refine lv_aload_n hx hb dX12_paint_59 rfl (lv_at hl 1 rfl) ?_
                                                                              refine va_get (D := D) (ci := 12) (v := .int 0) (C := RX12) (T := TX12) (N := 24) hx hb hts hin12 hown hK hP 14 rfl rfl 0 (by decide) (hts (.fieldLink RX12 63 "MissedPointsModel" "many" "I") (by decide +kernel)) (fun _ h9 => h9) rfl dX12_paint_60 ?_
                                                                              refine lv_icmp_ge (tgt := 75) hx hb dX12_paint_63 (by decide) (fun c605 => ?_) (fun c605 => ?_)
                                                                              · refine lv_iconst (v := 0) hx hb dX12_paint_75 (by decide) ?_
                                                                                refine lz_astc hx hb hK hP hD hS 9 0 rfl rfl (lz_vp (x := 134) (n := 160) (by decide) (by decide)) dX12_paint_76 (fun H locs hP hD hS => ?_)
                                                                                refine lv_iinc (v := 15) (lv' := [(3, .int 15), (0, .ref h0), (1, .int 3), (2, .int x1)]) hx hb dX12_paint_77 hl (k := 0) rfl (by decide) (by decide) rfl (fun ls hl => ?_)
                                                                                refine lv_goto (tgt := 42) hx hb dX12_paint_80 (by decide) ?_
                                                                                refine lv_iload_n hx hb dX12_paint_42 rfl (lv_at hl 0 rfl) ?_
                                                                                refine lv_bipush (v := 40) hx hb dX12_paint_43 (by decide) ?_
                                                                                refine lv_icmp_ge (tgt := 83) hx hb dX12_paint_45 (by decide) (fun c606 => ?_) (fun c606 => ?_)
                                                                                · exact absurd c606 (by decide)
                                                                                · refine lv_aload_n hx hb dX12_paint_48 rfl (lv_at hl 1 rfl) ?_
                                                                                  refine va_get (D := D) (ci := 12) (v := .ref h11) (C := RX12) (T := TX12) (N := 24) hx hb hts hin12 hown hK hP 14 rfl rfl 18 (by decide) (hts (.fieldLink RX12 44 "MissedPointsModel" "items" "[I") (by decide +kernel)) (fun _ h9 => h9) rfl dX12_paint_49 ?_
                                                                                  refine lv_bipush (v := 40) hx hb dX12_paint_52 (by decide) ?_
                                                                                  refine lv_iload_n hx hb dX12_paint_54 rfl (lv_at hl 2 rfl) ?_
                                                                                  refine lv_imul hx hb dX12_paint_55 ?_
                                                                                  refine lz_top (y := 120) (by decide) ?_
                                                                                  refine lv_iload_n hx hb dX12_paint_56 rfl (lv_at hl 0 rfl) ?_
                                                                                  refine lv_iadd hx hb dX12_paint_57 ?_
                                                                                  refine lz_top (y := 135) (by decide) ?_
                                                                                  refine lv_iload_n hx hb dX12_paint_58 rfl (lv_at hl 0 rfl) ?_
                                                                                  refine lv_aload_n hx hb dX12_paint_59 rfl (lv_at hl 1 rfl) ?_
                                                                                  refine va_get (D := D) (ci := 12) (v := .int 0) (C := RX12) (T := TX12) (N := 24) hx hb hts hin12 hown hK hP 14 rfl rfl 0 (by decide) (hts (.fieldLink RX12 63 "MissedPointsModel" "many" "I") (by decide +kernel)) (fun _ h9 => h9) rfl dX12_paint_60 ?_
                                                                                  refine lv_icmp_ge (tgt := 75) hx hb dX12_paint_63 (by decide) (fun c607 => ?_) (fun c607 => ?_)
                                                                                  · refine lv_iconst (v := 0) hx hb dX12_paint_75 (by decide) ?_
                                                                                    refine lz_astc hx hb hK hP hD hS 9 0 rfl rfl (lz_vp (x := 135) (n := 160) (by decide) (by decide)) dX12_paint_76 (fun H locs hP hD hS => ?_)
                                                                                    refine lv_iinc (v := 16) (lv' := [(3, .int 16), (0, .ref h0), (1, .int 3), (2, .int x1)]) hx hb dX12_paint_77 hl (k := 0) rfl (by decide) (by decide) rfl (fun ls hl => ?_)
                                                                                    refine lv_goto (tgt := 42) hx hb dX12_paint_80 (by decide) ?_
                                                                                    refine lv_iload_n hx hb dX12_paint_42 rfl (lv_at hl 0 rfl) ?_
                                                                                    refine lv_bipush (v := 40) hx hb dX12_paint_43 (by decide) ?_
                                                                                    refine lv_icmp_ge (tgt := 83) hx hb dX12_paint_45 (by decide) (fun c608 => ?_) (fun c608 => ?_)
                                                                                    · exact absurd c608 (by decide)
                                                                                    · refine lv_aload_n hx hb dX12_paint_48 rfl (lv_at hl 1 rfl) ?_
                                                                                      refine va_get (D := D) (ci := 12) (v := .ref h11) (C := RX12) (T := TX12) (N := 24) hx hb hts hin12 hown hK hP 14 rfl rfl 18 (by decide) (hts (.fieldLink RX12 44 "MissedPointsModel" "items" "[I") (by decide +kernel)) (fun _ h9 => h9) rfl dX12_paint_49 ?_
                                                                                      refine lv_bipush (v := 40) hx hb dX12_paint_52 (by decide) ?_
                                                                                      refine lv_iload_n hx hb dX12_paint_54 rfl (lv_at hl 2 rfl) ?_
                                                                                      refine lv_imul hx hb dX12_paint_55 ?_
                                                                                      refine lz_top (y := 120) (by decide) ?_
                                                                                      refine lv_iload_n hx hb dX12_paint_56 rfl (lv_at hl 0 rfl) ?_
                                                                                      refine lv_iadd hx hb dX12_paint_57 ?_
                                                                                      refine lz_top (y := 136) (by decide) ?_
                                                                                      refine lv_iload_n hx hb dX12_paint_58 rfl (lv_at hl 0 rfl) ?_
                                                                                      refine lv_aload_n hx hb dX12_paint_59 rfl (lv_at hl 1 rfl) ?_
                                                                                      refine va_get (D := D) (ci := 12) (v := .int 0) (C := RX12) (T := TX12) (N := 24) hx hb hts hin12 hown hK hP 14 rfl rfl 0 (by decide) (hts (.fieldLink RX12 63 "MissedPointsModel" "many" "I") (by decide +kernel)) (fun _ h9 => h9) rfl dX12_paint_60 ?_
                                                                                      refine lv_icmp_ge (tgt := 75) hx hb dX12_paint_63 (by decide) (fun c609 => ?_) (fun c609 => ?_)
                                                                                      · refine lv_iconst (v := 0) hx hb dX12_paint_75 (by decide) ?_
                                                                                        refine lz_astc hx hb hK hP hD hS 9 0 rfl rfl (lz_vp (x := 136) (n := 160) (by decide) (by decide)) dX12_paint_76 (fun H locs hP hD hS => ?_)
                                                                                        refine lv_iinc (v := 17) (lv' := [(3, .int 17), (0, .ref h0), (1, .int 3), (2, .int x1)]) hx hb dX12_paint_77 hl (k := 0) rfl (by decide) (by decide) rfl (fun ls hl => ?_)
                                                                                        refine lv_goto (tgt := 42) hx hb dX12_paint_80 (by decide) ?_
                                                                                        refine lv_iload_n hx hb dX12_paint_42 rfl (lv_at hl 0 rfl) ?_
                                                                                        refine lv_bipush (v := 40) hx hb dX12_paint_43 (by decide) ?_
                                                                                        refine lv_icmp_ge (tgt := 83) hx hb dX12_paint_45 (by decide) (fun c610 => ?_) (fun c610 => ?_)
                                                                                        · exact absurd c610 (by decide)
                                                                                        · refine lv_aload_n hx hb dX12_paint_48 rfl (lv_at hl 1 rfl) ?_
                                                                                          refine va_get (D := D) (ci := 12) (v := .ref h11) (C := RX12) (T := TX12) (N := 24) hx hb hts hin12 hown hK hP 14 rfl rfl 18 (by decide) (hts (.fieldLink RX12 44 "MissedPointsModel" "items" "[I") (by decide +kernel)) (fun _ h9 => h9) rfl dX12_paint_49 ?_
                                                                                          refine lv_bipush (v := 40) hx hb dX12_paint_52 (by decide) ?_
                                                                                          refine lv_iload_n hx hb dX12_paint_54 rfl (lv_at hl 2 rfl) ?_
                                                                                          refine lv_imul hx hb dX12_paint_55 ?_
                                                                                          refine lz_top (y := 120) (by decide) ?_
                                                                                          refine lv_iload_n hx hb dX12_paint_56 rfl (lv_at hl 0 rfl) ?_
                                                                                          refine lv_iadd hx hb dX12_paint_57 ?_
                                                                                          refine lz_top (y := 137) (by decide) ?_
                                                                                          refine lv_iload_n hx hb dX12_paint_58 rfl (lv_at hl 0 rfl) ?_
                                                                                          refine lv_aload_n hx hb dX12_paint_59 rfl (lv_at hl 1 rfl) ?_
                                                                                          refine va_get (D := D) (ci := 12) (v := .int 0) (C := RX12) (T := TX12) (N := 24) hx hb hts hin12 hown hK hP 14 rfl rfl 0 (by decide) (hts (.fieldLink RX12 63 "MissedPointsModel" "many" "I") (by decide +kernel)) (fun _ h9 => h9) rfl dX12_paint_60 ?_
                                                                                          refine lv_icmp_ge (tgt := 75) hx hb dX12_paint_63 (by decide) (fun c611 => ?_) (fun c611 => ?_)
                                                                                          · refine lv_iconst (v := 0) hx hb dX12_paint_75 (by decide) ?_
                                                                                            refine lz_astc hx hb hK hP hD hS 9 0 rfl rfl (lz_vp (x := 137) (n := 160) (by decide) (by decide)) dX12_paint_76 (fun H locs hP hD hS => ?_)
                                                                                            refine lv_iinc (v := 18) (lv' := [(3, .int 18), (0, .ref h0), (1, .int 3), (2, .int x1)]) hx hb dX12_paint_77 hl (k := 0) rfl (by decide) (by decide) rfl (fun ls hl => ?_)
                                                                                            refine lv_goto (tgt := 42) hx hb dX12_paint_80 (by decide) ?_
                                                                                            refine lv_iload_n hx hb dX12_paint_42 rfl (lv_at hl 0 rfl) ?_
                                                                                            refine lv_bipush (v := 40) hx hb dX12_paint_43 (by decide) ?_
                                                                                            refine lv_icmp_ge (tgt := 83) hx hb dX12_paint_45 (by decide) (fun c612 => ?_) (fun c612 => ?_)
                                                                                            · exact absurd c612 (by decide)
                                                                                            · refine lv_aload_n hx hb dX12_paint_48 rfl (lv_at hl 1 rfl) ?_
                                                                                              refine va_get (D := D) (ci := 12) (v := .ref h11) (C := RX12) (T := TX12) (N := 24) hx hb hts hin12 hown hK hP 14 rfl rfl 18 (by decide) (hts (.fieldLink RX12 44 "MissedPointsModel" "items" "[I") (by decide +kernel)) (fun _ h9 => h9) rfl dX12_paint_49 ?_
                                                                                              refine lv_bipush (v := 40) hx hb dX12_paint_52 (by decide) ?_
                                                                                              refine lv_iload_n hx hb dX12_paint_54 rfl (lv_at hl 2 rfl) ?_
                                                                                              refine lv_imul hx hb dX12_paint_55 ?_
                                                                                              refine lz_top (y := 120) (by decide) ?_
                                                                                              refine lv_iload_n hx hb dX12_paint_56 rfl (lv_at hl 0 rfl) ?_
                                                                                              refine lv_iadd hx hb dX12_paint_57 ?_
                                                                                              refine lz_top (y := 138) (by decide) ?_
                                                                                              refine lv_iload_n hx hb dX12_paint_58 rfl (lv_at hl 0 rfl) ?_
                                                                                              refine lv_aload_n hx hb dX12_paint_59 rfl (lv_at hl 1 rfl) ?_
                                                                                              refine va_get (D := D) (ci := 12) (v := .int 0) (C := RX12) (T := TX12) (N := 24) hx hb hts hin12 hown hK hP 14 rfl rfl 0 (by decide) (hts (.fieldLink RX12 63 "MissedPointsModel" "many" "I") (by decide +kernel)) (fun _ h9 => h9) rfl dX12_paint_60 ?_
                                                                                              refine lv_icmp_ge (tgt := 75) hx hb dX12_paint_63 (by decide) (fun c613 => ?_) (fun c613 => ?_)
                                                                                              · refine lv_iconst (v := 0) hx hb dX12_paint_75 (by decide) ?_
                                                                                                refine lz_astc hx hb hK hP hD hS 9 0 rfl rfl (lz_vp (x := 138) (n := 160) (by decide) (by decide)) dX12_paint_76 (fun H locs hP hD hS => ?_)
                                                                                                refine lv_iinc (v := 19) (lv' := [(3, .int 19), (0, .ref h0), (1, .int 3), (2, .int x1)]) hx hb dX12_paint_77 hl (k := 0) rfl (by decide) (by decide) rfl (fun ls hl => ?_)
                                                                                                refine lv_goto (tgt := 42) hx hb dX12_paint_80 (by decide) ?_
                                                                                                refine lv_iload_n hx hb dX12_paint_42 rfl (lv_at hl 0 rfl) ?_
                                                                                                refine lv_bipush (v := 40) hx hb dX12_paint_43 (by decide) ?_
                                                                                                refine lv_icmp_ge (tgt := 83) hx hb dX12_paint_45 (by decide) (fun c614 => ?_) (fun c614 => ?_)
                                                                                                · exact absurd c614 (by decide)
                                                                                                · refine lv_aload_n hx hb dX12_paint_48 rfl (lv_at hl 1 rfl) ?_
                                                                                                  refine va_get (D := D) (ci := 12) (v := .ref h11) (C := RX12) (T := TX12) (N := 24) hx hb hts hin12 hown hK hP 14 rfl rfl 18 (by decide) (hts (.fieldLink RX12 44 "MissedPointsModel" "items" "[I") (by decide +kernel)) (fun _ h9 => h9) rfl dX12_paint_49 ?_
                                                                                                  refine lv_bipush (v := 40) hx hb dX12_paint_52 (by decide) ?_
                                                                                                  refine lv_iload_n hx hb dX12_paint_54 rfl (lv_at hl 2 rfl) ?_
                                                                                                  refine lv_imul hx hb dX12_paint_55 ?_
                                                                                                  refine lz_top (y := 120) (by decide) ?_
                                                                                                  refine lv_iload_n hx hb dX12_paint_56 rfl (lv_at hl 0 rfl) ?_
                                                                                                  refine lv_iadd hx hb dX12_paint_57 ?_
                                                                                                  refine lz_top (y := 139) (by decide) ?_
                                                                                                  refine lv_iload_n hx hb dX12_paint_58 rfl (lv_at hl 0 rfl) ?_
                                                                                                  refine lv_aload_n hx hb dX12_paint_59 rfl (lv_at hl 1 rfl) ?_
                                                                                                  refine va_get (D := D) (ci := 12) (v := .int 0) (C := RX12) (T := TX12) (N := 24) hx hb hts hin12 hown hK hP 14 rfl rfl 0 (by decide) (hts (.fieldLink RX12 63 "MissedPointsModel" "many" "I") (by decide +kernel)) (fun _ h9 => h9) rfl dX12_paint_60 ?_
                                                                                                  refine lv_icmp_ge (tgt := 75) hx hb dX12_paint_63 (by decide) (fun c615 => ?_) (fun c615 => ?_)
                                                                                                  · refine lv_iconst (v := 0) hx hb dX12_paint_75 (by decide) ?_
                                                                                                    refine lz_astc hx hb hK hP hD hS 9 0 rfl rfl (lz_vp (x := 139) (n := 160) (by decide) (by decide)) dX12_paint_76 (fun H locs hP hD hS => ?_)
                                                                                                    refine lv_iinc (v := 20) (lv' := [(3, .int 20), (0, .ref h0), (1, .int 3), (2, .int x1)]) hx hb dX12_paint_77 hl (k := 0) rfl (by decide) (by decide) rfl (fun ls hl => ?_)
                                                                                                    refine lv_goto (tgt := 42) hx hb dX12_paint_80 (by decide) ?_
                                                                                                    refine lv_iload_n hx hb dX12_paint_42 rfl (lv_at hl 0 rfl) ?_
                                                                                                    refine lv_bipush (v := 40) hx hb dX12_paint_43 (by decide) ?_
                                                                                                    refine lv_icmp_ge (tgt := 83) hx hb dX12_paint_45 (by decide) (fun c616 => ?_) (fun c616 => ?_)
                                                                                                    · exact absurd c616 (by decide)
                                                                                                    · refine lv_aload_n hx hb dX12_paint_48 rfl (lv_at hl 1 rfl) ?_
                                                                                                      refine va_get (D := D) (ci := 12) (v := .ref h11) (C := RX12) (T := TX12) (N := 24) hx hb hts hin12 hown hK hP 14 rfl rfl 18 (by decide) (hts (.fieldLink RX12 44 "MissedPointsModel" "items" "[I") (by decide +kernel)) (fun _ h9 => h9) rfl dX12_paint_49 ?_
                                                                                                      refine lv_bipush (v := 40) hx hb dX12_paint_52 (by decide) ?_
                                                                                                      refine lv_iload_n hx hb dX12_paint_54 rfl (lv_at hl 2 rfl) ?_
                                                                                                      refine lv_imul hx hb dX12_paint_55 ?_
                                                                                                      refine lz_top (y := 120) (by decide) ?_
                                                                                                      refine lv_iload_n hx hb dX12_paint_56 rfl (lv_at hl 0 rfl) ?_
                                                                                                      refine lv_iadd hx hb dX12_paint_57 ?_
                                                                                                      refine lz_top (y := 140) (by decide) ?_
                                                                                                      refine lv_iload_n hx hb dX12_paint_58 rfl (lv_at hl 0 rfl) ?_
                                                                                                      refine lv_aload_n hx hb dX12_paint_59 rfl (lv_at hl 1 rfl) ?_
                                                                                                      refine va_get (D := D) (ci := 12) (v := .int 0) (C := RX12) (T := TX12) (N := 24) hx hb hts hin12 hown hK hP 14 rfl rfl 0 (by decide) (hts (.fieldLink RX12 63 "MissedPointsModel" "many" "I") (by decide +kernel)) (fun _ h9 => h9) rfl dX12_paint_60 ?_
                                                                                                      refine lv_icmp_ge (tgt := 75) hx hb dX12_paint_63 (by decide) (fun c617 => ?_) (fun c617 => ?_)
                                                                                                      · refine lv_iconst (v := 0) hx hb dX12_paint_75 (by decide) ?_
                                                                                                        refine lz_astc hx hb hK hP hD hS 9 0 rfl rfl (lz_vp (x := 140) (n := 160) (by decide) (by decide)) dX12_paint_76 (fun H locs hP hD hS => ?_)
                                                                                                        refine lv_iinc (v := 21) (lv' := [(3, .int 21), (0, .ref h0), (1, .int 3), (2, .int x1)]) hx hb dX12_paint_77 hl (k := 0) rfl (by decide) (by decide) rfl (fun ls hl => ?_)
                                                                                                        refine lv_goto (tgt := 42) hx hb dX12_paint_80 (by decide) ?_
                                                                                                        refine lv_iload_n hx hb dX12_paint_42 rfl (lv_at hl 0 rfl) ?_
                                                                                                        refine lv_bipush (v := 40) hx hb dX12_paint_43 (by decide) ?_
                                                                                                        refine lv_icmp_ge (tgt := 83) hx hb dX12_paint_45 (by decide) (fun c618 => ?_) (fun c618 => ?_)
                                                                                                        · exact absurd c618 (by decide)
                                                                                                        · refine lv_aload_n hx hb dX12_paint_48 rfl (lv_at hl 1 rfl) ?_
                                                                                                          refine va_get (D := D) (ci := 12) (v := .ref h11) (C := RX12) (T := TX12) (N := 24) hx hb hts hin12 hown hK hP 14 rfl rfl 18 (by decide) (hts (.fieldLink RX12 44 "MissedPointsModel" "items" "[I") (by decide +kernel)) (fun _ h9 => h9) rfl dX12_paint_49 ?_
                                                                                                          refine lv_bipush (v := 40) hx hb dX12_paint_52 (by decide) ?_
                                                                                                          refine lv_iload_n hx hb dX12_paint_54 rfl (lv_at hl 2 rfl) ?_
                                                                                                          refine lv_imul hx hb dX12_paint_55 ?_
                                                                                                          refine lz_top (y := 120) (by decide) ?_
                                                                                                          refine lv_iload_n hx hb dX12_paint_56 rfl (lv_at hl 0 rfl) ?_
                                                                                                          refine lv_iadd hx hb dX12_paint_57 ?_
                                                                                                          refine lz_top (y := 141) (by decide) ?_
                                                                                                          refine lv_iload_n hx hb dX12_paint_58 rfl (lv_at hl 0 rfl) ?_
                                                                                                          refine lv_aload_n hx hb dX12_paint_59 rfl (lv_at hl 1 rfl) ?_
                                                                                                          refine va_get (D := D) (ci := 12) (v := .int 0) (C := RX12) (T := TX12) (N := 24) hx hb hts hin12 hown hK hP 14 rfl rfl 0 (by decide) (hts (.fieldLink RX12 63 "MissedPointsModel" "many" "I") (by decide +kernel)) (fun _ h9 => h9) rfl dX12_paint_60 ?_
                                                                                                          refine lv_icmp_ge (tgt := 75) hx hb dX12_paint_63 (by decide) (fun c619 => ?_) (fun c619 => ?_)
                                                                                                          · refine lv_iconst (v := 0) hx hb dX12_paint_75 (by decide) ?_
                                                                                                            refine lz_astc hx hb hK hP hD hS 9 0 rfl rfl (lz_vp (x := 141) (n := 160) (by decide) (by decide)) dX12_paint_76 (fun H locs hP hD hS => ?_)
                                                                                                            refine lv_iinc (v := 22) (lv' := [(3, .int 22), (0, .ref h0), (1, .int 3), (2, .int x1)]) hx hb dX12_paint_77 hl (k := 0) rfl (by decide) (by decide) rfl (fun ls hl => ?_)
                                                                                                            refine lv_goto (tgt := 42) hx hb dX12_paint_80 (by decide) ?_
                                                                                                            refine lv_iload_n hx hb dX12_paint_42 rfl (lv_at hl 0 rfl) ?_
                                                                                                            refine lv_bipush (v := 40) hx hb dX12_paint_43 (by decide) ?_
                                                                                                            refine lv_icmp_ge (tgt := 83) hx hb dX12_paint_45 (by decide) (fun c620 => ?_) (fun c620 => ?_)
                                                                                                            · exact absurd c620 (by decide)
                                                                                                            · refine lv_aload_n hx hb dX12_paint_48 rfl (lv_at hl 1 rfl) ?_
                                                                                                              refine va_get (D := D) (ci := 12) (v := .ref h11) (C := RX12) (T := TX12) (N := 24) hx hb hts hin12 hown hK hP 14 rfl rfl 18 (by decide) (hts (.fieldLink RX12 44 "MissedPointsModel" "items" "[I") (by decide +kernel)) (fun _ h9 => h9) rfl dX12_paint_49 ?_
                                                                                                              refine lv_bipush (v := 40) hx hb dX12_paint_52 (by decide) ?_
                                                                                                              refine lv_iload_n hx hb dX12_paint_54 rfl (lv_at hl 2 rfl) ?_
                                                                                                              refine lv_imul hx hb dX12_paint_55 ?_
                                                                                                              refine lz_top (y := 120) (by decide) ?_
                                                                                                              refine lv_iload_n hx hb dX12_paint_56 rfl (lv_at hl 0 rfl) ?_
                                                                                                              refine lv_iadd hx hb dX12_paint_57 ?_
                                                                                                              refine lz_top (y := 142) (by decide) ?_
                                                                                                              refine lv_iload_n hx hb dX12_paint_58 rfl (lv_at hl 0 rfl) ?_
                                                                                                              refine lv_aload_n hx hb dX12_paint_59 rfl (lv_at hl 1 rfl) ?_
                                                                                                              refine va_get (D := D) (ci := 12) (v := .int 0) (C := RX12) (T := TX12) (N := 24) hx hb hts hin12 hown hK hP 14 rfl rfl 0 (by decide) (hts (.fieldLink RX12 63 "MissedPointsModel" "many" "I") (by decide +kernel)) (fun _ h9 => h9) rfl dX12_paint_60 ?_
                                                                                                              refine lv_icmp_ge (tgt := 75) hx hb dX12_paint_63 (by decide) (fun c621 => ?_) (fun c621 => ?_)
                                                                                                              · refine lv_iconst (v := 0) hx hb dX12_paint_75 (by decide) ?_
                                                                                                                refine lz_astc hx hb hK hP hD hS 9 0 rfl rfl (lz_vp (x := 142) (n := 160) (by decide) (by decide)) dX12_paint_76 (fun H locs hP hD hS => ?_)
                                                                                                                refine lv_iinc (v := 23) (lv' := [(3, .int 23), (0, .ref h0), (1, .int 3), (2, .int x1)]) hx hb dX12_paint_77 hl (k := 0) rfl (by decide) (by decide) rfl (fun ls hl => ?_)
                                                                                                                refine lv_goto (tgt := 42) hx hb dX12_paint_80 (by decide) ?_
                                                                                                                refine lv_iload_n hx hb dX12_paint_42 rfl (lv_at hl 0 rfl) ?_
                                                                                                                refine lv_bipush (v := 40) hx hb dX12_paint_43 (by decide) ?_
                                                                                                                refine lv_icmp_ge (tgt := 83) hx hb dX12_paint_45 (by decide) (fun c622 => ?_) (fun c622 => ?_)
                                                                                                                · exact absurd c622 (by decide)
                                                                                                                · refine lv_aload_n hx hb dX12_paint_48 rfl (lv_at hl 1 rfl) ?_
                                                                                                                  refine va_get (D := D) (ci := 12) (v := .ref h11) (C := RX12) (T := TX12) (N := 24) hx hb hts hin12 hown hK hP 14 rfl rfl 18 (by decide) (hts (.fieldLink RX12 44 "MissedPointsModel" "items" "[I") (by decide +kernel)) (fun _ h9 => h9) rfl dX12_paint_49 ?_
                                                                                                                  refine lv_bipush (v := 40) hx hb dX12_paint_52 (by decide) ?_
                                                                                                                  refine lv_iload_n hx hb dX12_paint_54 rfl (lv_at hl 2 rfl) ?_
                                                                                                                  refine lv_imul hx hb dX12_paint_55 ?_
                                                                                                                  refine lz_top (y := 120) (by decide) ?_
                                                                                                                  refine lv_iload_n hx hb dX12_paint_56 rfl (lv_at hl 0 rfl) ?_
                                                                                                                  refine lv_iadd hx hb dX12_paint_57 ?_
                                                                                                                  refine lz_top (y := 143) (by decide) ?_
                                                                                                                  refine lv_iload_n hx hb dX12_paint_58 rfl (lv_at hl 0 rfl) ?_
                                                                                                                  refine lv_aload_n hx hb dX12_paint_59 rfl (lv_at hl 1 rfl) ?_
                                                                                                                  refine va_get (D := D) (ci := 12) (v := .int 0) (C := RX12) (T := TX12) (N := 24) hx hb hts hin12 hown hK hP 14 rfl rfl 0 (by decide) (hts (.fieldLink RX12 63 "MissedPointsModel" "many" "I") (by decide +kernel)) (fun _ h9 => h9) rfl dX12_paint_60 ?_
                                                                                                                  refine lv_icmp_ge (tgt := 75) hx hb dX12_paint_63 (by decide) (fun c623 => ?_) (fun c623 => ?_)
                                                                                                                  · refine lv_iconst (v := 0) hx hb dX12_paint_75 (by decide) ?_
                                                                                                                    refine lz_astc hx hb hK hP hD hS 9 0 rfl rfl (lz_vp (x := 143) (n := 160) (by decide) (by decide)) dX12_paint_76 (fun H locs hP hD hS => ?_)
                                                                                                                    refine lv_iinc (v := 24) (lv' := [(3, .int 24), (0, .ref h0), (1, .int 3), (2, .int x1)]) hx hb dX12_paint_77 hl (k := 0) rfl (by decide) (by decide) rfl (fun ls hl => ?_)
                                                                                                                    refine lv_goto (tgt := 42) hx hb dX12_paint_80 (by decide) ?_
                                                                                                                    refine lv_iload_n hx hb dX12_paint_42 rfl (lv_at hl 0 rfl) ?_
                                                                                                                    refine lv_bipush (v := 40) hx hb dX12_paint_43 (by decide) ?_
                                                                                                                    refine lv_icmp_ge (tgt := 83) hx hb dX12_paint_45 (by decide) (fun c624 => ?_) (fun c624 => ?_)
                                                                                                                    · exact absurd c624 (by decide)
                                                                                                                    · refine lv_aload_n hx hb dX12_paint_48 rfl (lv_at hl 1 rfl) ?_
                                                                                                                      refine va_get (D := D) (ci := 12) (v := .ref h11) (C := RX12) (T := TX12) (N := 24) hx hb hts hin12 hown hK hP 14 rfl rfl 18 (by decide) (hts (.fieldLink RX12 44 "MissedPointsModel" "items" "[I") (by decide +kernel)) (fun _ h9 => h9) rfl dX12_paint_49 ?_
                                                                                                                      refine lv_bipush (v := 40) hx hb dX12_paint_52 (by decide) ?_
                                                                                                                      refine lv_iload_n hx hb dX12_paint_54 rfl (lv_at hl 2 rfl) ?_
                                                                                                                      refine lv_imul hx hb dX12_paint_55 ?_
                                                                                                                      refine lz_top (y := 120) (by decide) ?_
                                                                                                                      refine lv_iload_n hx hb dX12_paint_56 rfl (lv_at hl 0 rfl) ?_
                                                                                                                      refine lv_iadd hx hb dX12_paint_57 ?_
                                                                                                                      refine lz_top (y := 144) (by decide) ?_
                                                                                                                      refine lv_iload_n hx hb dX12_paint_58 rfl (lv_at hl 0 rfl) ?_
                                                                                                                      refine lv_aload_n hx hb dX12_paint_59 rfl (lv_at hl 1 rfl) ?_
                                                                                                                      refine va_get (D := D) (ci := 12) (v := .int 0) (C := RX12) (T := TX12) (N := 24) hx hb hts hin12 hown hK hP 14 rfl rfl 0 (by decide) (hts (.fieldLink RX12 63 "MissedPointsModel" "many" "I") (by decide +kernel)) (fun _ h9 => h9) rfl dX12_paint_60 ?_
                                                                                                                      refine lv_icmp_ge (tgt := 75) hx hb dX12_paint_63 (by decide) (fun c625 => ?_) (fun c625 => ?_)
                                                                                                                      · refine lv_iconst (v := 0) hx hb dX12_paint_75 (by decide) ?_
                                                                                                                        refine lz_astc hx hb hK hP hD hS 9 0 rfl rfl (lz_vp (x := 144) (n := 160) (by decide) (by decide)) dX12_paint_76 (fun H locs hP hD hS => ?_)
                                                                                                                        refine lv_iinc (v := 25) (lv' := [(3, .int 25), (0, .ref h0), (1, .int 3), (2, .int x1)]) hx hb dX12_paint_77 hl (k := 0) rfl (by decide) (by decide) rfl (fun ls hl => ?_)
                                                                                                                        refine lv_goto (tgt := 42) hx hb dX12_paint_80 (by decide) ?_
                                                                                                                        refine lv_iload_n hx hb dX12_paint_42 rfl (lv_at hl 0 rfl) ?_
                                                                                                                        refine lv_bipush (v := 40) hx hb dX12_paint_43 (by decide) ?_
                                                                                                                        refine lv_icmp_ge (tgt := 83) hx hb dX12_paint_45 (by decide) (fun c626 => ?_) (fun c626 => ?_)
                                                                                                                        · exact absurd c626 (by decide)
                                                                                                                        · refine lv_aload_n hx hb dX12_paint_48 rfl (lv_at hl 1 rfl) ?_
                                                                                                                          refine va_get (D := D) (ci := 12) (v := .ref h11) (C := RX12) (T := TX12) (N := 24) hx hb hts hin12 hown hK hP 14 rfl rfl 18 (by decide) (hts (.fieldLink RX12 44 "MissedPointsModel" "items" "[I") (by decide +kernel)) (fun _ h9 => h9) rfl dX12_paint_49 ?_
                                                                                                                          refine lv_bipush (v := 40) hx hb dX12_paint_52 (by decide) ?_
                                                                                                                          refine lv_iload_n hx hb dX12_paint_54 rfl (lv_at hl 2 rfl) ?_
                                                                                                                          refine lv_imul hx hb dX12_paint_55 ?_
                                                                                                                          refine lz_top (y := 120) (by decide) ?_
                                                                                                                          refine lv_iload_n hx hb dX12_paint_56 rfl (lv_at hl 0 rfl) ?_
                                                                                                                          refine lv_iadd hx hb dX12_paint_57 ?_
                                                                                                                          refine lz_top (y := 145) (by decide) ?_
                                                                                                                          refine lv_iload_n hx hb dX12_paint_58 rfl (lv_at hl 0 rfl) ?_
                                                                                                                          refine lv_aload_n hx hb dX12_paint_59 rfl (lv_at hl 1 rfl) ?_
                                                                                                                          refine va_get (D := D) (ci := 12) (v := .int 0) (C := RX12) (T := TX12) (N := 24) hx hb hts hin12 hown hK hP 14 rfl rfl 0 (by decide) (hts (.fieldLink RX12 63 "MissedPointsModel" "many" "I") (by decide +kernel)) (fun _ h9 => h9) rfl dX12_paint_60 ?_
                                                                                                                          refine lv_icmp_ge (tgt := 75) hx hb dX12_paint_63 (by decide) (fun c627 => ?_) (fun c627 => ?_)
                                                                                                                          · refine lv_iconst (v := 0) hx hb dX12_paint_75 (by decide) ?_
                                                                                                                            refine lz_astc hx hb hK hP hD hS 9 0 rfl rfl (lz_vp (x := 145) (n := 160) (by decide) (by decide)) dX12_paint_76 (fun H locs hP hD hS => ?_)
                                                                                                                            refine lv_iinc (v := 26) (lv' := [(3, .int 26), (0, .ref h0), (1, .int 3), (2, .int x1)]) hx hb dX12_paint_77 hl (k := 0) rfl (by decide) (by decide) rfl (fun ls hl => ?_)
                                                                                                                            refine lv_goto (tgt := 42) hx hb dX12_paint_80 (by decide) ?_
                                                                                                                            refine lv_iload_n hx hb dX12_paint_42 rfl (lv_at hl 0 rfl) ?_
                                                                                                                            refine lv_bipush (v := 40) hx hb dX12_paint_43 (by decide) ?_
                                                                                                                            refine lv_icmp_ge (tgt := 83) hx hb dX12_paint_45 (by decide) (fun c628 => ?_) (fun c628 => ?_)
                                                                                                                            · exact absurd c628 (by decide)
                                                                                                                            · refine lv_aload_n hx hb dX12_paint_48 rfl (lv_at hl 1 rfl) ?_
                                                                                                                              refine va_get (D := D) (ci := 12) (v := .ref h11) (C := RX12) (T := TX12) (N := 24) hx hb hts hin12 hown hK hP 14 rfl rfl 18 (by decide) (hts (.fieldLink RX12 44 "MissedPointsModel" "items" "[I") (by decide +kernel)) (fun _ h9 => h9) rfl dX12_paint_49 ?_
                                                                                                                              refine lv_bipush (v := 40) hx hb dX12_paint_52 (by decide) ?_
                                                                                                                              refine lv_iload_n hx hb dX12_paint_54 rfl (lv_at hl 2 rfl) ?_
                                                                                                                              refine lv_imul hx hb dX12_paint_55 ?_
                                                                                                                              refine lz_top (y := 120) (by decide) ?_
                                                                                                                              refine lv_iload_n hx hb dX12_paint_56 rfl (lv_at hl 0 rfl) ?_
                                                                                                                              refine lv_iadd hx hb dX12_paint_57 ?_
                                                                                                                              refine lz_top (y := 146) (by decide) ?_
                                                                                                                              refine lv_iload_n hx hb dX12_paint_58 rfl (lv_at hl 0 rfl) ?_
                                                                                                                              refine lv_aload_n hx hb dX12_paint_59 rfl (lv_at hl 1 rfl) ?_
                                                                                                                              refine va_get (D := D) (ci := 12) (v := .int 0) (C := RX12) (T := TX12) (N := 24) hx hb hts hin12 hown hK hP 14 rfl rfl 0 (by decide) (hts (.fieldLink RX12 63 "MissedPointsModel" "many" "I") (by decide +kernel)) (fun _ h9 => h9) rfl dX12_paint_60 ?_
                                                                                                                              refine lv_icmp_ge (tgt := 75) hx hb dX12_paint_63 (by decide) (fun c629 => ?_) (fun c629 => ?_)
                                                                                                                              · refine lv_iconst (v := 0) hx hb dX12_paint_75 (by decide) ?_
                                                                                                                                refine lz_astc hx hb hK hP hD hS 9 0 rfl rfl (lz_vp (x := 146) (n := 160) (by decide) (by decide)) dX12_paint_76 (fun H locs hP hD hS => ?_)
                                                                                                                                refine lv_iinc (v := 27) (lv' := [(3, .int 27), (0, .ref h0), (1, .int 3), (2, .int x1)]) hx hb dX12_paint_77 hl (k := 0) rfl (by decide) (by decide) rfl (fun ls hl => ?_)
                                                                                                                                refine lv_goto (tgt := 42) hx hb dX12_paint_80 (by decide) ?_
                                                                                                                                refine lv_iload_n hx hb dX12_paint_42 rfl (lv_at hl 0 rfl) ?_
                                                                                                                                refine lv_bipush (v := 40) hx hb dX12_paint_43 (by decide) ?_
                                                                                                                                refine lv_icmp_ge (tgt := 83) hx hb dX12_paint_45 (by decide) (fun c630 => ?_) (fun c630 => ?_)
                                                                                                                                · exact absurd c630 (by decide)
                                                                                                                                · refine lv_aload_n hx hb dX12_paint_48 rfl (lv_at hl 1 rfl) ?_
                                                                                                                                  refine va_get (D := D) (ci := 12) (v := .ref h11) (C := RX12) (T := TX12) (N := 24) hx hb hts hin12 hown hK hP 14 rfl rfl 18 (by decide) (hts (.fieldLink RX12 44 "MissedPointsModel" "items" "[I") (by decide +kernel)) (fun _ h9 => h9) rfl dX12_paint_49 ?_
                                                                                                                                  refine lv_bipush (v := 40) hx hb dX12_paint_52 (by decide) ?_
                                                                                                                                  refine lv_iload_n hx hb dX12_paint_54 rfl (lv_at hl 2 rfl) ?_
                                                                                                                                  refine lv_imul hx hb dX12_paint_55 ?_
                                                                                                                                  refine lz_top (y := 120) (by decide) ?_
                                                                                                                                  refine lv_iload_n hx hb dX12_paint_56 rfl (lv_at hl 0 rfl) ?_
                                                                                                                                  refine lv_iadd hx hb dX12_paint_57 ?_
                                                                                                                                  refine lz_top (y := 147) (by decide) ?_
                                                                                                                                  refine lv_iload_n hx hb dX12_paint_58 rfl (lv_at hl 0 rfl) ?_
                                                                                                                                  refine lv_aload_n hx hb dX12_paint_59 rfl (lv_at hl 1 rfl) ?_
                                                                                                                                  refine va_get (D := D) (ci := 12) (v := .int 0) (C := RX12) (T := TX12) (N := 24) hx hb hts hin12 hown hK hP 14 rfl rfl 0 (by decide) (hts (.fieldLink RX12 63 "MissedPointsModel" "many" "I") (by decide +kernel)) (fun _ h9 => h9) rfl dX12_paint_60 ?_
                                                                                                                                  refine lv_icmp_ge (tgt := 75) hx hb dX12_paint_63 (by decide) (fun c631 => ?_) (fun c631 => ?_)
                                                                                                                                  · refine lv_iconst (v := 0) hx hb dX12_paint_75 (by decide) ?_
                                                                                                                                    refine lz_astc hx hb hK hP hD hS 9 0 rfl rfl (lz_vp (x := 147) (n := 160) (by decide) (by decide)) dX12_paint_76 (fun H locs hP hD hS => ?_)
                                                                                                                                    refine lv_iinc (v := 28) (lv' := [(3, .int 28), (0, .ref h0), (1, .int 3), (2, .int x1)]) hx hb dX12_paint_77 hl (k := 0) rfl (by decide) (by decide) rfl (fun ls hl => ?_)
                                                                                                                                    refine lv_goto (tgt := 42) hx hb dX12_paint_80 (by decide) ?_
                                                                                                                                    refine lv_iload_n hx hb dX12_paint_42 rfl (lv_at hl 0 rfl) ?_
                                                                                                                                    refine lv_bipush (v := 40) hx hb dX12_paint_43 (by decide) ?_
                                                                                                                                    refine lv_icmp_ge (tgt := 83) hx hb dX12_paint_45 (by decide) (fun c632 => ?_) (fun c632 => ?_)
                                                                                                                                    · exact absurd c632 (by decide)
                                                                                                                                    · refine lv_aload_n hx hb dX12_paint_48 rfl (lv_at hl 1 rfl) ?_
                                                                                                                                      refine va_get (D := D) (ci := 12) (v := .ref h11) (C := RX12) (T := TX12) (N := 24) hx hb hts hin12 hown hK hP 14 rfl rfl 18 (by decide) (hts (.fieldLink RX12 44 "MissedPointsModel" "items" "[I") (by decide +kernel)) (fun _ h9 => h9) rfl dX12_paint_49 ?_
                                                                                                                                      refine lv_bipush (v := 40) hx hb dX12_paint_52 (by decide) ?_
                                                                                                                                      refine lv_iload_n hx hb dX12_paint_54 rfl (lv_at hl 2 rfl) ?_
                                                                                                                                      refine lv_imul hx hb dX12_paint_55 ?_
                                                                                                                                      refine lz_top (y := 120) (by decide) ?_
                                                                                                                                      refine lv_iload_n hx hb dX12_paint_56 rfl (lv_at hl 0 rfl) ?_
                                                                                                                                      refine lv_iadd hx hb dX12_paint_57 ?_
                                                                                                                                      refine lz_top (y := 148) (by decide) ?_
                                                                                                                                      refine lv_iload_n hx hb dX12_paint_58 rfl (lv_at hl 0 rfl) ?_
                                                                                                                                      refine lv_aload_n hx hb dX12_paint_59 rfl (lv_at hl 1 rfl) ?_
                                                                                                                                      refine va_get (D := D) (ci := 12) (v := .int 0) (C := RX12) (T := TX12) (N := 24) hx hb hts hin12 hown hK hP 14 rfl rfl 0 (by decide) (hts (.fieldLink RX12 63 "MissedPointsModel" "many" "I") (by decide +kernel)) (fun _ h9 => h9) rfl dX12_paint_60 ?_
                                                                                                                                      refine lv_icmp_ge (tgt := 75) hx hb dX12_paint_63 (by decide) (fun c633 => ?_) (fun c633 => ?_)
                                                                                                                                      · refine lv_iconst (v := 0) hx hb dX12_paint_75 (by decide) ?_
                                                                                                                                        refine lz_astc hx hb hK hP hD hS 9 0 rfl rfl (lz_vp (x := 148) (n := 160) (by decide) (by decide)) dX12_paint_76 (fun H locs hP hD hS => ?_)
                                                                                                                                        refine lv_iinc (v := 29) (lv' := [(3, .int 29), (0, .ref h0), (1, .int 3), (2, .int x1)]) hx hb dX12_paint_77 hl (k := 0) rfl (by decide) (by decide) rfl (fun ls hl => ?_)
                                                                                                                                        refine lv_goto (tgt := 42) hx hb dX12_paint_80 (by decide) ?_
                                                                                                                                        refine lv_iload_n hx hb dX12_paint_42 rfl (lv_at hl 0 rfl) ?_
                                                                                                                                        refine lv_bipush (v := 40) hx hb dX12_paint_43 (by decide) ?_
                                                                                                                                        refine lv_icmp_ge (tgt := 83) hx hb dX12_paint_45 (by decide) (fun c634 => ?_) (fun c634 => ?_)
                                                                                                                                        · exact absurd c634 (by decide)
                                                                                                                                        · refine lv_aload_n hx hb dX12_paint_48 rfl (lv_at hl 1 rfl) ?_
                                                                                                                                          refine va_get (D := D) (ci := 12) (v := .ref h11) (C := RX12) (T := TX12) (N := 24) hx hb hts hin12 hown hK hP 14 rfl rfl 18 (by decide) (hts (.fieldLink RX12 44 "MissedPointsModel" "items" "[I") (by decide +kernel)) (fun _ h9 => h9) rfl dX12_paint_49 ?_
                                                                                                                                          refine lv_bipush (v := 40) hx hb dX12_paint_52 (by decide) ?_
                                                                                                                                          refine lv_iload_n hx hb dX12_paint_54 rfl (lv_at hl 2 rfl) ?_
                                                                                                                                          refine lv_imul hx hb dX12_paint_55 ?_
                                                                                                                                          refine lz_top (y := 120) (by decide) ?_
                                                                                                                                          refine lv_iload_n hx hb dX12_paint_56 rfl (lv_at hl 0 rfl) ?_
                                                                                                                                          refine lv_iadd hx hb dX12_paint_57 ?_
                                                                                                                                          refine lz_top (y := 149) (by decide) ?_
                                                                                                                                          refine lv_iload_n hx hb dX12_paint_58 rfl (lv_at hl 0 rfl) ?_
                                                                                                                                          refine lv_aload_n hx hb dX12_paint_59 rfl (lv_at hl 1 rfl) ?_
                                                                                                                                          refine va_get (D := D) (ci := 12) (v := .int 0) (C := RX12) (T := TX12) (N := 24) hx hb hts hin12 hown hK hP 14 rfl rfl 0 (by decide) (hts (.fieldLink RX12 63 "MissedPointsModel" "many" "I") (by decide +kernel)) (fun _ h9 => h9) rfl dX12_paint_60 ?_
                                                                                                                                          refine lv_icmp_ge (tgt := 75) hx hb dX12_paint_63 (by decide) (fun c635 => ?_) (fun c635 => ?_)
                                                                                                                                          · refine lv_iconst (v := 0) hx hb dX12_paint_75 (by decide) ?_
                                                                                                                                            refine lz_astc hx hb hK hP hD hS 9 0 rfl rfl (lz_vp (x := 149) (n := 160) (by decide) (by decide)) dX12_paint_76 (fun H locs hP hD hS => ?_)
                                                                                                                                            refine lv_iinc (v := 30) (lv' := [(3, .int 30), (0, .ref h0), (1, .int 3), (2, .int x1)]) hx hb dX12_paint_77 hl (k := 0) rfl (by decide) (by decide) rfl (fun ls hl => ?_)
                                                                                                                                            refine lv_goto (tgt := 42) hx hb dX12_paint_80 (by decide) ?_
                                                                                                                                            refine lv_iload_n hx hb dX12_paint_42 rfl (lv_at hl 0 rfl) ?_
                                                                                                                                            refine lv_bipush (v := 40) hx hb dX12_paint_43 (by decide) ?_
                                                                                                                                            refine lv_icmp_ge (tgt := 83) hx hb dX12_paint_45 (by decide) (fun c636 => ?_) (fun c636 => ?_)
                                                                                                                                            · exact absurd c636 (by decide)
                                                                                                                                            · refine lv_aload_n hx hb dX12_paint_48 rfl (lv_at hl 1 rfl) ?_
                                                                                                                                              refine va_get (D := D) (ci := 12) (v := .ref h11) (C := RX12) (T := TX12) (N := 24) hx hb hts hin12 hown hK hP 14 rfl rfl 18 (by decide) (hts (.fieldLink RX12 44 "MissedPointsModel" "items" "[I") (by decide +kernel)) (fun _ h9 => h9) rfl dX12_paint_49 ?_
                                                                                                                                              refine lv_bipush (v := 40) hx hb dX12_paint_52 (by decide) ?_
                                                                                                                                              refine lv_iload_n hx hb dX12_paint_54 rfl (lv_at hl 2 rfl) ?_
                                                                                                                                              refine lv_imul hx hb dX12_paint_55 ?_
                                                                                                                                              refine lz_top (y := 120) (by decide) ?_
                                                                                                                                              refine lv_iload_n hx hb dX12_paint_56 rfl (lv_at hl 0 rfl) ?_
                                                                                                                                              refine lv_iadd hx hb dX12_paint_57 ?_
                                                                                                                                              refine lz_top (y := 150) (by decide) ?_
                                                                                                                                              refine lv_iload_n hx hb dX12_paint_58 rfl (lv_at hl 0 rfl) ?_
                                                                                                                                              refine lv_aload_n hx hb dX12_paint_59 rfl (lv_at hl 1 rfl) ?_
                                                                                                                                              refine va_get (D := D) (ci := 12) (v := .int 0) (C := RX12) (T := TX12) (N := 24) hx hb hts hin12 hown hK hP 14 rfl rfl 0 (by decide) (hts (.fieldLink RX12 63 "MissedPointsModel" "many" "I") (by decide +kernel)) (fun _ h9 => h9) rfl dX12_paint_60 ?_
                                                                                                                                              refine lv_icmp_ge (tgt := 75) hx hb dX12_paint_63 (by decide) (fun c637 => ?_) (fun c637 => ?_)
                                                                                                                                              · refine lv_iconst (v := 0) hx hb dX12_paint_75 (by decide) ?_
                                                                                                                                                refine lz_astc hx hb hK hP hD hS 9 0 rfl rfl (lz_vp (x := 150) (n := 160) (by decide) (by decide)) dX12_paint_76 (fun H locs hP hD hS => ?_)
                                                                                                                                                refine lv_iinc (v := 31) (lv' := [(3, .int 31), (0, .ref h0), (1, .int 3), (2, .int x1)]) hx hb dX12_paint_77 hl (k := 0) rfl (by decide) (by decide) rfl (fun ls hl => ?_)
                                                                                                                                                refine lv_goto (tgt := 42) hx hb dX12_paint_80 (by decide) ?_
                                                                                                                                                refine lv_iload_n hx hb dX12_paint_42 rfl (lv_at hl 0 rfl) ?_
                                                                                                                                                refine lv_bipush (v := 40) hx hb dX12_paint_43 (by decide) ?_
                                                                                                                                                refine lv_icmp_ge (tgt := 83) hx hb dX12_paint_45 (by decide) (fun c638 => ?_) (fun c638 => ?_)
                                                                                                                                                · exact absurd c638 (by decide)
                                                                                                                                                · refine lv_aload_n hx hb dX12_paint_48 rfl (lv_at hl 1 rfl) ?_
                                                                                                                                                  refine va_get (D := D) (ci := 12) (v := .ref h11) (C := RX12) (T := TX12) (N := 24) hx hb hts hin12 hown hK hP 14 rfl rfl 18 (by decide) (hts (.fieldLink RX12 44 "MissedPointsModel" "items" "[I") (by decide +kernel)) (fun _ h9 => h9) rfl dX12_paint_49 ?_
                                                                                                                                                  refine lv_bipush (v := 40) hx hb dX12_paint_52 (by decide) ?_
                                                                                                                                                  refine lv_iload_n hx hb dX12_paint_54 rfl (lv_at hl 2 rfl) ?_
                                                                                                                                                  refine lv_imul hx hb dX12_paint_55 ?_
                                                                                                                                                  refine lz_top (y := 120) (by decide) ?_
                                                                                                                                                  refine lv_iload_n hx hb dX12_paint_56 rfl (lv_at hl 0 rfl) ?_
                                                                                                                                                  refine lv_iadd hx hb dX12_paint_57 ?_
                                                                                                                                                  refine lz_top (y := 151) (by decide) ?_
                                                                                                                                                  refine lv_iload_n hx hb dX12_paint_58 rfl (lv_at hl 0 rfl) ?_
                                                                                                                                                  refine lv_aload_n hx hb dX12_paint_59 rfl (lv_at hl 1 rfl) ?_
                                                                                                                                                  refine va_get (D := D) (ci := 12) (v := .int 0) (C := RX12) (T := TX12) (N := 24) hx hb hts hin12 hown hK hP 14 rfl rfl 0 (by decide) (hts (.fieldLink RX12 63 "MissedPointsModel" "many" "I") (by decide +kernel)) (fun _ h9 => h9) rfl dX12_paint_60 ?_
                                                                                                                                                  refine lv_icmp_ge (tgt := 75) hx hb dX12_paint_63 (by decide) (fun c639 => ?_) (fun c639 => ?_)
                                                                                                                                                  · refine lv_iconst (v := 0) hx hb dX12_paint_75 (by decide) ?_
                                                                                                                                                    refine lz_astc hx hb hK hP hD hS 9 0 rfl rfl (lz_vp (x := 151) (n := 160) (by decide) (by decide)) dX12_paint_76 (fun H locs hP hD hS => ?_)
                                                                                                                                                    refine lv_iinc (v := 32) (lv' := [(3, .int 32), (0, .ref h0), (1, .int 3), (2, .int x1)]) hx hb dX12_paint_77 hl (k := 0) rfl (by decide) (by decide) rfl (fun ls hl => ?_)
                                                                                                                                                    refine lv_goto (tgt := 42) hx hb dX12_paint_80 (by decide) ?_
                                                                                                                                                    refine lv_iload_n hx hb dX12_paint_42 rfl (lv_at hl 0 rfl) ?_
                                                                                                                                                    refine lv_bipush (v := 40) hx hb dX12_paint_43 (by decide) ?_
                                                                                                                                                    refine lv_icmp_ge (tgt := 83) hx hb dX12_paint_45 (by decide) (fun c640 => ?_) (fun c640 => ?_)
                                                                                                                                                    · exact absurd c640 (by decide)
                                                                                                                                                    · refine lv_aload_n hx hb dX12_paint_48 rfl (lv_at hl 1 rfl) ?_
                                                                                                                                                      refine va_get (D := D) (ci := 12) (v := .ref h11) (C := RX12) (T := TX12) (N := 24) hx hb hts hin12 hown hK hP 14 rfl rfl 18 (by decide) (hts (.fieldLink RX12 44 "MissedPointsModel" "items" "[I") (by decide +kernel)) (fun _ h9 => h9) rfl dX12_paint_49 ?_
                                                                                                                                                      refine lv_bipush (v := 40) hx hb dX12_paint_52 (by decide) ?_
                                                                                                                                                      refine lv_iload_n hx hb dX12_paint_54 rfl (lv_at hl 2 rfl) ?_
                                                                                                                                                      refine lv_imul hx hb dX12_paint_55 ?_
                                                                                                                                                      refine lz_top (y := 120) (by decide) ?_
                                                                                                                                                      refine lv_iload_n hx hb dX12_paint_56 rfl (lv_at hl 0 rfl) ?_
                                                                                                                                                      refine lv_iadd hx hb dX12_paint_57 ?_
                                                                                                                                                      refine lz_top (y := 152) (by decide) ?_
                                                                                                                                                      refine lv_iload_n hx hb dX12_paint_58 rfl (lv_at hl 0 rfl) ?_
                                                                                                                                                      refine lv_aload_n hx hb dX12_paint_59 rfl (lv_at hl 1 rfl) ?_
                                                                                                                                                      refine va_get (D := D) (ci := 12) (v := .int 0) (C := RX12) (T := TX12) (N := 24) hx hb hts hin12 hown hK hP 14 rfl rfl 0 (by decide) (hts (.fieldLink RX12 63 "MissedPointsModel" "many" "I") (by decide +kernel)) (fun _ h9 => h9) rfl dX12_paint_60 ?_
                                                                                                                                                      refine lv_icmp_ge (tgt := 75) hx hb dX12_paint_63 (by decide) (fun c641 => ?_) (fun c641 => ?_)
                                                                                                                                                      · refine lv_iconst (v := 0) hx hb dX12_paint_75 (by decide) ?_
                                                                                                                                                        refine lz_astc hx hb hK hP hD hS 9 0 rfl rfl (lz_vp (x := 152) (n := 160) (by decide) (by decide)) dX12_paint_76 (fun H locs hP hD hS => ?_)
                                                                                                                                                        refine lv_iinc (v := 33) (lv' := [(3, .int 33), (0, .ref h0), (1, .int 3), (2, .int x1)]) hx hb dX12_paint_77 hl (k := 0) rfl (by decide) (by decide) rfl (fun ls hl => ?_)
                                                                                                                                                        refine lv_goto (tgt := 42) hx hb dX12_paint_80 (by decide) ?_
                                                                                                                                                        refine lv_iload_n hx hb dX12_paint_42 rfl (lv_at hl 0 rfl) ?_
                                                                                                                                                        refine lv_bipush (v := 40) hx hb dX12_paint_43 (by decide) ?_
                                                                                                                                                        refine lv_icmp_ge (tgt := 83) hx hb dX12_paint_45 (by decide) (fun c642 => ?_) (fun c642 => ?_)
                                                                                                                                                        · exact absurd c642 (by decide)
                                                                                                                                                        · refine lv_aload_n hx hb dX12_paint_48 rfl (lv_at hl 1 rfl) ?_
                                                                                                                                                          refine va_get (D := D) (ci := 12) (v := .ref h11) (C := RX12) (T := TX12) (N := 24) hx hb hts hin12 hown hK hP 14 rfl rfl 18 (by decide) (hts (.fieldLink RX12 44 "MissedPointsModel" "items" "[I") (by decide +kernel)) (fun _ h9 => h9) rfl dX12_paint_49 ?_
                                                                                                                                                          refine lv_bipush (v := 40) hx hb dX12_paint_52 (by decide) ?_
                                                                                                                                                          refine lv_iload_n hx hb dX12_paint_54 rfl (lv_at hl 2 rfl) ?_
                                                                                                                                                          refine lv_imul hx hb dX12_paint_55 ?_
                                                                                                                                                          refine lz_top (y := 120) (by decide) ?_
                                                                                                                                                          refine lv_iload_n hx hb dX12_paint_56 rfl (lv_at hl 0 rfl) ?_
                                                                                                                                                          refine lv_iadd hx hb dX12_paint_57 ?_
                                                                                                                                                          refine lz_top (y := 153) (by decide) ?_
                                                                                                                                                          refine lv_iload_n hx hb dX12_paint_58 rfl (lv_at hl 0 rfl) ?_
                                                                                                                                                          refine lv_aload_n hx hb dX12_paint_59 rfl (lv_at hl 1 rfl) ?_
                                                                                                                                                          refine va_get (D := D) (ci := 12) (v := .int 0) (C := RX12) (T := TX12) (N := 24) hx hb hts hin12 hown hK hP 14 rfl rfl 0 (by decide) (hts (.fieldLink RX12 63 "MissedPointsModel" "many" "I") (by decide +kernel)) (fun _ h9 => h9) rfl dX12_paint_60 ?_
                                                                                                                                                          refine lv_icmp_ge (tgt := 75) hx hb dX12_paint_63 (by decide) (fun c643 => ?_) (fun c643 => ?_)
                                                                                                                                                          · refine lv_iconst (v := 0) hx hb dX12_paint_75 (by decide) ?_
                                                                                                                                                            refine lz_astc hx hb hK hP hD hS 9 0 rfl rfl (lz_vp (x := 153) (n := 160) (by decide) (by decide)) dX12_paint_76 (fun H locs hP hD hS => ?_)
                                                                                                                                                            refine lv_iinc (v := 34) (lv' := [(3, .int 34), (0, .ref h0), (1, .int 3), (2, .int x1)]) hx hb dX12_paint_77 hl (k := 0) rfl (by decide) (by decide) rfl (fun ls hl => ?_)
                                                                                                                                                            refine lv_goto (tgt := 42) hx hb dX12_paint_80 (by decide) ?_
                                                                                                                                                            refine lv_iload_n hx hb dX12_paint_42 rfl (lv_at hl 0 rfl) ?_
                                                                                                                                                            refine lv_bipush (v := 40) hx hb dX12_paint_43 (by decide) ?_
                                                                                                                                                            refine lv_icmp_ge (tgt := 83) hx hb dX12_paint_45 (by decide) (fun c644 => ?_) (fun c644 => ?_)
                                                                                                                                                            · exact absurd c644 (by decide)
                                                                                                                                                            · refine lv_aload_n hx hb dX12_paint_48 rfl (lv_at hl 1 rfl) ?_
                                                                                                                                                              refine va_get (D := D) (ci := 12) (v := .ref h11) (C := RX12) (T := TX12) (N := 24) hx hb hts hin12 hown hK hP 14 rfl rfl 18 (by decide) (hts (.fieldLink RX12 44 "MissedPointsModel" "items" "[I") (by decide +kernel)) (fun _ h9 => h9) rfl dX12_paint_49 ?_
                                                                                                                                                              refine lv_bipush (v := 40) hx hb dX12_paint_52 (by decide) ?_
                                                                                                                                                              refine lv_iload_n hx hb dX12_paint_54 rfl (lv_at hl 2 rfl) ?_
                                                                                                                                                              refine lv_imul hx hb dX12_paint_55 ?_
                                                                                                                                                              refine lz_top (y := 120) (by decide) ?_
                                                                                                                                                              refine lv_iload_n hx hb dX12_paint_56 rfl (lv_at hl 0 rfl) ?_
                                                                                                                                                              refine lv_iadd hx hb dX12_paint_57 ?_
                                                                                                                                                              refine lz_top (y := 154) (by decide) ?_
                                                                                                                                                              refine lv_iload_n hx hb dX12_paint_58 rfl (lv_at hl 0 rfl) ?_
                                                                                                                                                              refine lv_aload_n hx hb dX12_paint_59 rfl (lv_at hl 1 rfl) ?_
                                                                                                                                                              refine va_get (D := D) (ci := 12) (v := .int 0) (C := RX12) (T := TX12) (N := 24) hx hb hts hin12 hown hK hP 14 rfl rfl 0 (by decide) (hts (.fieldLink RX12 63 "MissedPointsModel" "many" "I") (by decide +kernel)) (fun _ h9 => h9) rfl dX12_paint_60 ?_
                                                                                                                                                              refine lv_icmp_ge (tgt := 75) hx hb dX12_paint_63 (by decide) (fun c645 => ?_) (fun c645 => ?_)
                                                                                                                                                              · refine lv_iconst (v := 0) hx hb dX12_paint_75 (by decide) ?_
                                                                                                                                                                refine lz_astc hx hb hK hP hD hS 9 0 rfl rfl (lz_vp (x := 154) (n := 160) (by decide) (by decide)) dX12_paint_76 (fun H locs hP hD hS => ?_)
                                                                                                                                                                refine lv_iinc (v := 35) (lv' := [(3, .int 35), (0, .ref h0), (1, .int 3), (2, .int x1)]) hx hb dX12_paint_77 hl (k := 0) rfl (by decide) (by decide) rfl (fun ls hl => ?_)
                                                                                                                                                                refine lv_goto (tgt := 42) hx hb dX12_paint_80 (by decide) ?_
                                                                                                                                                                refine lv_iload_n hx hb dX12_paint_42 rfl (lv_at hl 0 rfl) ?_
                                                                                                                                                                refine lv_bipush (v := 40) hx hb dX12_paint_43 (by decide) ?_
                                                                                                                                                                refine lv_icmp_ge (tgt := 83) hx hb dX12_paint_45 (by decide) (fun c646 => ?_) (fun c646 => ?_)
                                                                                                                                                                · exact absurd c646 (by decide)
                                                                                                                                                                · refine lv_aload_n hx hb dX12_paint_48 rfl (lv_at hl 1 rfl) ?_
                                                                                                                                                                  refine va_get (D := D) (ci := 12) (v := .ref h11) (C := RX12) (T := TX12) (N := 24) hx hb hts hin12 hown hK hP 14 rfl rfl 18 (by decide) (hts (.fieldLink RX12 44 "MissedPointsModel" "items" "[I") (by decide +kernel)) (fun _ h9 => h9) rfl dX12_paint_49 ?_
                                                                                                                                                                  refine lv_bipush (v := 40) hx hb dX12_paint_52 (by decide) ?_
                                                                                                                                                                  refine lv_iload_n hx hb dX12_paint_54 rfl (lv_at hl 2 rfl) ?_
                                                                                                                                                                  refine lv_imul hx hb dX12_paint_55 ?_
                                                                                                                                                                  refine lz_top (y := 120) (by decide) ?_
                                                                                                                                                                  refine lv_iload_n hx hb dX12_paint_56 rfl (lv_at hl 0 rfl) ?_
                                                                                                                                                                  refine lv_iadd hx hb dX12_paint_57 ?_
                                                                                                                                                                  refine lz_top (y := 155) (by decide) ?_
                                                                                                                                                                  refine lv_iload_n hx hb dX12_paint_58 rfl (lv_at hl 0 rfl) ?_
                                                                                                                                                                  refine lv_aload_n hx hb dX12_paint_59 rfl (lv_at hl 1 rfl) ?_
                                                                                                                                                                  refine va_get (D := D) (ci := 12) (v := .int 0) (C := RX12) (T := TX12) (N := 24) hx hb hts hin12 hown hK hP 14 rfl rfl 0 (by decide) (hts (.fieldLink RX12 63 "MissedPointsModel" "many" "I") (by decide +kernel)) (fun _ h9 => h9) rfl dX12_paint_60 ?_
                                                                                                                                                                  refine lv_icmp_ge (tgt := 75) hx hb dX12_paint_63 (by decide) (fun c647 => ?_) (fun c647 => ?_)
                                                                                                                                                                  · refine lv_iconst (v := 0) hx hb dX12_paint_75 (by decide) ?_
                                                                                                                                                                    refine lz_astc hx hb hK hP hD hS 9 0 rfl rfl (lz_vp (x := 155) (n := 160) (by decide) (by decide)) dX12_paint_76 (fun H locs hP hD hS => ?_)
                                                                                                                                                                    refine lv_iinc (v := 36) (lv' := [(3, .int 36), (0, .ref h0), (1, .int 3), (2, .int x1)]) hx hb dX12_paint_77 hl (k := 0) rfl (by decide) (by decide) rfl (fun ls hl => ?_)
                                                                                                                                                                    refine lv_goto (tgt := 42) hx hb dX12_paint_80 (by decide) ?_
                                                                                                                                                                    refine lv_iload_n hx hb dX12_paint_42 rfl (lv_at hl 0 rfl) ?_
                                                                                                                                                                    refine lv_bipush (v := 40) hx hb dX12_paint_43 (by decide) ?_
                                                                                                                                                                    refine lv_icmp_ge (tgt := 83) hx hb dX12_paint_45 (by decide) (fun c648 => ?_) (fun c648 => ?_)
                                                                                                                                                                    · exact absurd c648 (by decide)
                                                                                                                                                                    · refine lv_aload_n hx hb dX12_paint_48 rfl (lv_at hl 1 rfl) ?_
                                                                                                                                                                      refine va_get (D := D) (ci := 12) (v := .ref h11) (C := RX12) (T := TX12) (N := 24) hx hb hts hin12 hown hK hP 14 rfl rfl 18 (by decide) (hts (.fieldLink RX12 44 "MissedPointsModel" "items" "[I") (by decide +kernel)) (fun _ h9 => h9) rfl dX12_paint_49 ?_
                                                                                                                                                                      refine lv_bipush (v := 40) hx hb dX12_paint_52 (by decide) ?_
                                                                                                                                                                      refine lv_iload_n hx hb dX12_paint_54 rfl (lv_at hl 2 rfl) ?_
                                                                                                                                                                      refine lv_imul hx hb dX12_paint_55 ?_
                                                                                                                                                                      refine lz_top (y := 120) (by decide) ?_
                                                                                                                                                                      refine lv_iload_n hx hb dX12_paint_56 rfl (lv_at hl 0 rfl) ?_
                                                                                                                                                                      refine lv_iadd hx hb dX12_paint_57 ?_
                                                                                                                                                                      refine lz_top (y := 156) (by decide) ?_
                                                                                                                                                                      refine lv_iload_n hx hb dX12_paint_58 rfl (lv_at hl 0 rfl) ?_
                                                                                                                                                                      refine lv_aload_n hx hb dX12_paint_59 rfl (lv_at hl 1 rfl) ?_
                                                                                                                                                                      refine va_get (D := D) (ci := 12) (v := .int 0) (C := RX12) (T := TX12) (N := 24) hx hb hts hin12 hown hK hP 14 rfl rfl 0 (by decide) (hts (.fieldLink RX12 63 "MissedPointsModel" "many" "I") (by decide +kernel)) (fun _ h9 => h9) rfl dX12_paint_60 ?_
                                                                                                                                                                      refine lv_icmp_ge (tgt := 75) hx hb dX12_paint_63 (by decide) (fun c649 => ?_) (fun c649 => ?_)
                                                                                                                                                                      · refine lv_iconst (v := 0) hx hb dX12_paint_75 (by decide) ?_
                                                                                                                                                                        refine lz_astc hx hb hK hP hD hS 9 0 rfl rfl (lz_vp (x := 156) (n := 160) (by decide) (by decide)) dX12_paint_76 (fun H locs hP hD hS => ?_)
                                                                                                                                                                        refine lv_iinc (v := 37) (lv' := [(3, .int 37), (0, .ref h0), (1, .int 3), (2, .int x1)]) hx hb dX12_paint_77 hl (k := 0) rfl (by decide) (by decide) rfl (fun ls hl => ?_)
                                                                                                                                                                        refine lv_goto (tgt := 42) hx hb dX12_paint_80 (by decide) ?_
                                                                                                                                                                        refine lv_iload_n hx hb dX12_paint_42 rfl (lv_at hl 0 rfl) ?_
                                                                                                                                                                        refine lv_bipush (v := 40) hx hb dX12_paint_43 (by decide) ?_
                                                                                                                                                                        refine lv_icmp_ge (tgt := 83) hx hb dX12_paint_45 (by decide) (fun c650 => ?_) (fun c650 => ?_)
                                                                                                                                                                        · exact absurd c650 (by decide)
                                                                                                                                                                        · refine lv_aload_n hx hb dX12_paint_48 rfl (lv_at hl 1 rfl) ?_
                                                                                                                                                                          refine va_get (D := D) (ci := 12) (v := .ref h11) (C := RX12) (T := TX12) (N := 24) hx hb hts hin12 hown hK hP 14 rfl rfl 18 (by decide) (hts (.fieldLink RX12 44 "MissedPointsModel" "items" "[I") (by decide +kernel)) (fun _ h9 => h9) rfl dX12_paint_49 ?_
                                                                                                                                                                          refine lv_bipush (v := 40) hx hb dX12_paint_52 (by decide) ?_
                                                                                                                                                                          refine lv_iload_n hx hb dX12_paint_54 rfl (lv_at hl 2 rfl) ?_
                                                                                                                                                                          refine lv_imul hx hb dX12_paint_55 ?_
                                                                                                                                                                          refine lz_top (y := 120) (by decide) ?_
                                                                                                                                                                          refine lv_iload_n hx hb dX12_paint_56 rfl (lv_at hl 0 rfl) ?_
                                                                                                                                                                          refine lv_iadd hx hb dX12_paint_57 ?_
                                                                                                                                                                          refine lz_top (y := 157) (by decide) ?_
                                                                                                                                                                          refine lv_iload_n hx hb dX12_paint_58 rfl (lv_at hl 0 rfl) ?_
                                                                                                                                                                          refine lv_aload_n hx hb dX12_paint_59 rfl (lv_at hl 1 rfl) ?_
                                                                                                                                                                          refine va_get (D := D) (ci := 12) (v := .int 0) (C := RX12) (T := TX12) (N := 24) hx hb hts hin12 hown hK hP 14 rfl rfl 0 (by decide) (hts (.fieldLink RX12 63 "MissedPointsModel" "many" "I") (by decide +kernel)) (fun _ h9 => h9) rfl dX12_paint_60 ?_
                                                                                                                                                                          refine lv_icmp_ge (tgt := 75) hx hb dX12_paint_63 (by decide) (fun c651 => ?_) (fun c651 => ?_)
                                                                                                                                                                          · refine lv_iconst (v := 0) hx hb dX12_paint_75 (by decide) ?_
                                                                                                                                                                            refine lz_astc hx hb hK hP hD hS 9 0 rfl rfl (lz_vp (x := 157) (n := 160) (by decide) (by decide)) dX12_paint_76 (fun H locs hP hD hS => ?_)
                                                                                                                                                                            refine lv_iinc (v := 38) (lv' := [(3, .int 38), (0, .ref h0), (1, .int 3), (2, .int x1)]) hx hb dX12_paint_77 hl (k := 0) rfl (by decide) (by decide) rfl (fun ls hl => ?_)
                                                                                                                                                                            refine lv_goto (tgt := 42) hx hb dX12_paint_80 (by decide) ?_
                                                                                                                                                                            refine lv_iload_n hx hb dX12_paint_42 rfl (lv_at hl 0 rfl) ?_
                                                                                                                                                                            refine lv_bipush (v := 40) hx hb dX12_paint_43 (by decide) ?_
                                                                                                                                                                            refine lv_icmp_ge (tgt := 83) hx hb dX12_paint_45 (by decide) (fun c652 => ?_) (fun c652 => ?_)
                                                                                                                                                                            · exact absurd c652 (by decide)
                                                                                                                                                                            · refine lv_aload_n hx hb dX12_paint_48 rfl (lv_at hl 1 rfl) ?_
                                                                                                                                                                              refine va_get (D := D) (ci := 12) (v := .ref h11) (C := RX12) (T := TX12) (N := 24) hx hb hts hin12 hown hK hP 14 rfl rfl 18 (by decide) (hts (.fieldLink RX12 44 "MissedPointsModel" "items" "[I") (by decide +kernel)) (fun _ h9 => h9) rfl dX12_paint_49 ?_
                                                                                                                                                                              refine lv_bipush (v := 40) hx hb dX12_paint_52 (by decide) ?_
                                                                                                                                                                              refine lv_iload_n hx hb dX12_paint_54 rfl (lv_at hl 2 rfl) ?_
                                                                                                                                                                              refine lv_imul hx hb dX12_paint_55 ?_
                                                                                                                                                                              refine lz_top (y := 120) (by decide) ?_
                                                                                                                                                                              refine lv_iload_n hx hb dX12_paint_56 rfl (lv_at hl 0 rfl) ?_
                                                                                                                                                                              refine lv_iadd hx hb dX12_paint_57 ?_
                                                                                                                                                                              refine lz_top (y := 158) (by decide) ?_
                                                                                                                                                                              refine lv_iload_n hx hb dX12_paint_58 rfl (lv_at hl 0 rfl) ?_
                                                                                                                                                                              refine lv_aload_n hx hb dX12_paint_59 rfl (lv_at hl 1 rfl) ?_
                                                                                                                                                                              refine va_get (D := D) (ci := 12) (v := .int 0) (C := RX12) (T := TX12) (N := 24) hx hb hts hin12 hown hK hP 14 rfl rfl 0 (by decide) (hts (.fieldLink RX12 63 "MissedPointsModel" "many" "I") (by decide +kernel)) (fun _ h9 => h9) rfl dX12_paint_60 ?_
                                                                                                                                                                              refine lv_icmp_ge (tgt := 75) hx hb dX12_paint_63 (by decide) (fun c653 => ?_) (fun c653 => ?_)
                                                                                                                                                                              · refine lv_iconst (v := 0) hx hb dX12_paint_75 (by decide) ?_
                                                                                                                                                                                refine lz_astc hx hb hK hP hD hS 9 0 rfl rfl (lz_vp (x := 158) (n := 160) (by decide) (by decide)) dX12_paint_76 (fun H locs hP hD hS => ?_)
                                                                                                                                                                                refine lv_iinc (v := 39) (lv' := [(3, .int 39), (0, .ref h0), (1, .int 3), (2, .int x1)]) hx hb dX12_paint_77 hl (k := 0) rfl (by decide) (by decide) rfl (fun ls hl => ?_)
                                                                                                                                                                                refine lv_goto (tgt := 42) hx hb dX12_paint_80 (by decide) ?_
                                                                                                                                                                                refine lv_iload_n hx hb dX12_paint_42 rfl (lv_at hl 0 rfl) ?_
                                                                                                                                                                                refine lv_bipush (v := 40) hx hb dX12_paint_43 (by decide) ?_
                                                                                                                                                                                refine lv_icmp_ge (tgt := 83) hx hb dX12_paint_45 (by decide) (fun c654 => ?_) (fun c654 => ?_)
                                                                                                                                                                                · exact absurd c654 (by decide)
                                                                                                                                                                                · refine lv_aload_n hx hb dX12_paint_48 rfl (lv_at hl 1 rfl) ?_
                                                                                                                                                                                  refine va_get (D := D) (ci := 12) (v := .ref h11) (C := RX12) (T := TX12) (N := 24) hx hb hts hin12 hown hK hP 14 rfl rfl 18 (by decide) (hts (.fieldLink RX12 44 "MissedPointsModel" "items" "[I") (by decide +kernel)) (fun _ h9 => h9) rfl dX12_paint_49 ?_
                                                                                                                                                                                  refine lv_bipush (v := 40) hx hb dX12_paint_52 (by decide) ?_
                                                                                                                                                                                  refine lv_iload_n hx hb dX12_paint_54 rfl (lv_at hl 2 rfl) ?_
                                                                                                                                                                                  refine lv_imul hx hb dX12_paint_55 ?_
                                                                                                                                                                                  refine lz_top (y := 120) (by decide) ?_
                                                                                                                                                                                  refine lv_iload_n hx hb dX12_paint_56 rfl (lv_at hl 0 rfl) ?_
                                                                                                                                                                                  refine lv_iadd hx hb dX12_paint_57 ?_
                                                                                                                                                                                  refine lz_top (y := 159) (by decide) ?_
                                                                                                                                                                                  refine lv_iload_n hx hb dX12_paint_58 rfl (lv_at hl 0 rfl) ?_
                                                                                                                                                                                  refine lv_aload_n hx hb dX12_paint_59 rfl (lv_at hl 1 rfl) ?_
                                                                                                                                                                                  refine va_get (D := D) (ci := 12) (v := .int 0) (C := RX12) (T := TX12) (N := 24) hx hb hts hin12 hown hK hP 14 rfl rfl 0 (by decide) (hts (.fieldLink RX12 63 "MissedPointsModel" "many" "I") (by decide +kernel)) (fun _ h9 => h9) rfl dX12_paint_60 ?_
                                                                                                                                                                                  refine lv_icmp_ge (tgt := 75) hx hb dX12_paint_63 (by decide) (fun c655 => ?_) (fun c655 => ?_)
                                                                                                                                                                                  · refine lv_iconst (v := 0) hx hb dX12_paint_75 (by decide) ?_
                                                                                                                                                                                    refine lz_astc hx hb hK hP hD hS 9 0 rfl rfl (lz_vp (x := 159) (n := 160) (by decide) (by decide)) dX12_paint_76 (fun H locs hP hD hS => ?_)
                                                                                                                                                                                    refine lv_iinc (v := 40) (lv' := [(3, .int 40), (0, .ref h0), (1, .int 3), (2, .int x1)]) hx hb dX12_paint_77 hl (k := 0) rfl (by decide) (by decide) rfl (fun ls hl => ?_)
                                                                                                                                                                                    refine lv_goto (tgt := 42) hx hb dX12_paint_80 (by decide) ?_
                                                                                                                                                                                    refine lv_iload_n hx hb dX12_paint_42 rfl (lv_at hl 0 rfl) ?_
                                                                                                                                                                                    refine lv_bipush (v := 40) hx hb dX12_paint_43 (by decide) ?_
                                                                                                                                                                                    refine lv_icmp_ge (tgt := 83) hx hb dX12_paint_45 (by decide) (fun c656 => ?_) (fun c656 => ?_)
                                                                                                                                                                                    · refine lv_aload_n hx hb dX12_paint_83 rfl (lv_at hl 1 rfl) ?_
                                                                                                                                                                                      refine va_get (D := D) (ci := 12) (v := .int 0) (C := RX12) (T := TX12) (N := 24) hx hb hts hin12 hown hK hP 14 rfl rfl 0 (by decide) (hts (.fieldLink RX12 63 "MissedPointsModel" "many" "I") (by decide +kernel)) (fun _ h9 => h9) rfl dX12_paint_84 ?_
                                                                                                                                                                                      have hP9 := hP.sub (ws' := []) [] rfl
                                                                                                                                                                                      have hD9 := hD.sub (ws' := []) [] (by decide) rfl
                                                                                                                                                                                      subst hAe
                                                                                                                                                                                      exact W.iret (v := 0) hx hb hr (fun t ht hW => ⟨⟨_, (), rfl, by rw [if_neg k315, if_neg k317, if_neg k321, if_neg k323], by rw [ht]; exact hP9, hD9⟩, hS.F ht⟩) hS.2.2 dX12_paint_87
                                                                                                                                                                                    · exact absurd c656 (by decide)
                                                                                                                                                                                  · exact absurd c655 (by decide)
                                                                                                                                                                              · exact absurd c653 (by decide)
                                                                                                                                                                          · exact absurd c651 (by decide)
                                                                                                                                                                      · exact absurd c649 (by decide)
                                                                                                                                                                  · exact absurd c647 (by decide)
                                                                                                                                                              · exact absurd c645 (by decide)
                                                                                                                                                          · exact absurd c643 (by decide)
                                                                                                                                                      · exact absurd c641 (by decide)
                                                                                                                                                  · exact absurd c639 (by decide)
                                                                                                                                              · exact absurd c637 (by decide)
                                                                                                                                          · exact absurd c635 (by decide)
                                                                                                                                      · exact absurd c633 (by decide)
                                                                                                                                  · exact absurd c631 (by decide)
                                                                                                                              · exact absurd c629 (by decide)
                                                                                                                          · exact absurd c627 (by decide)
                                                                                                                      · exact absurd c625 (by decide)
                                                                                                                  · exact absurd c623 (by decide)
                                                                                                              · exact absurd c621 (by decide)
                                                                                                          · exact absurd c619 (by decide)
                                                                                                      · exact absurd c617 (by decide)
                                                                                                  · exact absurd c615 (by decide)
                                                                                              · exact absurd c613 (by decide)
                                                                                          · exact absurd c611 (by decide)
                                                                                      · exact absurd c609 (by decide)
                                                                                  · exact absurd c607 (by decide)
                                                                              · exact absurd c605 (by decide)
                                                                          · exact absurd c603 (by decide)
                                                                      · exact absurd c601 (by decide)
                                                                  · exact absurd c599 (by decide)
                                                              · exact absurd c597 (by decide)
                                                          · exact absurd c595 (by decide)
                                                      · exact absurd c593 (by decide)
                                                  · exact absurd c591 (by decide)
                                              · exact absurd c589 (by decide)
                                          · exact absurd c587 (by decide)
                                      · exact absurd c585 (by decide)
                                  · exact absurd c583 (by decide)
                              · exact absurd c581 (by decide)
                          · exact absurd c579 (by decide)
                      · exact absurd c577 (by decide)
            · exact absurd c325 (by decide)
