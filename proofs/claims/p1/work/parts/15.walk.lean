set_option maxRecDepth 20000 in
theorem ggX12_sheet_X12_in : GoodIn wsX12_sheet wsX12_in := goodIn_r _ [10] (by decide +kernel) (by decide +kernel)
set_option maxRecDepth 20000 in
theorem gX12_sheet_X12_in : GoodIn wsX12_sheet (va_wsS RX12 66 yX12_in wsX12_in) := goodIn_app (goodIn_of _ (by decide +kernel)) ggX12_sheet_X12_in
set_option maxRecDepth 20000 in
theorem ggX12_sheet_X12_isSheet : GoodIn wsX12_sheet wsX12_isSheet := goodIn_r _ [7, 8, 9, 6, 10] (by decide +kernel) (by decide +kernel)
set_option maxRecDepth 20000 in
theorem gX12_sheet_X12_isSheet : GoodIn wsX12_sheet (va_wsS RX12 157 yX12_isSheet wsX12_isSheet) := goodIn_app (goodIn_of _ (by decide +kernel)) ggX12_sheet_X12_isSheet
theorem dX12_sheet_0 : decode cX12_sheet 0 = .ok (.iload_n 1, 1) := by decide +kernel
theorem dX12_sheet_1 : decode cX12_sheet 1 = .ok (.invokestatic 157, 3) := by decide +kernel
theorem dX12_sheet_10 : decode cX12_sheet 10 = .ok (.invokestatic 66, 3) := by decide +kernel
theorem dX12_sheet_13 : decode cX12_sheet 13 = .ok (.ifCond .eq 14, 3) := by decide +kernel
theorem dX12_sheet_16 : decode cX12_sheet 16 = .ok (.iload_n 2, 1) := by decide +kernel
theorem dX12_sheet_17 : decode cX12_sheet 17 = .ok (.iconst (-1), 1) := by decide +kernel
theorem dX12_sheet_18 : decode cX12_sheet 18 = .ok (.if_icmp .eq 12, 3) := by decide +kernel
theorem dX12_sheet_21 : decode cX12_sheet 21 = .ok (.iload_n 3, 1) := by decide +kernel
theorem dX12_sheet_22 : decode cX12_sheet 22 = .ok (.bipush 40, 2) := by decide +kernel
theorem dX12_sheet_24 : decode cX12_sheet 24 = .ok (.if_icmp .le 6, 3) := by decide +kernel
theorem dX12_sheet_27 : decode cX12_sheet 27 = .ok (.bipush (-2), 2) := by decide +kernel
theorem dX12_sheet_29 : decode cX12_sheet 29 = .ok (.ireturn, 1) := by decide +kernel
theorem dX12_sheet_30 : decode cX12_sheet 30 = .ok (.iload_n 2, 1) := by decide +kernel
theorem dX12_sheet_31 : decode cX12_sheet 31 = .ok (.iconst (-1), 1) := by decide +kernel
theorem dX12_sheet_32 : decode cX12_sheet 32 = .ok (.if_icmp .eq 10, 3) := by decide +kernel
theorem dX12_sheet_35 : decode cX12_sheet 35 = .ok (.iload_n 3, 1) := by decide +kernel
theorem dX12_sheet_36 : decode cX12_sheet 36 = .ok (.ifCond .ge 6, 3) := by decide +kernel
theorem dX12_sheet_39 : decode cX12_sheet 39 = .ok (.bipush (-14), 2) := by decide +kernel
theorem dX12_sheet_4 : decode cX12_sheet 4 = .ok (.ifCond .eq 23, 3) := by decide +kernel
theorem dX12_sheet_41 : decode cX12_sheet 41 = .ok (.ireturn, 1) := by decide +kernel
theorem dX12_sheet_42 : decode cX12_sheet 42 = .ok (.aload_n 0, 1) := by decide +kernel
theorem dX12_sheet_43 : decode cX12_sheet 43 = .ok (.getfield 38, 3) := by decide +kernel
theorem dX12_sheet_46 : decode cX12_sheet 46 = .ok (.iload_n 1, 1) := by decide +kernel
theorem dX12_sheet_47 : decode cX12_sheet 47 = .ok (.iload_n 2, 1) := by decide +kernel
theorem dX12_sheet_48 : decode cX12_sheet 48 = .ok (.iastore, 1) := by decide +kernel
theorem dX12_sheet_49 : decode cX12_sheet 49 = .ok (.aload_n 0, 1) := by decide +kernel
theorem dX12_sheet_50 : decode cX12_sheet 50 = .ok (.getfield 41, 3) := by decide +kernel
theorem dX12_sheet_53 : decode cX12_sheet 53 = .ok (.iload_n 1, 1) := by decide +kernel
theorem dX12_sheet_54 : decode cX12_sheet 54 = .ok (.iload_n 2, 1) := by decide +kernel
theorem dX12_sheet_55 : decode cX12_sheet 55 = .ok (.iconst (-1), 1) := by decide +kernel
theorem dX12_sheet_56 : decode cX12_sheet 56 = .ok (.if_icmp .ne 7, 3) := by decide +kernel
theorem dX12_sheet_59 : decode cX12_sheet 59 = .ok (.iconst 0, 1) := by decide +kernel
theorem dX12_sheet_60 : decode cX12_sheet 60 = .ok (.goto 4, 3) := by decide +kernel
theorem dX12_sheet_63 : decode cX12_sheet 63 = .ok (.iload_n 3, 1) := by decide +kernel
theorem dX12_sheet_64 : decode cX12_sheet 64 = .ok (.iastore, 1) := by decide +kernel
theorem dX12_sheet_65 : decode cX12_sheet 65 = .ok (.iconst 0, 1) := by decide +kernel
theorem dX12_sheet_66 : decode cX12_sheet 66 = .ok (.istore 4, 2) := by decide +kernel
theorem dX12_sheet_68 : decode cX12_sheet 68 = .ok (.iload 4, 2) := by decide +kernel
theorem dX12_sheet_7 : decode cX12_sheet 7 = .ok (.iload_n 2, 1) := by decide +kernel
theorem dX12_sheet_70 : decode cX12_sheet 70 = .ok (.bipush 40, 2) := by decide +kernel
theorem dX12_sheet_72 : decode cX12_sheet 72 = .ok (.if_icmp .ge 22, 3) := by decide +kernel
theorem dX12_sheet_75 : decode cX12_sheet 75 = .ok (.aload_n 0, 1) := by decide +kernel
theorem dX12_sheet_76 : decode cX12_sheet 76 = .ok (.getfield 44, 3) := by decide +kernel
theorem dX12_sheet_79 : decode cX12_sheet 79 = .ok (.bipush 40, 2) := by decide +kernel
theorem dX12_sheet_8 : decode cX12_sheet 8 = .ok (.iconst (-1), 1) := by decide +kernel
theorem dX12_sheet_81 : decode cX12_sheet 81 = .ok (.iload_n 1, 1) := by decide +kernel
theorem dX12_sheet_82 : decode cX12_sheet 82 = .ok (.imul, 1) := by decide +kernel
theorem dX12_sheet_83 : decode cX12_sheet 83 = .ok (.iload 4, 2) := by decide +kernel
theorem dX12_sheet_85 : decode cX12_sheet 85 = .ok (.iadd, 1) := by decide +kernel
theorem dX12_sheet_86 : decode cX12_sheet 86 = .ok (.iconst 0, 1) := by decide +kernel
theorem dX12_sheet_87 : decode cX12_sheet 87 = .ok (.iastore, 1) := by decide +kernel
theorem dX12_sheet_88 : decode cX12_sheet 88 = .ok (.iinc 4 1, 3) := by decide +kernel
theorem dX12_sheet_9 : decode cX12_sheet 9 = .ok (.iconst 1, 1) := by decide +kernel
theorem dX12_sheet_91 : decode cX12_sheet 91 = .ok (.goto (-23), 3) := by decide +kernel
theorem dX12_sheet_94 : decode cX12_sheet 94 = .ok (.iconst 1, 1) := by decide +kernel
theorem dX12_sheet_95 : decode cX12_sheet 95 = .ok (.ireturn, 1) := by decide +kernel
set_option maxHeartbeats 4000000 in
set_option maxRecDepth 100000 in
theorem c_X12_sheet_0 (l : Launch) (D : va_G) (cI cS : ClassId) (sz : Nat) (h0 h1 h2 h3 h4 h5 h6 h7 h8 h9 h10 h11 h12 h13 h14 h15 : Nat) (x0 x1 x2 : Int32) : Met l yX12_sheet wsX12_sheet ({ frames := 2, cells := 0, slots := 0, locals := 80 }) (PQ D cI cS [(h0, .inr (12, [.int 0, .int 1, .ref h1, .ref h2, .ref h3, .ref h4, .ref h5, .ref h6, .ref h7, .ref h8, .int 0, .int 0, .int 0, .int 0, .int 0, .int 0, .ref h9, .ref h10, .ref h11, .ref h12, .ref h13, .ref h14, .ref h15, .int 0])), (h9, .inl (cI, 4, .inl (fun _ => -1))), (h10, .inl (cI, 4, .inl (fun _ => 0))), (h11, .inl (cI, 160, .inl (fun _ => 0)))] sz [.ref h0, .int x0, .int x1, .int x2]) (QI D [(h0, .inr (12, [.int 0, .int 1, .ref h1, .ref h2, .ref h3, .ref h4, .ref h5, .ref h6, .ref h7, .ref h8, .int 0, .int 0, .int 0, .int 0, .int 0, .int 0, .ref h9, .ref h10, .ref h11, .ref h12, .ref h13, .ref h14, .ref h15, .int 0])), (h9, .inl (cI, 4, .inl (fun _ => -1))), (h10, .inl (cI, 4, .inl (fun _ => 0))), (h11, .inl (cI, 160, .inl (fun _ => 0)))] [] sz (fun r => r = if x0 < 0 then ((-2) : Int32) else (if (3 : Int32) < x0 then ((-2) : Int32) else (if x1 < (-1) then ((-2) : Int32) else (if (1 : Int32) < x1 then ((-2) : Int32) else (if x1 = (-1) then (1 : Int32) else (if x2 ≤ 40 then (if (0 : Int32) ≤ x2 then (1 : Int32) else ((-14) : Int32)) else ((-2) : Int32)))))))) 0 0 (va_A [(h0, .inr (12, [.int 0, .int 1, .ref h1, .ref h2, .ref h3, .ref h4, .ref h5, .ref h6, .ref h7, .ref h8, .int 0, .int 0, .int 0, .int 0, .int 0, .int 0, .ref h9, .ref h10, .ref h11, .ref h12, .ref h13, .ref h14, .ref h15, .int 0])), (h9, .inl (cI, 4, .inl (fun _ => -1))), (h10, .inl (cI, 4, .inl (fun _ => 0))), (h11, .inl (cI, 160, .inl (fun _ => 0)))] sz) := by
  refine Met.ofW (cc := cX12_sheet) (maxL := 5) (ret := (some .int)) (by decide) rfl ?_
  intro p e s m args below meth c s₁ B hml hv
  obtain ⟨rfl, hsz, hP, hKK, hD0⟩ := hv
  have hx := B.exec
  have hb := B.bytes
  have hr := B.returns
  have hts := atoms_spec (ws := wsX12_sheet) B.pre
  have hown : s.vm.findClass RX12 = some m.cls := findClass_of_methodNamed B.named
  have hlocks := B.notSynchronized
  have hK := hKK.1
  have hN := hKK.2
  have hin12 : ∀ w ∈ wsX120, w ∈ wsX12_sheet := by decide +kernel
  subst hsz
  have hD := hD0.self (sz := s.heap.size)
  obtain ⟨A, hAe⟩ : ∃ A, A = va_A [(h0, .inr (12, [.int 0, .int 1, .ref h1, .ref h2, .ref h3, .ref h4, .ref h5, .ref h6, .ref h7, .ref h8, .int 0, .int 0, .int 0, .int 0, .int 0, .int 0, .ref h9, .ref h10, .ref h11, .ref h12, .ref h13, .ref h14, .ref h15, .int 0])), (h9, .inl (cI, 4, .inl (fun _ => -1))), (h10, .inl (cI, 4, .inl (fun _ => 0))), (h11, .inl (cI, 160, .inl (fun _ => 0)))] s.heap.size := ⟨_, rfl⟩
  rw [← hAe] at hD
  have hA : ∀ q : Nat, s.heap.size ≤ q → A q := fun q h => by rw [hAe]; exact Or.inr h
  have hS : va_S A s.heap s.heap [] := va_S.rf
  have hl := lv_entry ([.ref h0, .int x0, .int x1, .int x2]) (n := 5) (Nat.le_of_ble_eq_true rfl)
  rw [lg_entry_eq]
  generalize (lg_sl ([.ref h0, .int x0, .int x1, .int x2]) ++ List.replicate (5 - (lg_sl ([.ref h0, .int x0, .int x1, .int x2])).length) Slot.unset).toArray = ls at hl ⊢
  have hl : lv_has ls 5 [(0, .ref h0), (1, .int x0), (2, .int x1), (3, .int x2)] := hl
  refine lv_iload_n hx hb dX12_sheet_0 rfl (lv_at hl 1 rfl) ?_
  have hPc := hP.sub (ws' := []) [] rfl
  refine lz_ss (As := [.int x0]) (rest := []) ⟨hx, hb, hml, hown, hts⟩ (c_X12_isSheet_0 l D cI cS x0) hKK hPc (va_cwS 1 hts gX12_sheet_X12_isSheet rfl rfl rfl (by decide +kernel) ⟨Nat.le_of_ble_eq_true rfl, Nat.le_of_ble_eq_true rfl⟩) rfl hl.1 rfl (Nat.le_of_ble_eq_true rfl) dX12_sheet_1 ⟨Nat.le_of_ble_eq_true rfl, Nat.le_of_ble_eq_true rfl⟩ (fun r866 hw => ?_)
  by_cases k867 : x0 < 0
  · rw [if_pos k867] at hw
    subst hw
    refine lv_if_eq (tgt := 27) hx hb dX12_sheet_4 (by decide) (fun c868 => ?_) (fun c868 => ?_)
    · refine lv_bipush (v := (-2)) hx hb dX12_sheet_27 (by decide) ?_
      have hP9 := hP.sub (ws' := []) [] rfl
      have hD9 := hD.sub (ws' := []) [] (by decide) rfl
      subst hAe
      exact W.iret (v := (-2)) hx hb hr (fun t ht hW => ⟨⟨_, (), rfl, by rw [if_pos k867], by rw [ht]; exact hP9, hD9⟩, hS.F ht⟩) hS.2.2 dX12_sheet_29
    · exact absurd c868 (by decide)
  · rw [if_neg k867] at hw
    by_cases k869 : (3 : Int32) < x0
    · rw [if_pos k869] at hw
      subst hw
      refine lv_if_eq (tgt := 27) hx hb dX12_sheet_4 (by decide) (fun c870 => ?_) (fun c870 => ?_)
      · refine lv_bipush (v := (-2)) hx hb dX12_sheet_27 (by decide) ?_
        have hP9 := hP.sub (ws' := []) [] rfl
        have hD9 := hD.sub (ws' := []) [] (by decide) rfl
        subst hAe
        exact W.iret (v := (-2)) hx hb hr (fun t ht hW => ⟨⟨_, (), rfl, by rw [if_neg k867, if_pos k869], by rw [ht]; exact hP9, hD9⟩, hS.F ht⟩) hS.2.2 dX12_sheet_29
      · exact absurd c870 (by decide)
    · rw [if_neg k869] at hw
      subst hw
      refine lv_if_eq (tgt := 27) hx hb dX12_sheet_4 (by decide) (fun c871 => ?_) (fun c871 => ?_)
      · exact absurd c871 (by decide)
      · refine lv_iload_n hx hb dX12_sheet_7 rfl (lv_at hl 2 rfl) ?_
        refine lv_iconst (v := (-1)) hx hb dX12_sheet_8 (by decide) ?_
        refine lv_iconst (v := 1) hx hb dX12_sheet_9 (by decide) ?_
        have hPc := hP.sub (ws' := []) [] rfl
        refine lz_ss (As := [.int x1, .int (-1), .int 1]) (rest := []) ⟨hx, hb, hml, hown, hts⟩ (c_X12_in_13 l D cI cS x1) hKK hPc (va_cwS 3 hts gX12_sheet_X12_in rfl rfl rfl (by decide +kernel) ⟨Nat.le_of_ble_eq_true rfl, Nat.le_of_ble_eq_true rfl⟩) rfl hl.1 rfl (Nat.le_of_ble_eq_true rfl) dX12_sheet_10 ⟨Nat.le_of_ble_eq_true rfl, Nat.le_of_ble_eq_true rfl⟩ (fun r874 hw => ?_)
        by_cases k875 : x1 < (-1)
        · rw [if_pos k875] at hw
          subst hw
          refine lv_if_eq (tgt := 27) hx hb dX12_sheet_13 (by decide) (fun c876 => ?_) (fun c876 => ?_)
          · refine lv_bipush (v := (-2)) hx hb dX12_sheet_27 (by decide) ?_
            have hP9 := hP.sub (ws' := []) [] rfl
            have hD9 := hD.sub (ws' := []) [] (by decide) rfl
            subst hAe
            exact W.iret (v := (-2)) hx hb hr (fun t ht hW => ⟨⟨_, (), rfl, by rw [if_neg k867, if_neg k869, if_pos k875], by rw [ht]; exact hP9, hD9⟩, hS.F ht⟩) hS.2.2 dX12_sheet_29
          · exact absurd c876 (by decide)
        · rw [if_neg k875] at hw
          by_cases k877 : (1 : Int32) < x1
          · rw [if_pos k877] at hw
            subst hw
            refine lv_if_eq (tgt := 27) hx hb dX12_sheet_13 (by decide) (fun c878 => ?_) (fun c878 => ?_)
            · refine lv_bipush (v := (-2)) hx hb dX12_sheet_27 (by decide) ?_
              have hP9 := hP.sub (ws' := []) [] rfl
              have hD9 := hD.sub (ws' := []) [] (by decide) rfl
              subst hAe
              exact W.iret (v := (-2)) hx hb hr (fun t ht hW => ⟨⟨_, (), rfl, by rw [if_neg k867, if_neg k869, if_neg k875, if_pos k877], by rw [ht]; exact hP9, hD9⟩, hS.F ht⟩) hS.2.2 dX12_sheet_29
            · exact absurd c878 (by decide)
          · rw [if_neg k877] at hw
            subst hw
            refine lv_if_eq (tgt := 27) hx hb dX12_sheet_13 (by decide) (fun c879 => ?_) (fun c879 => ?_)
            · exact absurd c879 (by decide)
            · refine lv_iload_n hx hb dX12_sheet_16 rfl (lv_at hl 2 rfl) ?_
              refine lv_iconst (v := (-1)) hx hb dX12_sheet_17 (by decide) ?_
              refine lv_icmp_eq (tgt := 30) hx hb dX12_sheet_18 (by decide) (fun c880 => ?_) (fun c880 => ?_)
              · subst c880
                refine lv_iload_n hx hb dX12_sheet_30 rfl (lv_at hl 2 rfl) ?_
                refine lv_iconst (v := (-1)) hx hb dX12_sheet_31 (by decide) ?_
                refine lv_icmp_eq (tgt := 42) hx hb dX12_sheet_32 (by decide) (fun c881 => ?_) (fun c881 => ?_)
                · by_cases k882 : x0 = 0
                  · subst k882
                    refine lv_aload_n hx hb dX12_sheet_42 rfl (lv_at hl 0 rfl) ?_
                    refine va_get (D := D) (ci := 12) (v := .ref h9) (C := RX12) (T := TX12) (N := 24) hx hb hts hin12 hown hK hP 0 rfl rfl 16 (by decide) (hts (.fieldLink RX12 38 "MissedPointsModel" "sort" "[I") (by decide +kernel)) (fun _ h9 => h9) rfl dX12_sheet_43 ?_
                    refine lv_iload_n hx hb dX12_sheet_46 rfl (lv_at hl 1 rfl) ?_
                    refine lv_iload_n hx hb dX12_sheet_47 rfl (lv_at hl 2 rfl) ?_
                    refine lz_astc hx hb hK hP hD hS 9 0 rfl rfl (lz_vp (x := 0) (n := 4) (by decide) (by decide)) dX12_sheet_48 (fun H locs hP hD hS => ?_)
                    refine lv_aload_n hx hb dX12_sheet_49 rfl (lv_at hl 0 rfl) ?_
                    refine va_get (D := D) (ci := 12) (v := .ref h10) (C := RX12) (T := TX12) (N := 24) hx hb hts hin12 hown hK hP 0 rfl rfl 17 (by decide) (hts (.fieldLink RX12 41 "MissedPointsModel" "size" "[I") (by decide +kernel)) (fun _ h9 => h9) rfl dX12_sheet_50 ?_
                    refine lv_iload_n hx hb dX12_sheet_53 rfl (lv_at hl 1 rfl) ?_
                    refine lv_iload_n hx hb dX12_sheet_54 rfl (lv_at hl 2 rfl) ?_
                    refine lv_iconst (v := (-1)) hx hb dX12_sheet_55 (by decide) ?_
                    refine lv_icmp_ne (tgt := 63) hx hb dX12_sheet_56 (by decide) (fun c883 => ?_) (fun c883 => ?_)
                    · exact absurd c883 (by decide)
                    · refine lv_iconst (v := 0) hx hb dX12_sheet_59 (by decide) ?_
                      refine lv_goto (tgt := 64) hx hb dX12_sheet_60 (by decide) ?_
                      refine lz_astc hx hb hK hP hD hS 10 0 rfl rfl (lz_vp (x := 0) (n := 4) (by decide) (by decide)) dX12_sheet_64 (fun H locs hP hD hS => ?_)
                      refine lv_iconst (v := 0) hx hb dX12_sheet_65 (by decide) ?_
                      refine lv_istore (lv' := [(4, .int 0), (0, .ref h0), (1, .int 0), (2, .int (-1)), (3, .int x2)]) hx hb dX12_sheet_66 hl (by decide) rfl (fun ls hl => ?_)
                      refine lv_iload hx hb dX12_sheet_68 (lv_at hl 0 rfl) ?_
                      refine lv_bipush (v := 40) hx hb dX12_sheet_70 (by decide) ?_
                      refine lv_icmp_ge (tgt := 94) hx hb dX12_sheet_72 (by decide) (fun c884 => ?_) (fun c884 => ?_)
                      · exact absurd c884 (by decide)
                      · refine lv_aload_n hx hb dX12_sheet_75 rfl (lv_at hl 1 rfl) ?_
                        refine va_get (D := D) (ci := 12) (v := .ref h11) (C := RX12) (T := TX12) (N := 24) hx hb hts hin12 hown hK hP 0 rfl rfl 18 (by decide) (hts (.fieldLink RX12 44 "MissedPointsModel" "items" "[I") (by decide +kernel)) (fun _ h9 => h9) rfl dX12_sheet_76 ?_
                        refine lv_bipush (v := 40) hx hb dX12_sheet_79 (by decide) ?_
                        refine lv_iload_n hx hb dX12_sheet_81 rfl (lv_at hl 2 rfl) ?_
                        refine lv_imul hx hb dX12_sheet_82 ?_
                        refine lz_top (y := 0) (by decide) ?_
                        refine lv_iload hx hb dX12_sheet_83 (lv_at hl 0 rfl) ?_
                        refine lv_iadd hx hb dX12_sheet_85 ?_
                        refine lz_top (y := 0) (by decide) ?_
                        refine lv_iconst (v := 0) hx hb dX12_sheet_86 (by decide) ?_
                        refine lz_astc hx hb hK hP hD hS 11 0 rfl rfl (lz_vp (x := 0) (n := 160) (by decide) (by decide)) dX12_sheet_87 (fun H locs hP hD hS => ?_)
                        refine lv_iinc (v := 1) (lv' := [(4, .int 1), (0, .ref h0), (1, .int 0), (2, .int (-1)), (3, .int x2)]) hx hb dX12_sheet_88 hl (k := 0) rfl (by decide) (by decide) rfl (fun ls hl => ?_)
                        refine lv_goto (tgt := 68) hx hb dX12_sheet_91 (by decide) ?_
                        refine lv_iload hx hb dX12_sheet_68 (lv_at hl 0 rfl) ?_
                        refine lv_bipush (v := 40) hx hb dX12_sheet_70 (by decide) ?_
                        refine lv_icmp_ge (tgt := 94) hx hb dX12_sheet_72 (by decide) (fun c885 => ?_) (fun c885 => ?_)
                        · exact absurd c885 (by decide)
                        · refine lv_aload_n hx hb dX12_sheet_75 rfl (lv_at hl 1 rfl) ?_
                          refine va_get (D := D) (ci := 12) (v := .ref h11) (C := RX12) (T := TX12) (N := 24) hx hb hts hin12 hown hK hP 0 rfl rfl 18 (by decide) (hts (.fieldLink RX12 44 "MissedPointsModel" "items" "[I") (by decide +kernel)) (fun _ h9 => h9) rfl dX12_sheet_76 ?_
                          refine lv_bipush (v := 40) hx hb dX12_sheet_79 (by decide) ?_
                          refine lv_iload_n hx hb dX12_sheet_81 rfl (lv_at hl 2 rfl) ?_
                          refine lv_imul hx hb dX12_sheet_82 ?_
                          refine lz_top (y := 0) (by decide) ?_
                          refine lv_iload hx hb dX12_sheet_83 (lv_at hl 0 rfl) ?_
                          refine lv_iadd hx hb dX12_sheet_85 ?_
                          refine lz_top (y := 1) (by decide) ?_
                          refine lv_iconst (v := 0) hx hb dX12_sheet_86 (by decide) ?_
                          refine lz_astc hx hb hK hP hD hS 11 0 rfl rfl (lz_vp (x := 1) (n := 160) (by decide) (by decide)) dX12_sheet_87 (fun H locs hP hD hS => ?_)
                          refine lv_iinc (v := 2) (lv' := [(4, .int 2), (0, .ref h0), (1, .int 0), (2, .int (-1)), (3, .int x2)]) hx hb dX12_sheet_88 hl (k := 0) rfl (by decide) (by decide) rfl (fun ls hl => ?_)
                          refine lv_goto (tgt := 68) hx hb dX12_sheet_91 (by decide) ?_
                          refine lv_iload hx hb dX12_sheet_68 (lv_at hl 0 rfl) ?_
                          refine lv_bipush (v := 40) hx hb dX12_sheet_70 (by decide) ?_
                          refine lv_icmp_ge (tgt := 94) hx hb dX12_sheet_72 (by decide) (fun c886 => ?_) (fun c886 => ?_)
                          · exact absurd c886 (by decide)
                          · refine lv_aload_n hx hb dX12_sheet_75 rfl (lv_at hl 1 rfl) ?_
                            refine va_get (D := D) (ci := 12) (v := .ref h11) (C := RX12) (T := TX12) (N := 24) hx hb hts hin12 hown hK hP 0 rfl rfl 18 (by decide) (hts (.fieldLink RX12 44 "MissedPointsModel" "items" "[I") (by decide +kernel)) (fun _ h9 => h9) rfl dX12_sheet_76 ?_
                            refine lv_bipush (v := 40) hx hb dX12_sheet_79 (by decide) ?_
                            refine lv_iload_n hx hb dX12_sheet_81 rfl (lv_at hl 2 rfl) ?_
                            refine lv_imul hx hb dX12_sheet_82 ?_
                            refine lz_top (y := 0) (by decide) ?_
                            refine lv_iload hx hb dX12_sheet_83 (lv_at hl 0 rfl) ?_
                            refine lv_iadd hx hb dX12_sheet_85 ?_
                            refine lz_top (y := 2) (by decide) ?_
                            refine lv_iconst (v := 0) hx hb dX12_sheet_86 (by decide) ?_
                            refine lz_astc hx hb hK hP hD hS 11 0 rfl rfl (lz_vp (x := 2) (n := 160) (by decide) (by decide)) dX12_sheet_87 (fun H locs hP hD hS => ?_)
                            refine lv_iinc (v := 3) (lv' := [(4, .int 3), (0, .ref h0), (1, .int 0), (2, .int (-1)), (3, .int x2)]) hx hb dX12_sheet_88 hl (k := 0) rfl (by decide) (by decide) rfl (fun ls hl => ?_)
                            refine lv_goto (tgt := 68) hx hb dX12_sheet_91 (by decide) ?_
                            refine lv_iload hx hb dX12_sheet_68 (lv_at hl 0 rfl) ?_
                            refine lv_bipush (v := 40) hx hb dX12_sheet_70 (by decide) ?_
                            refine lv_icmp_ge (tgt := 94) hx hb dX12_sheet_72 (by decide) (fun c887 => ?_) (fun c887 => ?_)
                            · exact absurd c887 (by decide)
                            · refine lv_aload_n hx hb dX12_sheet_75 rfl (lv_at hl 1 rfl) ?_
                              refine va_get (D := D) (ci := 12) (v := .ref h11) (C := RX12) (T := TX12) (N := 24) hx hb hts hin12 hown hK hP 0 rfl rfl 18 (by decide) (hts (.fieldLink RX12 44 "MissedPointsModel" "items" "[I") (by decide +kernel)) (fun _ h9 => h9) rfl dX12_sheet_76 ?_
                              refine lv_bipush (v := 40) hx hb dX12_sheet_79 (by decide) ?_
                              refine lv_iload_n hx hb dX12_sheet_81 rfl (lv_at hl 2 rfl) ?_
                              refine lv_imul hx hb dX12_sheet_82 ?_
                              refine lz_top (y := 0) (by decide) ?_
                              refine lv_iload hx hb dX12_sheet_83 (lv_at hl 0 rfl) ?_
                              refine lv_iadd hx hb dX12_sheet_85 ?_
                              refine lz_top (y := 3) (by decide) ?_
                              refine lv_iconst (v := 0) hx hb dX12_sheet_86 (by decide) ?_
                              refine lz_astc hx hb hK hP hD hS 11 0 rfl rfl (lz_vp (x := 3) (n := 160) (by decide) (by decide)) dX12_sheet_87 (fun H locs hP hD hS => ?_)
                              refine lv_iinc (v := 4) (lv' := [(4, .int 4), (0, .ref h0), (1, .int 0), (2, .int (-1)), (3, .int x2)]) hx hb dX12_sheet_88 hl (k := 0) rfl (by decide) (by decide) rfl (fun ls hl => ?_)
                              refine lv_goto (tgt := 68) hx hb dX12_sheet_91 (by decide) ?_
                              refine lv_iload hx hb dX12_sheet_68 (lv_at hl 0 rfl) ?_
                              refine lv_bipush (v := 40) hx hb dX12_sheet_70 (by decide) ?_
                              refine lv_icmp_ge (tgt := 94) hx hb dX12_sheet_72 (by decide) (fun c888 => ?_) (fun c888 => ?_)
                              · exact absurd c888 (by decide)
                              · refine lv_aload_n hx hb dX12_sheet_75 rfl (lv_at hl 1 rfl) ?_
                                refine va_get (D := D) (ci := 12) (v := .ref h11) (C := RX12) (T := TX12) (N := 24) hx hb hts hin12 hown hK hP 0 rfl rfl 18 (by decide) (hts (.fieldLink RX12 44 "MissedPointsModel" "items" "[I") (by decide +kernel)) (fun _ h9 => h9) rfl dX12_sheet_76 ?_
                                refine lv_bipush (v := 40) hx hb dX12_sheet_79 (by decide) ?_
                                refine lv_iload_n hx hb dX12_sheet_81 rfl (lv_at hl 2 rfl) ?_
                                refine lv_imul hx hb dX12_sheet_82 ?_
                                refine lz_top (y := 0) (by decide) ?_
                                refine lv_iload hx hb dX12_sheet_83 (lv_at hl 0 rfl) ?_
                                refine lv_iadd hx hb dX12_sheet_85 ?_
                                refine lz_top (y := 4) (by decide) ?_
                                refine lv_iconst (v := 0) hx hb dX12_sheet_86 (by decide) ?_
                                refine lz_astc hx hb hK hP hD hS 11 0 rfl rfl (lz_vp (x := 4) (n := 160) (by decide) (by decide)) dX12_sheet_87 (fun H locs hP hD hS => ?_)
                                refine lv_iinc (v := 5) (lv' := [(4, .int 5), (0, .ref h0), (1, .int 0), (2, .int (-1)), (3, .int x2)]) hx hb dX12_sheet_88 hl (k := 0) rfl (by decide) (by decide) rfl (fun ls hl => ?_)
                                refine lv_goto (tgt := 68) hx hb dX12_sheet_91 (by decide) ?_
                                refine lv_iload hx hb dX12_sheet_68 (lv_at hl 0 rfl) ?_
                                refine lv_bipush (v := 40) hx hb dX12_sheet_70 (by decide) ?_
                                refine lv_icmp_ge (tgt := 94) hx hb dX12_sheet_72 (by decide) (fun c889 => ?_) (fun c889 => ?_)
                                · exact absurd c889 (by decide)
                                · refine lv_aload_n hx hb dX12_sheet_75 rfl (lv_at hl 1 rfl) ?_
                                  refine va_get (D := D) (ci := 12) (v := .ref h11) (C := RX12) (T := TX12) (N := 24) hx hb hts hin12 hown hK hP 0 rfl rfl 18 (by decide) (hts (.fieldLink RX12 44 "MissedPointsModel" "items" "[I") (by decide +kernel)) (fun _ h9 => h9) rfl dX12_sheet_76 ?_
                                  refine lv_bipush (v := 40) hx hb dX12_sheet_79 (by decide) ?_
                                  refine lv_iload_n hx hb dX12_sheet_81 rfl (lv_at hl 2 rfl) ?_
                                  refine lv_imul hx hb dX12_sheet_82 ?_
                                  refine lz_top (y := 0) (by decide) ?_
                                  refine lv_iload hx hb dX12_sheet_83 (lv_at hl 0 rfl) ?_
                                  refine lv_iadd hx hb dX12_sheet_85 ?_
                                  refine lz_top (y := 5) (by decide) ?_
                                  refine lv_iconst (v := 0) hx hb dX12_sheet_86 (by decide) ?_
                                  refine lz_astc hx hb hK hP hD hS 11 0 rfl rfl (lz_vp (x := 5) (n := 160) (by decide) (by decide)) dX12_sheet_87 (fun H locs hP hD hS => ?_)
                                  refine lv_iinc (v := 6) (lv' := [(4, .int 6), (0, .ref h0), (1, .int 0), (2, .int (-1)), (3, .int x2)]) hx hb dX12_sheet_88 hl (k := 0) rfl (by decide) (by decide) rfl (fun ls hl => ?_)
                                  refine lv_goto (tgt := 68) hx hb dX12_sheet_91 (by decide) ?_
                                  refine lv_iload hx hb dX12_sheet_68 (lv_at hl 0 rfl) ?_
                                  refine lv_bipush (v := 40) hx hb dX12_sheet_70 (by decide) ?_
                                  refine lv_icmp_ge (tgt := 94) hx hb dX12_sheet_72 (by decide) (fun c890 => ?_) (fun c890 => ?_)
                                  · exact absurd c890 (by decide)
                                  · refine lv_aload_n hx hb dX12_sheet_75 rfl (lv_at hl 1 rfl) ?_
                                    refine va_get (D := D) (ci := 12) (v := .ref h11) (C := RX12) (T := TX12) (N := 24) hx hb hts hin12 hown hK hP 0 rfl rfl 18 (by decide) (hts (.fieldLink RX12 44 "MissedPointsModel" "items" "[I") (by decide +kernel)) (fun _ h9 => h9) rfl dX12_sheet_76 ?_
                                    refine lv_bipush (v := 40) hx hb dX12_sheet_79 (by decide) ?_
                                    refine lv_iload_n hx hb dX12_sheet_81 rfl (lv_at hl 2 rfl) ?_
                                    refine lv_imul hx hb dX12_sheet_82 ?_
                                    refine lz_top (y := 0) (by decide) ?_
                                    refine lv_iload hx hb dX12_sheet_83 (lv_at hl 0 rfl) ?_
                                    refine lv_iadd hx hb dX12_sheet_85 ?_
                                    refine lz_top (y := 6) (by decide) ?_
                                    refine lv_iconst (v := 0) hx hb dX12_sheet_86 (by decide) ?_
                                    refine lz_astc hx hb hK hP hD hS 11 0 rfl rfl (lz_vp (x := 6) (n := 160) (by decide) (by decide)) dX12_sheet_87 (fun H locs hP hD hS => ?_)
                                    refine lv_iinc (v := 7) (lv' := [(4, .int 7), (0, .ref h0), (1, .int 0), (2, .int (-1)), (3, .int x2)]) hx hb dX12_sheet_88 hl (k := 0) rfl (by decide) (by decide) rfl (fun ls hl => ?_)
                                    refine lv_goto (tgt := 68) hx hb dX12_sheet_91 (by decide) ?_
                                    refine lv_iload hx hb dX12_sheet_68 (lv_at hl 0 rfl) ?_
                                    refine lv_bipush (v := 40) hx hb dX12_sheet_70 (by decide) ?_
                                    refine lv_icmp_ge (tgt := 94) hx hb dX12_sheet_72 (by decide) (fun c891 => ?_) (fun c891 => ?_)
                                    · exact absurd c891 (by decide)
                                    · refine lv_aload_n hx hb dX12_sheet_75 rfl (lv_at hl 1 rfl) ?_
                                      refine va_get (D := D) (ci := 12) (v := .ref h11) (C := RX12) (T := TX12) (N := 24) hx hb hts hin12 hown hK hP 0 rfl rfl 18 (by decide) (hts (.fieldLink RX12 44 "MissedPointsModel" "items" "[I") (by decide +kernel)) (fun _ h9 => h9) rfl dX12_sheet_76 ?_
                                      refine lv_bipush (v := 40) hx hb dX12_sheet_79 (by decide) ?_
                                      refine lv_iload_n hx hb dX12_sheet_81 rfl (lv_at hl 2 rfl) ?_
                                      refine lv_imul hx hb dX12_sheet_82 ?_
                                      refine lz_top (y := 0) (by decide) ?_
                                      refine lv_iload hx hb dX12_sheet_83 (lv_at hl 0 rfl) ?_
                                      refine lv_iadd hx hb dX12_sheet_85 ?_
                                      refine lz_top (y := 7) (by decide) ?_
                                      refine lv_iconst (v := 0) hx hb dX12_sheet_86 (by decide) ?_
                                      refine lz_astc hx hb hK hP hD hS 11 0 rfl rfl (lz_vp (x := 7) (n := 160) (by decide) (by decide)) dX12_sheet_87 (fun H locs hP hD hS => ?_)
                                      refine lv_iinc (v := 8) (lv' := [(4, .int 8), (0, .ref h0), (1, .int 0), (2, .int (-1)), (3, .int x2)]) hx hb dX12_sheet_88 hl (k := 0) rfl (by decide) (by decide) rfl (fun ls hl => ?_)
                                      refine lv_goto (tgt := 68) hx hb dX12_sheet_91 (by decide) ?_
                                      refine lv_iload hx hb dX12_sheet_68 (lv_at hl 0 rfl) ?_
                                      refine lv_bipush (v := 40) hx hb dX12_sheet_70 (by decide) ?_
                                      refine lv_icmp_ge (tgt := 94) hx hb dX12_sheet_72 (by decide) (fun c892 => ?_) (fun c892 => ?_)
                                      · exact absurd c892 (by decide)
                                      · refine lv_aload_n hx hb dX12_sheet_75 rfl (lv_at hl 1 rfl) ?_
                                        refine va_get (D := D) (ci := 12) (v := .ref h11) (C := RX12) (T := TX12) (N := 24) hx hb hts hin12 hown hK hP 0 rfl rfl 18 (by decide) (hts (.fieldLink RX12 44 "MissedPointsModel" "items" "[I") (by decide +kernel)) (fun _ h9 => h9) rfl dX12_sheet_76 ?_
                                        refine lv_bipush (v := 40) hx hb dX12_sheet_79 (by decide) ?_
                                        refine lv_iload_n hx hb dX12_sheet_81 rfl (lv_at hl 2 rfl) ?_
                                        refine lv_imul hx hb dX12_sheet_82 ?_
                                        refine lz_top (y := 0) (by decide) ?_
                                        refine lv_iload hx hb dX12_sheet_83 (lv_at hl 0 rfl) ?_
                                        refine lv_iadd hx hb dX12_sheet_85 ?_
                                        refine lz_top (y := 8) (by decide) ?_
                                        refine lv_iconst (v := 0) hx hb dX12_sheet_86 (by decide) ?_
                                        refine lz_astc hx hb hK hP hD hS 11 0 rfl rfl (lz_vp (x := 8) (n := 160) (by decide) (by decide)) dX12_sheet_87 (fun H locs hP hD hS => ?_)
                                        refine lv_iinc (v := 9) (lv' := [(4, .int 9), (0, .ref h0), (1, .int 0), (2, .int (-1)), (3, .int x2)]) hx hb dX12_sheet_88 hl (k := 0) rfl (by decide) (by decide) rfl (fun ls hl => ?_)
                                        refine lv_goto (tgt := 68) hx hb dX12_sheet_91 (by decide) ?_
                                        refine lv_iload hx hb dX12_sheet_68 (lv_at hl 0 rfl) ?_
                                        refine lv_bipush (v := 40) hx hb dX12_sheet_70 (by decide) ?_
                                        refine lv_icmp_ge (tgt := 94) hx hb dX12_sheet_72 (by decide) (fun c893 => ?_) (fun c893 => ?_)
                                        · exact absurd c893 (by decide)
                                        · refine lv_aload_n hx hb dX12_sheet_75 rfl (lv_at hl 1 rfl) ?_
                                          refine va_get (D := D) (ci := 12) (v := .ref h11) (C := RX12) (T := TX12) (N := 24) hx hb hts hin12 hown hK hP 0 rfl rfl 18 (by decide) (hts (.fieldLink RX12 44 "MissedPointsModel" "items" "[I") (by decide +kernel)) (fun _ h9 => h9) rfl dX12_sheet_76 ?_
                                          refine lv_bipush (v := 40) hx hb dX12_sheet_79 (by decide) ?_
                                          refine lv_iload_n hx hb dX12_sheet_81 rfl (lv_at hl 2 rfl) ?_
                                          refine lv_imul hx hb dX12_sheet_82 ?_
                                          refine lz_top (y := 0) (by decide) ?_
                                          refine lv_iload hx hb dX12_sheet_83 (lv_at hl 0 rfl) ?_
                                          refine lv_iadd hx hb dX12_sheet_85 ?_
                                          refine lz_top (y := 9) (by decide) ?_
                                          refine lv_iconst (v := 0) hx hb dX12_sheet_86 (by decide) ?_
                                          refine lz_astc hx hb hK hP hD hS 11 0 rfl rfl (lz_vp (x := 9) (n := 160) (by decide) (by decide)) dX12_sheet_87 (fun H locs hP hD hS => ?_)
                                          refine lv_iinc (v := 10) (lv' := [(4, .int 10), (0, .ref h0), (1, .int 0), (2, .int (-1)), (3, .int x2)]) hx hb dX12_sheet_88 hl (k := 0) rfl (by decide) (by decide) rfl (fun ls hl => ?_)
                                          refine lv_goto (tgt := 68) hx hb dX12_sheet_91 (by decide) ?_
                                          refine lv_iload hx hb dX12_sheet_68 (lv_at hl 0 rfl) ?_
                                          refine lv_bipush (v := 40) hx hb dX12_sheet_70 (by decide) ?_
                                          refine lv_icmp_ge (tgt := 94) hx hb dX12_sheet_72 (by decide) (fun c894 => ?_) (fun c894 => ?_)
                                          · exact absurd c894 (by decide)
                                          · refine lv_aload_n hx hb dX12_sheet_75 rfl (lv_at hl 1 rfl) ?_
                                            refine va_get (D := D) (ci := 12) (v := .ref h11) (C := RX12) (T := TX12) (N := 24) hx hb hts hin12 hown hK hP 0 rfl rfl 18 (by decide) (hts (.fieldLink RX12 44 "MissedPointsModel" "items" "[I") (by decide +kernel)) (fun _ h9 => h9) rfl dX12_sheet_76 ?_
                                            refine lv_bipush (v := 40) hx hb dX12_sheet_79 (by decide) ?_
                                            refine lv_iload_n hx hb dX12_sheet_81 rfl (lv_at hl 2 rfl) ?_
                                            refine lv_imul hx hb dX12_sheet_82 ?_
                                            refine lz_top (y := 0) (by decide) ?_
                                            refine lv_iload hx hb dX12_sheet_83 (lv_at hl 0 rfl) ?_
                                            refine lv_iadd hx hb dX12_sheet_85 ?_
                                            refine lz_top (y := 10) (by decide) ?_
                                            refine lv_iconst (v := 0) hx hb dX12_sheet_86 (by decide) ?_
                                            refine lz_astc hx hb hK hP hD hS 11 0 rfl rfl (lz_vp (x := 10) (n := 160) (by decide) (by decide)) dX12_sheet_87 (fun H locs hP hD hS => ?_)
                                            refine lv_iinc (v := 11) (lv' := [(4, .int 11), (0, .ref h0), (1, .int 0), (2, .int (-1)), (3, .int x2)]) hx hb dX12_sheet_88 hl (k := 0) rfl (by decide) (by decide) rfl (fun ls hl => ?_)
                                            refine lv_goto (tgt := 68) hx hb dX12_sheet_91 (by decide) ?_
                                            refine lv_iload hx hb dX12_sheet_68 (lv_at hl 0 rfl) ?_
                                            refine lv_bipush (v := 40) hx hb dX12_sheet_70 (by decide) ?_
                                            refine lv_icmp_ge (tgt := 94) hx hb dX12_sheet_72 (by decide) (fun c895 => ?_) (fun c895 => ?_)
                                            · exact absurd c895 (by decide)
                                            · refine lv_aload_n hx hb dX12_sheet_75 rfl (lv_at hl 1 rfl) ?_
                                              refine va_get (D := D) (ci := 12) (v := .ref h11) (C := RX12) (T := TX12) (N := 24) hx hb hts hin12 hown hK hP 0 rfl rfl 18 (by decide) (hts (.fieldLink RX12 44 "MissedPointsModel" "items" "[I") (by decide +kernel)) (fun _ h9 => h9) rfl dX12_sheet_76 ?_
                                              refine lv_bipush (v := 40) hx hb dX12_sheet_79 (by decide) ?_
                                              refine lv_iload_n hx hb dX12_sheet_81 rfl (lv_at hl 2 rfl) ?_
                                              refine lv_imul hx hb dX12_sheet_82 ?_
                                              refine lz_top (y := 0) (by decide) ?_
                                              refine lv_iload hx hb dX12_sheet_83 (lv_at hl 0 rfl) ?_
                                              refine lv_iadd hx hb dX12_sheet_85 ?_
                                              refine lz_top (y := 11) (by decide) ?_
                                              refine lv_iconst (v := 0) hx hb dX12_sheet_86 (by decide) ?_
                                              refine lz_astc hx hb hK hP hD hS 11 0 rfl rfl (lz_vp (x := 11) (n := 160) (by decide) (by decide)) dX12_sheet_87 (fun H locs hP hD hS => ?_)
                                              refine lv_iinc (v := 12) (lv' := [(4, .int 12), (0, .ref h0), (1, .int 0), (2, .int (-1)), (3, .int x2)]) hx hb dX12_sheet_88 hl (k := 0) rfl (by decide) (by decide) rfl (fun ls hl => ?_)
                                              refine lv_goto (tgt := 68) hx hb dX12_sheet_91 (by decide) ?_
                                              refine lv_iload hx hb dX12_sheet_68 (lv_at hl 0 rfl) ?_
                                              refine lv_bipush (v := 40) hx hb dX12_sheet_70 (by decide) ?_
                                              refine lv_icmp_ge (tgt := 94) hx hb dX12_sheet_72 (by decide) (fun c896 => ?_) (fun c896 => ?_)
                                              · exact absurd c896 (by decide)
                                              · refine lv_aload_n hx hb dX12_sheet_75 rfl (lv_at hl 1 rfl) ?_
                                                refine va_get (D := D) (ci := 12) (v := .ref h11) (C := RX12) (T := TX12) (N := 24) hx hb hts hin12 hown hK hP 0 rfl rfl 18 (by decide) (hts (.fieldLink RX12 44 "MissedPointsModel" "items" "[I") (by decide +kernel)) (fun _ h9 => h9) rfl dX12_sheet_76 ?_
                                                refine lv_bipush (v := 40) hx hb dX12_sheet_79 (by decide) ?_
                                                refine lv_iload_n hx hb dX12_sheet_81 rfl (lv_at hl 2 rfl) ?_
                                                refine lv_imul hx hb dX12_sheet_82 ?_
                                                refine lz_top (y := 0) (by decide) ?_
                                                refine lv_iload hx hb dX12_sheet_83 (lv_at hl 0 rfl) ?_
                                                refine lv_iadd hx hb dX12_sheet_85 ?_
                                                refine lz_top (y := 12) (by decide) ?_
                                                refine lv_iconst (v := 0) hx hb dX12_sheet_86 (by decide) ?_
                                                refine lz_astc hx hb hK hP hD hS 11 0 rfl rfl (lz_vp (x := 12) (n := 160) (by decide) (by decide)) dX12_sheet_87 (fun H locs hP hD hS => ?_)
                                                refine lv_iinc (v := 13) (lv' := [(4, .int 13), (0, .ref h0), (1, .int 0), (2, .int (-1)), (3, .int x2)]) hx hb dX12_sheet_88 hl (k := 0) rfl (by decide) (by decide) rfl (fun ls hl => ?_)
                                                refine lv_goto (tgt := 68) hx hb dX12_sheet_91 (by decide) ?_
                                                refine lv_iload hx hb dX12_sheet_68 (lv_at hl 0 rfl) ?_
                                                refine lv_bipush (v := 40) hx hb dX12_sheet_70 (by decide) ?_
                                                refine lv_icmp_ge (tgt := 94) hx hb dX12_sheet_72 (by decide) (fun c897 => ?_) (fun c897 => ?_)
                                                · exact absurd c897 (by decide)
                                                · refine lv_aload_n hx hb dX12_sheet_75 rfl (lv_at hl 1 rfl) ?_
                                                  refine va_get (D := D) (ci := 12) (v := .ref h11) (C := RX12) (T := TX12) (N := 24) hx hb hts hin12 hown hK hP 0 rfl rfl 18 (by decide) (hts (.fieldLink RX12 44 "MissedPointsModel" "items" "[I") (by decide +kernel)) (fun _ h9 => h9) rfl dX12_sheet_76 ?_
                                                  refine lv_bipush (v := 40) hx hb dX12_sheet_79 (by decide) ?_
                                                  refine lv_iload_n hx hb dX12_sheet_81 rfl (lv_at hl 2 rfl) ?_
                                                  refine lv_imul hx hb dX12_sheet_82 ?_
                                                  refine lz_top (y := 0) (by decide) ?_
                                                  refine lv_iload hx hb dX12_sheet_83 (lv_at hl 0 rfl) ?_
                                                  refine lv_iadd hx hb dX12_sheet_85 ?_
                                                  refine lz_top (y := 13) (by decide) ?_
                                                  refine lv_iconst (v := 0) hx hb dX12_sheet_86 (by decide) ?_
                                                  refine lz_astc hx hb hK hP hD hS 11 0 rfl rfl (lz_vp (x := 13) (n := 160) (by decide) (by decide)) dX12_sheet_87 (fun H locs hP hD hS => ?_)
                                                  refine lv_iinc (v := 14) (lv' := [(4, .int 14), (0, .ref h0), (1, .int 0), (2, .int (-1)), (3, .int x2)]) hx hb dX12_sheet_88 hl (k := 0) rfl (by decide) (by decide) rfl (fun ls hl => ?_)
                                                  refine lv_goto (tgt := 68) hx hb dX12_sheet_91 (by decide) ?_
                                                  refine lv_iload hx hb dX12_sheet_68 (lv_at hl 0 rfl) ?_
                                                  refine lv_bipush (v := 40) hx hb dX12_sheet_70 (by decide) ?_
                                                  refine lv_icmp_ge (tgt := 94) hx hb dX12_sheet_72 (by decide) (fun c898 => ?_) (fun c898 => ?_)
                                                  · exact absurd c898 (by decide)
                                                  · refine lv_aload_n hx hb dX12_sheet_75 rfl (lv_at hl 1 rfl) ?_
                                                    refine va_get (D := D) (ci := 12) (v := .ref h11) (C := RX12) (T := TX12) (N := 24) hx hb hts hin12 hown hK hP 0 rfl rfl 18 (by decide) (hts (.fieldLink RX12 44 "MissedPointsModel" "items" "[I") (by decide +kernel)) (fun _ h9 => h9) rfl dX12_sheet_76 ?_
                                                    refine lv_bipush (v := 40) hx hb dX12_sheet_79 (by decide) ?_
                                                    refine lv_iload_n hx hb dX12_sheet_81 rfl (lv_at hl 2 rfl) ?_
                                                    refine lv_imul hx hb dX12_sheet_82 ?_
                                                    refine lz_top (y := 0) (by decide) ?_
                                                    refine lv_iload hx hb dX12_sheet_83 (lv_at hl 0 rfl) ?_
                                                    refine lv_iadd hx hb dX12_sheet_85 ?_
                                                    refine lz_top (y := 14) (by decide) ?_
                                                    refine lv_iconst (v := 0) hx hb dX12_sheet_86 (by decide) ?_
                                                    refine lz_astc hx hb hK hP hD hS 11 0 rfl rfl (lz_vp (x := 14) (n := 160) (by decide) (by decide)) dX12_sheet_87 (fun H locs hP hD hS => ?_)
                                                    refine lv_iinc (v := 15) (lv' := [(4, .int 15), (0, .ref h0), (1, .int 0), (2, .int (-1)), (3, .int x2)]) hx hb dX12_sheet_88 hl (k := 0) rfl (by decide) (by decide) rfl (fun ls hl => ?_)
                                                    refine lv_goto (tgt := 68) hx hb dX12_sheet_91 (by decide) ?_
                                                    refine lv_iload hx hb dX12_sheet_68 (lv_at hl 0 rfl) ?_
                                                    refine lv_bipush (v := 40) hx hb dX12_sheet_70 (by decide) ?_
                                                    refine lv_icmp_ge (tgt := 94) hx hb dX12_sheet_72 (by decide) (fun c899 => ?_) (fun c899 => ?_)
                                                    · exact absurd c899 (by decide)
                                                    · refine lv_aload_n hx hb dX12_sheet_75 rfl (lv_at hl 1 rfl) ?_
                                                      refine va_get (D := D) (ci := 12) (v := .ref h11) (C := RX12) (T := TX12) (N := 24) hx hb hts hin12 hown hK hP 0 rfl rfl 18 (by decide) (hts (.fieldLink RX12 44 "MissedPointsModel" "items" "[I") (by decide +kernel)) (fun _ h9 => h9) rfl dX12_sheet_76 ?_
                                                      refine lv_bipush (v := 40) hx hb dX12_sheet_79 (by decide) ?_
                                                      refine lv_iload_n hx hb dX12_sheet_81 rfl (lv_at hl 2 rfl) ?_
                                                      refine lv_imul hx hb dX12_sheet_82 ?_
                                                      refine lz_top (y := 0) (by decide) ?_
                                                      refine lv_iload hx hb dX12_sheet_83 (lv_at hl 0 rfl) ?_
                                                      refine lv_iadd hx hb dX12_sheet_85 ?_
                                                      refine lz_top (y := 15) (by decide) ?_
                                                      refine lv_iconst (v := 0) hx hb dX12_sheet_86 (by decide) ?_
                                                      refine lz_astc hx hb hK hP hD hS 11 0 rfl rfl (lz_vp (x := 15) (n := 160) (by decide) (by decide)) dX12_sheet_87 (fun H locs hP hD hS => ?_)
                                                      refine lv_iinc (v := 16) (lv' := [(4, .int 16), (0, .ref h0), (1, .int 0), (2, .int (-1)), (3, .int x2)]) hx hb dX12_sheet_88 hl (k := 0) rfl (by decide) (by decide) rfl (fun ls hl => ?_)
                                                      refine lv_goto (tgt := 68) hx hb dX12_sheet_91 (by decide) ?_
                                                      refine lv_iload hx hb dX12_sheet_68 (lv_at hl 0 rfl) ?_
                                                      refine lv_bipush (v := 40) hx hb dX12_sheet_70 (by decide) ?_
                                                      refine lv_icmp_ge (tgt := 94) hx hb dX12_sheet_72 (by decide) (fun c900 => ?_) (fun c900 => ?_)
                                                      · exact absurd c900 (by decide)
                                                      · refine lv_aload_n hx hb dX12_sheet_75 rfl (lv_at hl 1 rfl) ?_
                                                        refine va_get (D := D) (ci := 12) (v := .ref h11) (C := RX12) (T := TX12) (N := 24) hx hb hts hin12 hown hK hP 0 rfl rfl 18 (by decide) (hts (.fieldLink RX12 44 "MissedPointsModel" "items" "[I") (by decide +kernel)) (fun _ h9 => h9) rfl dX12_sheet_76 ?_
                                                        refine lv_bipush (v := 40) hx hb dX12_sheet_79 (by decide) ?_
                                                        refine lv_iload_n hx hb dX12_sheet_81 rfl (lv_at hl 2 rfl) ?_
                                                        refine lv_imul hx hb dX12_sheet_82 ?_
                                                        refine lz_top (y := 0) (by decide) ?_
                                                        refine lv_iload hx hb dX12_sheet_83 (lv_at hl 0 rfl) ?_
                                                        refine lv_iadd hx hb dX12_sheet_85 ?_
                                                        refine lz_top (y := 16) (by decide) ?_
                                                        refine lv_iconst (v := 0) hx hb dX12_sheet_86 (by decide) ?_
                                                        refine lz_astc hx hb hK hP hD hS 11 0 rfl rfl (lz_vp (x := 16) (n := 160) (by decide) (by decide)) dX12_sheet_87 (fun H locs hP hD hS => ?_)
                                                        refine lv_iinc (v := 17) (lv' := [(4, .int 17), (0, .ref h0), (1, .int 0), (2, .int (-1)), (3, .int x2)]) hx hb dX12_sheet_88 hl (k := 0) rfl (by decide) (by decide) rfl (fun ls hl => ?_)
                                                        refine lv_goto (tgt := 68) hx hb dX12_sheet_91 (by decide) ?_
                                                        refine lv_iload hx hb dX12_sheet_68 (lv_at hl 0 rfl) ?_
                                                        refine lv_bipush (v := 40) hx hb dX12_sheet_70 (by decide) ?_
                                                        refine lv_icmp_ge (tgt := 94) hx hb dX12_sheet_72 (by decide) (fun c901 => ?_) (fun c901 => ?_)
                                                        · exact absurd c901 (by decide)
                                                        · refine lv_aload_n hx hb dX12_sheet_75 rfl (lv_at hl 1 rfl) ?_
                                                          refine va_get (D := D) (ci := 12) (v := .ref h11) (C := RX12) (T := TX12) (N := 24) hx hb hts hin12 hown hK hP 0 rfl rfl 18 (by decide) (hts (.fieldLink RX12 44 "MissedPointsModel" "items" "[I") (by decide +kernel)) (fun _ h9 => h9) rfl dX12_sheet_76 ?_
                                                          refine lv_bipush (v := 40) hx hb dX12_sheet_79 (by decide) ?_
                                                          refine lv_iload_n hx hb dX12_sheet_81 rfl (lv_at hl 2 rfl) ?_
                                                          refine lv_imul hx hb dX12_sheet_82 ?_
                                                          refine lz_top (y := 0) (by decide) ?_
                                                          refine lv_iload hx hb dX12_sheet_83 (lv_at hl 0 rfl) ?_
                                                          refine lv_iadd hx hb dX12_sheet_85 ?_
                                                          refine lz_top (y := 17) (by decide) ?_
                                                          refine lv_iconst (v := 0) hx hb dX12_sheet_86 (by decide) ?_
                                                          refine lz_astc hx hb hK hP hD hS 11 0 rfl rfl (lz_vp (x := 17) (n := 160) (by decide) (by decide)) dX12_sheet_87 (fun H locs hP hD hS => ?_)
                                                          refine lv_iinc (v := 18) (lv' := [(4, .int 18), (0, .ref h0), (1, .int 0), (2, .int (-1)), (3, .int x2)]) hx hb dX12_sheet_88 hl (k := 0) rfl (by decide) (by decide) rfl (fun ls hl => ?_)
                                                          refine lv_goto (tgt := 68) hx hb dX12_sheet_91 (by decide) ?_
                                                          refine lv_iload hx hb dX12_sheet_68 (lv_at hl 0 rfl) ?_
                                                          refine lv_bipush (v := 40) hx hb dX12_sheet_70 (by decide) ?_
                                                          refine lv_icmp_ge (tgt := 94) hx hb dX12_sheet_72 (by decide) (fun c902 => ?_) (fun c902 => ?_)
                                                          · exact absurd c902 (by decide)
                                                          · refine lv_aload_n hx hb dX12_sheet_75 rfl (lv_at hl 1 rfl) ?_
                                                            refine va_get (D := D) (ci := 12) (v := .ref h11) (C := RX12) (T := TX12) (N := 24) hx hb hts hin12 hown hK hP 0 rfl rfl 18 (by decide) (hts (.fieldLink RX12 44 "MissedPointsModel" "items" "[I") (by decide +kernel)) (fun _ h9 => h9) rfl dX12_sheet_76 ?_
                                                            refine lv_bipush (v := 40) hx hb dX12_sheet_79 (by decide) ?_
                                                            refine lv_iload_n hx hb dX12_sheet_81 rfl (lv_at hl 2 rfl) ?_
                                                            refine lv_imul hx hb dX12_sheet_82 ?_
                                                            refine lz_top (y := 0) (by decide) ?_
                                                            refine lv_iload hx hb dX12_sheet_83 (lv_at hl 0 rfl) ?_
                                                            refine lv_iadd hx hb dX12_sheet_85 ?_
                                                            refine lz_top (y := 18) (by decide) ?_
                                                            refine lv_iconst (v := 0) hx hb dX12_sheet_86 (by decide) ?_
                                                            refine lz_astc hx hb hK hP hD hS 11 0 rfl rfl (lz_vp (x := 18) (n := 160) (by decide) (by decide)) dX12_sheet_87 (fun H locs hP hD hS => ?_)
                                                            refine lv_iinc (v := 19) (lv' := [(4, .int 19), (0, .ref h0), (1, .int 0), (2, .int (-1)), (3, .int x2)]) hx hb dX12_sheet_88 hl (k := 0) rfl (by decide) (by decide) rfl (fun ls hl => ?_)
                                                            refine lv_goto (tgt := 68) hx hb dX12_sheet_91 (by decide) ?_
                                                            refine lv_iload hx hb dX12_sheet_68 (lv_at hl 0 rfl) ?_
                                                            refine lv_bipush (v := 40) hx hb dX12_sheet_70 (by decide) ?_
                                                            refine lv_icmp_ge (tgt := 94) hx hb dX12_sheet_72 (by decide) (fun c903 => ?_) (fun c903 => ?_)
                                                            · exact absurd c903 (by decide)
                                                            · refine lv_aload_n hx hb dX12_sheet_75 rfl (lv_at hl 1 rfl) ?_
                                                              refine va_get (D := D) (ci := 12) (v := .ref h11) (C := RX12) (T := TX12) (N := 24) hx hb hts hin12 hown hK hP 0 rfl rfl 18 (by decide) (hts (.fieldLink RX12 44 "MissedPointsModel" "items" "[I") (by decide +kernel)) (fun _ h9 => h9) rfl dX12_sheet_76 ?_
                                                              refine lv_bipush (v := 40) hx hb dX12_sheet_79 (by decide) ?_
                                                              refine lv_iload_n hx hb dX12_sheet_81 rfl (lv_at hl 2 rfl) ?_
                                                              refine lv_imul hx hb dX12_sheet_82 ?_
                                                              refine lz_top (y := 0) (by decide) ?_
                                                              refine lv_iload hx hb dX12_sheet_83 (lv_at hl 0 rfl) ?_
                                                              refine lv_iadd hx hb dX12_sheet_85 ?_
                                                              refine lz_top (y := 19) (by decide) ?_
                                                              refine lv_iconst (v := 0) hx hb dX12_sheet_86 (by decide) ?_
                                                              refine lz_astc hx hb hK hP hD hS 11 0 rfl rfl (lz_vp (x := 19) (n := 160) (by decide) (by decide)) dX12_sheet_87 (fun H locs hP hD hS => ?_)
                                                              refine lv_iinc (v := 20) (lv' := [(4, .int 20), (0, .ref h0), (1, .int 0), (2, .int (-1)), (3, .int x2)]) hx hb dX12_sheet_88 hl (k := 0) rfl (by decide) (by decide) rfl (fun ls hl => ?_)
                                                              refine lv_goto (tgt := 68) hx hb dX12_sheet_91 (by decide) ?_
                                                              refine lv_iload hx hb dX12_sheet_68 (lv_at hl 0 rfl) ?_
                                                              refine lv_bipush (v := 40) hx hb dX12_sheet_70 (by decide) ?_
                                                              refine lv_icmp_ge (tgt := 94) hx hb dX12_sheet_72 (by decide) (fun c904 => ?_) (fun c904 => ?_)
                                                              · exact absurd c904 (by decide)
                                                              · refine lv_aload_n hx hb dX12_sheet_75 rfl (lv_at hl 1 rfl) ?_
                                                                refine va_get (D := D) (ci := 12) (v := .ref h11) (C := RX12) (T := TX12) (N := 24) hx hb hts hin12 hown hK hP 0 rfl rfl 18 (by decide) (hts (.fieldLink RX12 44 "MissedPointsModel" "items" "[I") (by decide +kernel)) (fun _ h9 => h9) rfl dX12_sheet_76 ?_
                                                                refine lv_bipush (v := 40) hx hb dX12_sheet_79 (by decide) ?_
                                                                refine lv_iload_n hx hb dX12_sheet_81 rfl (lv_at hl 2 rfl) ?_
                                                                refine lv_imul hx hb dX12_sheet_82 ?_
                                                                refine lz_top (y := 0) (by decide) ?_
                                                                refine lv_iload hx hb dX12_sheet_83 (lv_at hl 0 rfl) ?_
                                                                refine lv_iadd hx hb dX12_sheet_85 ?_
                                                                refine lz_top (y := 20) (by decide) ?_
                                                                refine lv_iconst (v := 0) hx hb dX12_sheet_86 (by decide) ?_
                                                                refine lz_astc hx hb hK hP hD hS 11 0 rfl rfl (lz_vp (x := 20) (n := 160) (by decide) (by decide)) dX12_sheet_87 (fun H locs hP hD hS => ?_)
                                                                refine lv_iinc (v := 21) (lv' := [(4, .int 21), (0, .ref h0), (1, .int 0), (2, .int (-1)), (3, .int x2)]) hx hb dX12_sheet_88 hl (k := 0) rfl (by decide) (by decide) rfl (fun ls hl => ?_)
                                                                refine lv_goto (tgt := 68) hx hb dX12_sheet_91 (by decide) ?_
                                                                refine lv_iload hx hb dX12_sheet_68 (lv_at hl 0 rfl) ?_
                                                                refine lv_bipush (v := 40) hx hb dX12_sheet_70 (by decide) ?_
                                                                refine lv_icmp_ge (tgt := 94) hx hb dX12_sheet_72 (by decide) (fun c905 => ?_) (fun c905 => ?_)
                                                                · exact absurd c905 (by decide)
                                                                · refine lv_aload_n hx hb dX12_sheet_75 rfl (lv_at hl 1 rfl) ?_
                                                                  refine va_get (D := D) (ci := 12) (v := .ref h11) (C := RX12) (T := TX12) (N := 24) hx hb hts hin12 hown hK hP 0 rfl rfl 18 (by decide) (hts (.fieldLink RX12 44 "MissedPointsModel" "items" "[I") (by decide +kernel)) (fun _ h9 => h9) rfl dX12_sheet_76 ?_
                                                                  refine lv_bipush (v := 40) hx hb dX12_sheet_79 (by decide) ?_
                                                                  refine lv_iload_n hx hb dX12_sheet_81 rfl (lv_at hl 2 rfl) ?_
                                                                  refine lv_imul hx hb dX12_sheet_82 ?_
                                                                  refine lz_top (y := 0) (by decide) ?_
                                                                  refine lv_iload hx hb dX12_sheet_83 (lv_at hl 0 rfl) ?_
                                                                  refine lv_iadd hx hb dX12_sheet_85 ?_
                                                                  refine lz_top (y := 21) (by decide) ?_
                                                                  refine lv_iconst (v := 0) hx hb dX12_sheet_86 (by decide) ?_
                                                                  refine lz_astc hx hb hK hP hD hS 11 0 rfl rfl (lz_vp (x := 21) (n := 160) (by decide) (by decide)) dX12_sheet_87 (fun H locs hP hD hS => ?_)
                                                                  refine lv_iinc (v := 22) (lv' := [(4, .int 22), (0, .ref h0), (1, .int 0), (2, .int (-1)), (3, .int x2)]) hx hb dX12_sheet_88 hl (k := 0) rfl (by decide) (by decide) rfl (fun ls hl => ?_)
                                                                  refine lv_goto (tgt := 68) hx hb dX12_sheet_91 (by decide) ?_
                                                                  refine lv_iload hx hb dX12_sheet_68 (lv_at hl 0 rfl) ?_
                                                                  refine lv_bipush (v := 40) hx hb dX12_sheet_70 (by decide) ?_
                                                                  refine lv_icmp_ge (tgt := 94) hx hb dX12_sheet_72 (by decide) (fun c906 => ?_) (fun c906 => ?_)
                                                                  · exact absurd c906 (by decide)
                                                                  · refine lv_aload_n hx hb dX12_sheet_75 rfl (lv_at hl 1 rfl) ?_
                                                                    refine va_get (D := D) (ci := 12) (v := .ref h11) (C := RX12) (T := TX12) (N := 24) hx hb hts hin12 hown hK hP 0 rfl rfl 18 (by decide) (hts (.fieldLink RX12 44 "MissedPointsModel" "items" "[I") (by decide +kernel)) (fun _ h9 => h9) rfl dX12_sheet_76 ?_
                                                                    refine lv_bipush (v := 40) hx hb dX12_sheet_79 (by decide) ?_
                                                                    refine lv_iload_n hx hb dX12_sheet_81 rfl (lv_at hl 2 rfl) ?_
                                                                    refine lv_imul hx hb dX12_sheet_82 ?_
                                                                    refine lz_top (y := 0) (by decide) ?_
                                                                    refine lv_iload hx hb dX12_sheet_83 (lv_at hl 0 rfl) ?_
                                                                    refine lv_iadd hx hb dX12_sheet_85 ?_
                                                                    refine lz_top (y := 22) (by decide) ?_
                                                                    refine lv_iconst (v := 0) hx hb dX12_sheet_86 (by decide) ?_
                                                                    refine lz_astc hx hb hK hP hD hS 11 0 rfl rfl (lz_vp (x := 22) (n := 160) (by decide) (by decide)) dX12_sheet_87 (fun H locs hP hD hS => ?_)
                                                                    refine lv_iinc (v := 23) (lv' := [(4, .int 23), (0, .ref h0), (1, .int 0), (2, .int (-1)), (3, .int x2)]) hx hb dX12_sheet_88 hl (k := 0) rfl (by decide) (by decide) rfl (fun ls hl => ?_)
                                                                    refine lv_goto (tgt := 68) hx hb dX12_sheet_91 (by decide) ?_
                                                                    refine lv_iload hx hb dX12_sheet_68 (lv_at hl 0 rfl) ?_
                                                                    refine lv_bipush (v := 40) hx hb dX12_sheet_70 (by decide) ?_
                                                                    refine lv_icmp_ge (tgt := 94) hx hb dX12_sheet_72 (by decide) (fun c907 => ?_) (fun c907 => ?_)
                                                                    · exact absurd c907 (by decide)
                                                                    · refine lv_aload_n hx hb dX12_sheet_75 rfl (lv_at hl 1 rfl) ?_
                                                                      refine va_get (D := D) (ci := 12) (v := .ref h11) (C := RX12) (T := TX12) (N := 24) hx hb hts hin12 hown hK hP 0 rfl rfl 18 (by decide) (hts (.fieldLink RX12 44 "MissedPointsModel" "items" "[I") (by decide +kernel)) (fun _ h9 => h9) rfl dX12_sheet_76 ?_
                                                                      refine lv_bipush (v := 40) hx hb dX12_sheet_79 (by decide) ?_
                                                                      refine lv_iload_n hx hb dX12_sheet_81 rfl (lv_at hl 2 rfl) ?_
                                                                      refine lv_imul hx hb dX12_sheet_82 ?_
                                                                      refine lz_top (y := 0) (by decide) ?_
                                                                      refine lv_iload hx hb dX12_sheet_83 (lv_at hl 0 rfl) ?_
                                                                      refine lv_iadd hx hb dX12_sheet_85 ?_
                                                                      refine lz_top (y := 23) (by decide) ?_
                                                                      refine lv_iconst (v := 0) hx hb dX12_sheet_86 (by decide) ?_
                                                                      refine lz_astc hx hb hK hP hD hS 11 0 rfl rfl (lz_vp (x := 23) (n := 160) (by decide) (by decide)) dX12_sheet_87 (fun H locs hP hD hS => ?_)
                                                                      refine lv_iinc (v := 24) (lv' := [(4, .int 24), (0, .ref h0), (1, .int 0), (2, .int (-1)), (3, .int x2)]) hx hb dX12_sheet_88 hl (k := 0) rfl (by decide) (by decide) rfl (fun ls hl => ?_)
                                                                      refine lv_goto (tgt := 68) hx hb dX12_sheet_91 (by decide) ?_
                                                                      refine lv_iload hx hb dX12_sheet_68 (lv_at hl 0 rfl) ?_
                                                                      refine lv_bipush (v := 40) hx hb dX12_sheet_70 (by decide) ?_
                                                                      refine lv_icmp_ge (tgt := 94) hx hb dX12_sheet_72 (by decide) (fun c908 => ?_) (fun c908 => ?_)
                                                                      · exact absurd c908 (by decide)
                                                                      · refine lv_aload_n hx hb dX12_sheet_75 rfl (lv_at hl 1 rfl) ?_
                                                                        refine va_get (D := D) (ci := 12) (v := .ref h11) (C := RX12) (T := TX12) (N := 24) hx hb hts hin12 hown hK hP 0 rfl rfl 18 (by decide) (hts (.fieldLink RX12 44 "MissedPointsModel" "items" "[I") (by decide +kernel)) (fun _ h9 => h9) rfl dX12_sheet_76 ?_
                                                                        refine lv_bipush (v := 40) hx hb dX12_sheet_79 (by decide) ?_
                                                                        refine lv_iload_n hx hb dX12_sheet_81 rfl (lv_at hl 2 rfl) ?_
                                                                        refine lv_imul hx hb dX12_sheet_82 ?_
                                                                        refine lz_top (y := 0) (by decide) ?_
                                                                        refine lv_iload hx hb dX12_sheet_83 (lv_at hl 0 rfl) ?_
                                                                        refine lv_iadd hx hb dX12_sheet_85 ?_
                                                                        refine lz_top (y := 24) (by decide) ?_
                                                                        refine lv_iconst (v := 0) hx hb dX12_sheet_86 (by decide) ?_
                                                                        refine lz_astc hx hb hK hP hD hS 11 0 rfl rfl (lz_vp (x := 24) (n := 160) (by decide) (by decide)) dX12_sheet_87 (fun H locs hP hD hS => ?_)
                                                                        refine lv_iinc (v := 25) (lv' := [(4, .int 25), (0, .ref h0), (1, .int 0), (2, .int (-1)), (3, .int x2)]) hx hb dX12_sheet_88 hl (k := 0) rfl (by decide) (by decide) rfl (fun ls hl => ?_)
                                                                        refine lv_goto (tgt := 68) hx hb dX12_sheet_91 (by decide) ?_
                                                                        refine lv_iload hx hb dX12_sheet_68 (lv_at hl 0 rfl) ?_
                                                                        refine lv_bipush (v := 40) hx hb dX12_sheet_70 (by decide) ?_
                                                                        refine lv_icmp_ge (tgt := 94) hx hb dX12_sheet_72 (by decide) (fun c909 => ?_) (fun c909 => ?_)
                                                                        · exact absurd c909 (by decide)
                                                                        · refine lv_aload_n hx hb dX12_sheet_75 rfl (lv_at hl 1 rfl) ?_
                                                                          refine va_get (D := D) (ci := 12) (v := .ref h11) (C := RX12) (T := TX12) (N := 24) hx hb hts hin12 hown hK hP 0 rfl rfl 18 (by decide) (hts (.fieldLink RX12 44 "MissedPointsModel" "items" "[I") (by decide +kernel)) (fun _ h9 => h9) rfl dX12_sheet_76 ?_
                                                                          refine lv_bipush (v := 40) hx hb dX12_sheet_79 (by decide) ?_
                                                                          refine lv_iload_n hx hb dX12_sheet_81 rfl (lv_at hl 2 rfl) ?_
                                                                          refine lv_imul hx hb dX12_sheet_82 ?_
                                                                          refine lz_top (y := 0) (by decide) ?_
                                                                          refine lv_iload hx hb dX12_sheet_83 (lv_at hl 0 rfl) ?_
                                                                          refine lv_iadd hx hb dX12_sheet_85 ?_
                                                                          refine lz_top (y := 25) (by decide) ?_
                                                                          refine lv_iconst (v := 0) hx hb dX12_sheet_86 (by decide) ?_
                                                                          refine lz_astc hx hb hK hP hD hS 11 0 rfl rfl (lz_vp (x := 25) (n := 160) (by decide) (by decide)) dX12_sheet_87 (fun H locs hP hD hS => ?_)
                                                                          refine lv_iinc (v := 26) (lv' := [(4, .int 26), (0, .ref h0), (1, .int 0), (2, .int (-1)), (3, .int x2)]) hx hb dX12_sheet_88 hl (k := 0) rfl (by decide) (by decide) rfl (fun ls hl => ?_)
                                                                          refine lv_goto (tgt := 68) hx hb dX12_sheet_91 (by decide) ?_
                                                                          refine lv_iload hx hb dX12_sheet_68 (lv_at hl 0 rfl) ?_
                                                                          refine lv_bipush (v := 40) hx hb dX12_sheet_70 (by decide) ?_
                                                                          refine lv_icmp_ge (tgt := 94) hx hb dX12_sheet_72 (by decide) (fun c910 => ?_) (fun c910 => ?_)
                                                                          · exact absurd c910 (by decide)
                                                                          · refine lv_aload_n hx hb dX12_sheet_75 rfl (lv_at hl 1 rfl) ?_
                                                                            refine va_get (D := D) (ci := 12) (v := .ref h11) (C := RX12) (T := TX12) (N := 24) hx hb hts hin12 hown hK hP 0 rfl rfl 18 (by decide) (hts (.fieldLink RX12 44 "MissedPointsModel" "items" "[I") (by decide +kernel)) (fun _ h9 => h9) rfl dX12_sheet_76 ?_
                                                                            refine lv_bipush (v := 40) hx hb dX12_sheet_79 (by decide) ?_
                                                                            refine lv_iload_n hx hb dX12_sheet_81 rfl (lv_at hl 2 rfl) ?_
                                                                            refine lv_imul hx hb dX12_sheet_82 ?_
                                                                            refine lz_top (y := 0) (by decide) ?_
                                                                            refine lv_iload hx hb dX12_sheet_83 (lv_at hl 0 rfl) ?_
                                                                            refine lv_iadd hx hb dX12_sheet_85 ?_
                                                                            refine lz_top (y := 26) (by decide) ?_
                                                                            refine lv_iconst (v := 0) hx hb dX12_sheet_86 (by decide) ?_
                                                                            refine lz_astc hx hb hK hP hD hS 11 0 rfl rfl (lz_vp (x := 26) (n := 160) (by decide) (by decide)) dX12_sheet_87 (fun H locs hP hD hS => ?_)
                                                                            refine lv_iinc (v := 27) (lv' := [(4, .int 27), (0, .ref h0), (1, .int 0), (2, .int (-1)), (3, .int x2)]) hx hb dX12_sheet_88 hl (k := 0) rfl (by decide) (by decide) rfl (fun ls hl => ?_)
                                                                            refine lv_goto (tgt := 68) hx hb dX12_sheet_91 (by decide) ?_
                                                                            refine lv_iload hx hb dX12_sheet_68 (lv_at hl 0 rfl) ?_
                                                                            refine lv_bipush (v := 40) hx hb dX12_sheet_70 (by decide) ?_
                                                                            refine lv_icmp_ge (tgt := 94) hx hb dX12_sheet_72 (by decide) (fun c911 => ?_) (fun c911 => ?_)
                                                                            · exact absurd c911 (by decide)
                                                                            · refine lv_aload_n hx hb dX12_sheet_75 rfl (lv_at hl 1 rfl) ?_
                                                                              refine va_get (D := D) (ci := 12) (v := .ref h11) (C := RX12) (T := TX12) (N := 24) hx hb hts hin12 hown hK hP 0 rfl rfl 18 (by decide) (hts (.fieldLink RX12 44 "MissedPointsModel" "items" "[I") (by decide +kernel)) (fun _ h9 => h9) rfl dX12_sheet_76 ?_
                                                                              refine lv_bipush (v := 40) hx hb dX12_sheet_79 (by decide) ?_
                                                                              refine lv_iload_n hx hb dX12_sheet_81 rfl (lv_at hl 2 rfl) ?_
                                                                              refine lv_imul hx hb dX12_sheet_82 ?_
                                                                              refine lz_top (y := 0) (by decide) ?_
                                                                              refine lv_iload hx hb dX12_sheet_83 (lv_at hl 0 rfl) ?_
                                                                              refine lv_iadd hx hb dX12_sheet_85 ?_
                                                                              refine lz_top (y := 27) (by decide) ?_
                                                                              refine lv_iconst (v := 0) hx hb dX12_sheet_86 (by decide) ?_
                                                                              refine lz_astc hx hb hK hP hD hS 11 0 rfl rfl (lz_vp (x := 27) (n := 160) (by decide) (by decide)) dX12_sheet_87 (fun H locs hP hD hS => ?_)
                                                                              refine lv_iinc (v := 28) (lv' := [(4, .int 28), (0, .ref h0), (1, .int 0), (2, .int (-1)), (3, .int x2)]) hx hb dX12_sheet_88 hl (k := 0) rfl (by decide) (by decide) rfl (fun ls hl => ?_)
                                                                              refine lv_goto (tgt := 68) hx hb dX12_sheet_91 (by decide) ?_
                                                                              refine lv_iload hx hb dX12_sheet_68 (lv_at hl 0 rfl) ?_
                                                                              refine lv_bipush (v := 40) hx hb dX12_sheet_70 (by decide) ?_
                                                                              refine lv_icmp_ge (tgt := 94) hx hb dX12_sheet_72 (by decide) (fun c912 => ?_) (fun c912 => ?_)
                                                                              · exact absurd c912 (by decide)
                                                                              · refine lv_aload_n hx hb dX12_sheet_75 rfl (lv_at hl 1 rfl) ?_
                                                                                refine va_get (D := D) (ci := 12) (v := .ref h11) (C := RX12) (T := TX12) (N := 24) hx hb hts hin12 hown hK hP 0 rfl rfl 18 (by decide) (hts (.fieldLink RX12 44 "MissedPointsModel" "items" "[I") (by decide +kernel)) (fun _ h9 => h9) rfl dX12_sheet_76 ?_
                                                                                refine lv_bipush (v := 40) hx hb dX12_sheet_79 (by decide) ?_
                                                                                refine lv_iload_n hx hb dX12_sheet_81 rfl (lv_at hl 2 rfl) ?_
                                                                                refine lv_imul hx hb dX12_sheet_82 ?_
                                                                                refine lz_top (y := 0) (by decide) ?_
                                                                                refine lv_iload hx hb dX12_sheet_83 (lv_at hl 0 rfl) ?_
                                                                                refine lv_iadd hx hb dX12_sheet_85 ?_
                                                                                refine lz_top (y := 28) (by decide) ?_
                                                                                refine lv_iconst (v := 0) hx hb dX12_sheet_86 (by decide) ?_
                                                                                refine lz_astc hx hb hK hP hD hS 11 0 rfl rfl (lz_vp (x := 28) (n := 160) (by decide) (by decide)) dX12_sheet_87 (fun H locs hP hD hS => ?_)
                                                                                refine lv_iinc (v := 29) (lv' := [(4, .int 29), (0, .ref h0), (1, .int 0), (2, .int (-1)), (3, .int x2)]) hx hb dX12_sheet_88 hl (k := 0) rfl (by decide) (by decide) rfl (fun ls hl => ?_)
                                                                                refine lv_goto (tgt := 68) hx hb dX12_sheet_91 (by decide) ?_
                                                                                refine lv_iload hx hb dX12_sheet_68 (lv_at hl 0 rfl) ?_
                                                                                refine lv_bipush (v := 40) hx hb dX12_sheet_70 (by decide) ?_
                                                                                refine lv_icmp_ge (tgt := 94) hx hb dX12_sheet_72 (by decide) (fun c913 => ?_) (fun c913 => ?_)
                                                                                · exact absurd c913 (by decide)
                                                                                · refine lv_aload_n hx hb dX12_sheet_75 rfl (lv_at hl 1 rfl) ?_
                                                                                  refine va_get (D := D) (ci := 12) (v := .ref h11) (C := RX12) (T := TX12) (N := 24) hx hb hts hin12 hown hK hP 0 rfl rfl 18 (by decide) (hts (.fieldLink RX12 44 "MissedPointsModel" "items" "[I") (by decide +kernel)) (fun _ h9 => h9) rfl dX12_sheet_76 ?_
                                                                                  refine lv_bipush (v := 40) hx hb dX12_sheet_79 (by decide) ?_
                                                                                  refine lv_iload_n hx hb dX12_sheet_81 rfl (lv_at hl 2 rfl) ?_
                                                                                  refine lv_imul hx hb dX12_sheet_82 ?_
                                                                                  refine lz_top (y := 0) (by decide) ?_
                                                                                  refine lv_iload hx hb dX12_sheet_83 (lv_at hl 0 rfl) ?_
                                                                                  refine lv_iadd hx hb dX12_sheet_85 ?_
                                                                                  refine lz_top (y := 29) (by decide) ?_
                                                                                  refine lv_iconst (v := 0) hx hb dX12_sheet_86 (by decide) ?_
                                                                                  refine lz_astc hx hb hK hP hD hS 11 0 rfl rfl (lz_vp (x := 29) (n := 160) (by decide) (by decide)) dX12_sheet_87 (fun H locs hP hD hS => ?_)
                                                                                  refine lv_iinc (v := 30) (lv' := [(4, .int 30), (0, .ref h0), (1, .int 0), (2, .int (-1)), (3, .int x2)]) hx hb dX12_sheet_88 hl (k := 0) rfl (by decide) (by decide) rfl (fun ls hl => ?_)
                                                                                  refine lv_goto (tgt := 68) hx hb dX12_sheet_91 (by decide) ?_
                                                                                  refine lv_iload hx hb dX12_sheet_68 (lv_at hl 0 rfl) ?_
                                                                                  refine lv_bipush (v := 40) hx hb dX12_sheet_70 (by decide) ?_
                                                                                  refine lv_icmp_ge (tgt := 94) hx hb dX12_sheet_72 (by decide) (fun c914 => ?_) (fun c914 => ?_)
                                                                                  · exact absurd c914 (by decide)
                                                                                  · refine lv_aload_n hx hb dX12_sheet_75 rfl (lv_at hl 1 rfl) ?_
                                                                                    refine va_get (D := D) (ci := 12) (v := .ref h11) (C := RX12) (T := TX12) (N := 24) hx hb hts hin12 hown hK hP 0 rfl rfl 18 (by decide) (hts (.fieldLink RX12 44 "MissedPointsModel" "items" "[I") (by decide +kernel)) (fun _ h9 => h9) rfl dX12_sheet_76 ?_
                                                                                    refine lv_bipush (v := 40) hx hb dX12_sheet_79 (by decide) ?_
                                                                                    refine lv_iload_n hx hb dX12_sheet_81 rfl (lv_at hl 2 rfl) ?_
                                                                                    refine lv_imul hx hb dX12_sheet_82 ?_
                                                                                    refine lz_top (y := 0) (by decide) ?_
                                                                                    refine lv_iload hx hb dX12_sheet_83 (lv_at hl 0 rfl) ?_
                                                                                    refine lv_iadd hx hb dX12_sheet_85 ?_
                                                                                    refine lz_top (y := 30) (by decide) ?_
                                                                                    refine lv_iconst (v := 0) hx hb dX12_sheet_86 (by decide) ?_
                                                                                    refine lz_astc hx hb hK hP hD hS 11 0 rfl rfl (lz_vp (x := 30) (n := 160) (by decide) (by decide)) dX12_sheet_87 (fun H locs hP hD hS => ?_)
                                                                                    refine lv_iinc (v := 31) (lv' := [(4, .int 31), (0, .ref h0), (1, .int 0), (2, .int (-1)), (3, .int x2)]) hx hb dX12_sheet_88 hl (k := 0) rfl (by decide) (by decide) rfl (fun ls hl => ?_)
                                                                                    refine lv_goto (tgt := 68) hx hb dX12_sheet_91 (by decide) ?_
                                                                                    refine lv_iload hx hb dX12_sheet_68 (lv_at hl 0 rfl) ?_
                                                                                    refine lv_bipush (v := 40) hx hb dX12_sheet_70 (by decide) ?_
                                                                                    refine lv_icmp_ge (tgt := 94) hx hb dX12_sheet_72 (by decide) (fun c915 => ?_) (fun c915 => ?_)
                                                                                    · exact absurd c915 (by decide)
                                                                                    · refine lv_aload_n hx hb dX12_sheet_75 rfl (lv_at hl 1 rfl) ?_
                                                                                      refine va_get (D := D) (ci := 12) (v := .ref h11) (C := RX12) (T := TX12) (N := 24) hx hb hts hin12 hown hK hP 0 rfl rfl 18 (by decide) (hts (.fieldLink RX12 44 "MissedPointsModel" "items" "[I") (by decide +kernel)) (fun _ h9 => h9) rfl dX12_sheet_76 ?_
                                                                                      refine lv_bipush (v := 40) hx hb dX12_sheet_79 (by decide) ?_
                                                                                      refine lv_iload_n hx hb dX12_sheet_81 rfl (lv_at hl 2 rfl) ?_
                                                                                      refine lv_imul hx hb dX12_sheet_82 ?_
                                                                                      refine lz_top (y := 0) (by decide) ?_
                                                                                      refine lv_iload hx hb dX12_sheet_83 (lv_at hl 0 rfl) ?_
                                                                                      refine lv_iadd hx hb dX12_sheet_85 ?_
                                                                                      refine lz_top (y := 31) (by decide) ?_
                                                                                      refine lv_iconst (v := 0) hx hb dX12_sheet_86 (by decide) ?_
                                                                                      refine lz_astc hx hb hK hP hD hS 11 0 rfl rfl (lz_vp (x := 31) (n := 160) (by decide) (by decide)) dX12_sheet_87 (fun H locs hP hD hS => ?_)
                                                                                      refine lv_iinc (v := 32) (lv' := [(4, .int 32), (0, .ref h0), (1, .int 0), (2, .int (-1)), (3, .int x2)]) hx hb dX12_sheet_88 hl (k := 0) rfl (by decide) (by decide) rfl (fun ls hl => ?_)
                                                                                      refine lv_goto (tgt := 68) hx hb dX12_sheet_91 (by decide) ?_
                                                                                      refine lv_iload hx hb dX12_sheet_68 (lv_at hl 0 rfl) ?_
                                                                                      refine lv_bipush (v := 40) hx hb dX12_sheet_70 (by decide) ?_
                                                                                      refine lv_icmp_ge (tgt := 94) hx hb dX12_sheet_72 (by decide) (fun c916 => ?_) (fun c916 => ?_)
                                                                                      · exact absurd c916 (by decide)
                                                                                      · refine lv_aload_n hx hb dX12_sheet_75 rfl (lv_at hl 1 rfl) ?_
                                                                                        refine va_get (D := D) (ci := 12) (v := .ref h11) (C := RX12) (T := TX12) (N := 24) hx hb hts hin12 hown hK hP 0 rfl rfl 18 (by decide) (hts (.fieldLink RX12 44 "MissedPointsModel" "items" "[I") (by decide +kernel)) (fun _ h9 => h9) rfl dX12_sheet_76 ?_
                                                                                        refine lv_bipush (v := 40) hx hb dX12_sheet_79 (by decide) ?_
                                                                                        refine lv_iload_n hx hb dX12_sheet_81 rfl (lv_at hl 2 rfl) ?_
                                                                                        refine lv_imul hx hb dX12_sheet_82 ?_
                                                                                        refine lz_top (y := 0) (by decide) ?_
                                                                                        refine lv_iload hx hb dX12_sheet_83 (lv_at hl 0 rfl) ?_
                                                                                        refine lv_iadd hx hb dX12_sheet_85 ?_
                                                                                        refine lz_top (y := 32) (by decide) ?_
                                                                                        refine lv_iconst (v := 0) hx hb dX12_sheet_86 (by decide) ?_
                                                                                        refine lz_astc hx hb hK hP hD hS 11 0 rfl rfl (lz_vp (x := 32) (n := 160) (by decide) (by decide)) dX12_sheet_87 (fun H locs hP hD hS => ?_)
                                                                                        refine lv_iinc (v := 33) (lv' := [(4, .int 33), (0, .ref h0), (1, .int 0), (2, .int (-1)), (3, .int x2)]) hx hb dX12_sheet_88 hl (k := 0) rfl (by decide) (by decide) rfl (fun ls hl => ?_)
                                                                                        refine lv_goto (tgt := 68) hx hb dX12_sheet_91 (by decide) ?_
                                                                                        refine lv_iload hx hb dX12_sheet_68 (lv_at hl 0 rfl) ?_
                                                                                        refine lv_bipush (v := 40) hx hb dX12_sheet_70 (by decide) ?_
                                                                                        refine lv_icmp_ge (tgt := 94) hx hb dX12_sheet_72 (by decide) (fun c917 => ?_) (fun c917 => ?_)
                                                                                        · exact absurd c917 (by decide)
                                                                                        · refine lv_aload_n hx hb dX12_sheet_75 rfl (lv_at hl 1 rfl) ?_
                                                                                          refine va_get (D := D) (ci := 12) (v := .ref h11) (C := RX12) (T := TX12) (N := 24) hx hb hts hin12 hown hK hP 0 rfl rfl 18 (by decide) (hts (.fieldLink RX12 44 "MissedPointsModel" "items" "[I") (by decide +kernel)) (fun _ h9 => h9) rfl dX12_sheet_76 ?_
                                                                                          refine lv_bipush (v := 40) hx hb dX12_sheet_79 (by decide) ?_
                                                                                          refine lv_iload_n hx hb dX12_sheet_81 rfl (lv_at hl 2 rfl) ?_
                                                                                          refine lv_imul hx hb dX12_sheet_82 ?_
                                                                                          refine lz_top (y := 0) (by decide) ?_
                                                                                          refine lv_iload hx hb dX12_sheet_83 (lv_at hl 0 rfl) ?_
                                                                                          refine lv_iadd hx hb dX12_sheet_85 ?_
                                                                                          refine lz_top (y := 33) (by decide) ?_
                                                                                          refine lv_iconst (v := 0) hx hb dX12_sheet_86 (by decide) ?_
                                                                                          refine lz_astc hx hb hK hP hD hS 11 0 rfl rfl (lz_vp (x := 33) (n := 160) (by decide) (by decide)) dX12_sheet_87 (fun H locs hP hD hS => ?_)
                                                                                          refine lv_iinc (v := 34) (lv' := [(4, .int 34), (0, .ref h0), (1, .int 0), (2, .int (-1)), (3, .int x2)]) hx hb dX12_sheet_88 hl (k := 0) rfl (by decide) (by decide) rfl (fun ls hl => ?_)
                                                                                          refine lv_goto (tgt := 68) hx hb dX12_sheet_91 (by decide) ?_
                                                                                          refine lv_iload hx hb dX12_sheet_68 (lv_at hl 0 rfl) ?_
                                                                                          refine lv_bipush (v := 40) hx hb dX12_sheet_70 (by decide) ?_
                                                                                          refine lv_icmp_ge (tgt := 94) hx hb dX12_sheet_72 (by decide) (fun c918 => ?_) (fun c918 => ?_)
                                                                                          · exact absurd c918 (by decide)
                                                                                          · refine lv_aload_n hx hb dX12_sheet_75 rfl (lv_at hl 1 rfl) ?_
                                                                                            refine va_get (D := D) (ci := 12) (v := .ref h11) (C := RX12) (T := TX12) (N := 24) hx hb hts hin12 hown hK hP 0 rfl rfl 18 (by decide) (hts (.fieldLink RX12 44 "MissedPointsModel" "items" "[I") (by decide +kernel)) (fun _ h9 => h9) rfl dX12_sheet_76 ?_
                                                                                            refine lv_bipush (v := 40) hx hb dX12_sheet_79 (by decide) ?_
                                                                                            refine lv_iload_n hx hb dX12_sheet_81 rfl (lv_at hl 2 rfl) ?_
                                                                                            refine lv_imul hx hb dX12_sheet_82 ?_
                                                                                            refine lz_top (y := 0) (by decide) ?_
                                                                                            refine lv_iload hx hb dX12_sheet_83 (lv_at hl 0 rfl) ?_
                                                                                            refine lv_iadd hx hb dX12_sheet_85 ?_
                                                                                            refine lz_top (y := 34) (by decide) ?_
                                                                                            refine lv_iconst (v := 0) hx hb dX12_sheet_86 (by decide) ?_
                                                                                            refine lz_astc hx hb hK hP hD hS 11 0 rfl rfl (lz_vp (x := 34) (n := 160) (by decide) (by decide)) dX12_sheet_87 (fun H locs hP hD hS => ?_)
                                                                                            refine lv_iinc (v := 35) (lv' := [(4, .int 35), (0, .ref h0), (1, .int 0), (2, .int (-1)), (3, .int x2)]) hx hb dX12_sheet_88 hl (k := 0) rfl (by decide) (by decide) rfl (fun ls hl => ?_)
                                                                                            refine lv_goto (tgt := 68) hx hb dX12_sheet_91 (by decide) ?_
                                                                                            refine lv_iload hx hb dX12_sheet_68 (lv_at hl 0 rfl) ?_
                                                                                            refine lv_bipush (v := 40) hx hb dX12_sheet_70 (by decide) ?_
                                                                                            refine lv_icmp_ge (tgt := 94) hx hb dX12_sheet_72 (by decide) (fun c919 => ?_) (fun c919 => ?_)
                                                                                            · exact absurd c919 (by decide)
                                                                                            · refine lv_aload_n hx hb dX12_sheet_75 rfl (lv_at hl 1 rfl) ?_
                                                                                              refine va_get (D := D) (ci := 12) (v := .ref h11) (C := RX12) (T := TX12) (N := 24) hx hb hts hin12 hown hK hP 0 rfl rfl 18 (by decide) (hts (.fieldLink RX12 44 "MissedPointsModel" "items" "[I") (by decide +kernel)) (fun _ h9 => h9) rfl dX12_sheet_76 ?_
                                                                                              refine lv_bipush (v := 40) hx hb dX12_sheet_79 (by decide) ?_
                                                                                              refine lv_iload_n hx hb dX12_sheet_81 rfl (lv_at hl 2 rfl) ?_
                                                                                              refine lv_imul hx hb dX12_sheet_82 ?_
                                                                                              refine lz_top (y := 0) (by decide) ?_
                                                                                              refine lv_iload hx hb dX12_sheet_83 (lv_at hl 0 rfl) ?_
                                                                                              refine lv_iadd hx hb dX12_sheet_85 ?_
                                                                                              refine lz_top (y := 35) (by decide) ?_
                                                                                              refine lv_iconst (v := 0) hx hb dX12_sheet_86 (by decide) ?_
                                                                                              refine lz_astc hx hb hK hP hD hS 11 0 rfl rfl (lz_vp (x := 35) (n := 160) (by decide) (by decide)) dX12_sheet_87 (fun H locs hP hD hS => ?_)
                                                                                              refine lv_iinc (v := 36) (lv' := [(4, .int 36), (0, .ref h0), (1, .int 0), (2, .int (-1)), (3, .int x2)]) hx hb dX12_sheet_88 hl (k := 0) rfl (by decide) (by decide) rfl (fun ls hl => ?_)
                                                                                              refine lv_goto (tgt := 68) hx hb dX12_sheet_91 (by decide) ?_
                                                                                              refine lv_iload hx hb dX12_sheet_68 (lv_at hl 0 rfl) ?_
                                                                                              refine lv_bipush (v := 40) hx hb dX12_sheet_70 (by decide) ?_
                                                                                              refine lv_icmp_ge (tgt := 94) hx hb dX12_sheet_72 (by decide) (fun c920 => ?_) (fun c920 => ?_)
                                                                                              · exact absurd c920 (by decide)
                                                                                              · refine lv_aload_n hx hb dX12_sheet_75 rfl (lv_at hl 1 rfl) ?_
                                                                                                refine va_get (D := D) (ci := 12) (v := .ref h11) (C := RX12) (T := TX12) (N := 24) hx hb hts hin12 hown hK hP 0 rfl rfl 18 (by decide) (hts (.fieldLink RX12 44 "MissedPointsModel" "items" "[I") (by decide +kernel)) (fun _ h9 => h9) rfl dX12_sheet_76 ?_
                                                                                                refine lv_bipush (v := 40) hx hb dX12_sheet_79 (by decide) ?_
                                                                                                refine lv_iload_n hx hb dX12_sheet_81 rfl (lv_at hl 2 rfl) ?_
                                                                                                refine lv_imul hx hb dX12_sheet_82 ?_
                                                                                                refine lz_top (y := 0) (by decide) ?_
                                                                                                refine lv_iload hx hb dX12_sheet_83 (lv_at hl 0 rfl) ?_
                                                                                                refine lv_iadd hx hb dX12_sheet_85 ?_
                                                                                                refine lz_top (y := 36) (by decide) ?_
                                                                                                refine lv_iconst (v := 0) hx hb dX12_sheet_86 (by decide) ?_
                                                                                                refine lz_astc hx hb hK hP hD hS 11 0 rfl rfl (lz_vp (x := 36) (n := 160) (by decide) (by decide)) dX12_sheet_87 (fun H locs hP hD hS => ?_)
                                                                                                refine lv_iinc (v := 37) (lv' := [(4, .int 37), (0, .ref h0), (1, .int 0), (2, .int (-1)), (3, .int x2)]) hx hb dX12_sheet_88 hl (k := 0) rfl (by decide) (by decide) rfl (fun ls hl => ?_)
                                                                                                refine lv_goto (tgt := 68) hx hb dX12_sheet_91 (by decide) ?_
                                                                                                refine lv_iload hx hb dX12_sheet_68 (lv_at hl 0 rfl) ?_
                                                                                                refine lv_bipush (v := 40) hx hb dX12_sheet_70 (by decide) ?_
                                                                                                refine lv_icmp_ge (tgt := 94) hx hb dX12_sheet_72 (by decide) (fun c921 => ?_) (fun c921 => ?_)
                                                                                                · exact absurd c921 (by decide)
                                                                                                · refine lv_aload_n hx hb dX12_sheet_75 rfl (lv_at hl 1 rfl) ?_
                                                                                                  refine va_get (D := D) (ci := 12) (v := .ref h11) (C := RX12) (T := TX12) (N := 24) hx hb hts hin12 hown hK hP 0 rfl rfl 18 (by decide) (hts (.fieldLink RX12 44 "MissedPointsModel" "items" "[I") (by decide +kernel)) (fun _ h9 => h9) rfl dX12_sheet_76 ?_
                                                                                                  refine lv_bipush (v := 40) hx hb dX12_sheet_79 (by decide) ?_
                                                                                                  refine lv_iload_n hx hb dX12_sheet_81 rfl (lv_at hl 2 rfl) ?_
                                                                                                  refine lv_imul hx hb dX12_sheet_82 ?_
                                                                                                  refine lz_top (y := 0) (by decide) ?_
                                                                                                  refine lv_iload hx hb dX12_sheet_83 (lv_at hl 0 rfl) ?_
                                                                                                  refine lv_iadd hx hb dX12_sheet_85 ?_
                                                                                                  refine lz_top (y := 37) (by decide) ?_
                                                                                                  refine lv_iconst (v := 0) hx hb dX12_sheet_86 (by decide) ?_
                                                                                                  refine lz_astc hx hb hK hP hD hS 11 0 rfl rfl (lz_vp (x := 37) (n := 160) (by decide) (by decide)) dX12_sheet_87 (fun H locs hP hD hS => ?_)
                                                                                                  refine lv_iinc (v := 38) (lv' := [(4, .int 38), (0, .ref h0), (1, .int 0), (2, .int (-1)), (3, .int x2)]) hx hb dX12_sheet_88 hl (k := 0) rfl (by decide) (by decide) rfl (fun ls hl => ?_)
                                                                                                  refine lv_goto (tgt := 68) hx hb dX12_sheet_91 (by decide) ?_
                                                                                                  refine lv_iload hx hb dX12_sheet_68 (lv_at hl 0 rfl) ?_
                                                                                                  refine lv_bipush (v := 40) hx hb dX12_sheet_70 (by decide) ?_
                                                                                                  refine lv_icmp_ge (tgt := 94) hx hb dX12_sheet_72 (by decide) (fun c922 => ?_) (fun c922 => ?_)
                                                                                                  · exact absurd c922 (by decide)
                                                                                                  · refine lv_aload_n hx hb dX12_sheet_75 rfl (lv_at hl 1 rfl) ?_
                                                                                                    refine va_get (D := D) (ci := 12) (v := .ref h11) (C := RX12) (T := TX12) (N := 24) hx hb hts hin12 hown hK hP 0 rfl rfl 18 (by decide) (hts (.fieldLink RX12 44 "MissedPointsModel" "items" "[I") (by decide +kernel)) (fun _ h9 => h9) rfl dX12_sheet_76 ?_
                                                                                                    refine lv_bipush (v := 40) hx hb dX12_sheet_79 (by decide) ?_
                                                                                                    refine lv_iload_n hx hb dX12_sheet_81 rfl (lv_at hl 2 rfl) ?_
                                                                                                    refine lv_imul hx hb dX12_sheet_82 ?_
                                                                                                    refine lz_top (y := 0) (by decide) ?_
                                                                                                    refine lv_iload hx hb dX12_sheet_83 (lv_at hl 0 rfl) ?_
                                                                                                    refine lv_iadd hx hb dX12_sheet_85 ?_
                                                                                                    refine lz_top (y := 38) (by decide) ?_
                                                                                                    refine lv_iconst (v := 0) hx hb dX12_sheet_86 (by decide) ?_
                                                                                                    refine lz_astc hx hb hK hP hD hS 11 0 rfl rfl (lz_vp (x := 38) (n := 160) (by decide) (by decide)) dX12_sheet_87 (fun H locs hP hD hS => ?_)
                                                                                                    refine lv_iinc (v := 39) (lv' := [(4, .int 39), (0, .ref h0), (1, .int 0), (2, .int (-1)), (3, .int x2)]) hx hb dX12_sheet_88 hl (k := 0) rfl (by decide) (by decide) rfl (fun ls hl => ?_)
                                                                                                    refine lv_goto (tgt := 68) hx hb dX12_sheet_91 (by decide) ?_
                                                                                                    refine lv_iload hx hb dX12_sheet_68 (lv_at hl 0 rfl) ?_
                                                                                                    refine lv_bipush (v := 40) hx hb dX12_sheet_70 (by decide) ?_
                                                                                                    refine lv_icmp_ge (tgt := 94) hx hb dX12_sheet_72 (by decide) (fun c923 => ?_) (fun c923 => ?_)
                                                                                                    · exact absurd c923 (by decide)
                                                                                                    · refine lv_aload_n hx hb dX12_sheet_75 rfl (lv_at hl 1 rfl) ?_
                                                                                                      refine va_get (D := D) (ci := 12) (v := .ref h11) (C := RX12) (T := TX12) (N := 24) hx hb hts hin12 hown hK hP 0 rfl rfl 18 (by decide) (hts (.fieldLink RX12 44 "MissedPointsModel" "items" "[I") (by decide +kernel)) (fun _ h9 => h9) rfl dX12_sheet_76 ?_
                                                                                                      refine lv_bipush (v := 40) hx hb dX12_sheet_79 (by decide) ?_
                                                                                                      refine lv_iload_n hx hb dX12_sheet_81 rfl (lv_at hl 2 rfl) ?_
                                                                                                      refine lv_imul hx hb dX12_sheet_82 ?_
                                                                                                      refine lz_top (y := 0) (by decide) ?_
                                                                                                      refine lv_iload hx hb dX12_sheet_83 (lv_at hl 0 rfl) ?_
                                                                                                      refine lv_iadd hx hb dX12_sheet_85 ?_
                                                                                                      refine lz_top (y := 39) (by decide) ?_
                                                                                                      refine lv_iconst (v := 0) hx hb dX12_sheet_86 (by decide) ?_
                                                                                                      refine lz_astc hx hb hK hP hD hS 11 0 rfl rfl (lz_vp (x := 39) (n := 160) (by decide) (by decide)) dX12_sheet_87 (fun H locs hP hD hS => ?_)
                                                                                                      refine lv_iinc (v := 40) (lv' := [(4, .int 40), (0, .ref h0), (1, .int 0), (2, .int (-1)), (3, .int x2)]) hx hb dX12_sheet_88 hl (k := 0) rfl (by decide) (by decide) rfl (fun ls hl => ?_)
                                                                                                      refine lv_goto (tgt := 68) hx hb dX12_sheet_91 (by decide) ?_
                                                                                                      refine lv_iload hx hb dX12_sheet_68 (lv_at hl 0 rfl) ?_
                                                                                                      refine lv_bipush (v := 40) hx hb dX12_sheet_70 (by decide) ?_
                                                                                                      refine lv_icmp_ge (tgt := 94) hx hb dX12_sheet_72 (by decide) (fun c924 => ?_) (fun c924 => ?_)
                                                                                                      · refine lv_iconst (v := 1) hx hb dX12_sheet_94 (by decide) ?_
                                                                                                        have hP9 := hP.sub (ws' := []) [] rfl
                                                                                                        have hD9 := hD.sub (ws' := []) [] (by decide) rfl
                                                                                                        subst hAe
                                                                                                        exact W.iret (v := 1) hx hb hr (fun t ht hW => ⟨⟨_, (), rfl, by rw [if_neg k867, if_neg k869, if_neg k875, if_neg k877, if_pos rfl], by rw [ht]; exact hP9, hD9⟩, hS.F ht⟩) hS.2.2 dX12_sheet_95
                                                                                                      · exact absurd c924 (by decide)
                  · by_cases k925 : x0 = 1
                    · subst k925
                      refine lv_aload_n hx hb dX12_sheet_42 rfl (lv_at hl 0 rfl) ?_
                      refine va_get (D := D) (ci := 12) (v := .ref h9) (C := RX12) (T := TX12) (N := 24) hx hb hts hin12 hown hK hP 0 rfl rfl 16 (by decide) (hts (.fieldLink RX12 38 "MissedPointsModel" "sort" "[I") (by decide +kernel)) (fun _ h9 => h9) rfl dX12_sheet_43 ?_
                      refine lv_iload_n hx hb dX12_sheet_46 rfl (lv_at hl 1 rfl) ?_
                      refine lv_iload_n hx hb dX12_sheet_47 rfl (lv_at hl 2 rfl) ?_
                      refine lz_astc hx hb hK hP hD hS 9 0 rfl rfl (lz_vp (x := 1) (n := 4) (by decide) (by decide)) dX12_sheet_48 (fun H locs hP hD hS => ?_)
                      refine lv_aload_n hx hb dX12_sheet_49 rfl (lv_at hl 0 rfl) ?_
                      refine va_get (D := D) (ci := 12) (v := .ref h10) (C := RX12) (T := TX12) (N := 24) hx hb hts hin12 hown hK hP 0 rfl rfl 17 (by decide) (hts (.fieldLink RX12 41 "MissedPointsModel" "size" "[I") (by decide +kernel)) (fun _ h9 => h9) rfl dX12_sheet_50 ?_
                      refine lv_iload_n hx hb dX12_sheet_53 rfl (lv_at hl 1 rfl) ?_
                      refine lv_iload_n hx hb dX12_sheet_54 rfl (lv_at hl 2 rfl) ?_
                      refine lv_iconst (v := (-1)) hx hb dX12_sheet_55 (by decide) ?_
                      refine lv_icmp_ne (tgt := 63) hx hb dX12_sheet_56 (by decide) (fun c926 => ?_) (fun c926 => ?_)
                      · exact absurd c926 (by decide)
                      · refine lv_iconst (v := 0) hx hb dX12_sheet_59 (by decide) ?_
                        refine lv_goto (tgt := 64) hx hb dX12_sheet_60 (by decide) ?_
                        refine lz_astc hx hb hK hP hD hS 10 0 rfl rfl (lz_vp (x := 1) (n := 4) (by decide) (by decide)) dX12_sheet_64 (fun H locs hP hD hS => ?_)
                        refine lv_iconst (v := 0) hx hb dX12_sheet_65 (by decide) ?_
                        refine lv_istore (lv' := [(4, .int 0), (0, .ref h0), (1, .int 1), (2, .int (-1)), (3, .int x2)]) hx hb dX12_sheet_66 hl (by decide) rfl (fun ls hl => ?_)
                        refine lv_iload hx hb dX12_sheet_68 (lv_at hl 0 rfl) ?_
                        refine lv_bipush (v := 40) hx hb dX12_sheet_70 (by decide) ?_
                        refine lv_icmp_ge (tgt := 94) hx hb dX12_sheet_72 (by decide) (fun c927 => ?_) (fun c927 => ?_)
                        · exact absurd c927 (by decide)
                        · refine lv_aload_n hx hb dX12_sheet_75 rfl (lv_at hl 1 rfl) ?_
                          refine va_get (D := D) (ci := 12) (v := .ref h11) (C := RX12) (T := TX12) (N := 24) hx hb hts hin12 hown hK hP 0 rfl rfl 18 (by decide) (hts (.fieldLink RX12 44 "MissedPointsModel" "items" "[I") (by decide +kernel)) (fun _ h9 => h9) rfl dX12_sheet_76 ?_
                          refine lv_bipush (v := 40) hx hb dX12_sheet_79 (by decide) ?_
                          refine lv_iload_n hx hb dX12_sheet_81 rfl (lv_at hl 2 rfl) ?_
                          refine lv_imul hx hb dX12_sheet_82 ?_
                          refine lz_top (y := 40) (by decide) ?_
                          refine lv_iload hx hb dX12_sheet_83 (lv_at hl 0 rfl) ?_
                          refine lv_iadd hx hb dX12_sheet_85 ?_
                          refine lz_top (y := 40) (by decide) ?_
                          refine lv_iconst (v := 0) hx hb dX12_sheet_86 (by decide) ?_
                          refine lz_astc hx hb hK hP hD hS 11 0 rfl rfl (lz_vp (x := 40) (n := 160) (by decide) (by decide)) dX12_sheet_87 (fun H locs hP hD hS => ?_)
                          refine lv_iinc (v := 1) (lv' := [(4, .int 1), (0, .ref h0), (1, .int 1), (2, .int (-1)), (3, .int x2)]) hx hb dX12_sheet_88 hl (k := 0) rfl (by decide) (by decide) rfl (fun ls hl => ?_)
                          refine lv_goto (tgt := 68) hx hb dX12_sheet_91 (by decide) ?_
                          refine lv_iload hx hb dX12_sheet_68 (lv_at hl 0 rfl) ?_
                          refine lv_bipush (v := 40) hx hb dX12_sheet_70 (by decide) ?_
                          refine lv_icmp_ge (tgt := 94) hx hb dX12_sheet_72 (by decide) (fun c928 => ?_) (fun c928 => ?_)
                          · exact absurd c928 (by decide)
                          · refine lv_aload_n hx hb dX12_sheet_75 rfl (lv_at hl 1 rfl) ?_
                            refine va_get (D := D) (ci := 12) (v := .ref h11) (C := RX12) (T := TX12) (N := 24) hx hb hts hin12 hown hK hP 0 rfl rfl 18 (by decide) (hts (.fieldLink RX12 44 "MissedPointsModel" "items" "[I") (by decide +kernel)) (fun _ h9 => h9) rfl dX12_sheet_76 ?_
                            refine lv_bipush (v := 40) hx hb dX12_sheet_79 (by decide) ?_
                            refine lv_iload_n hx hb dX12_sheet_81 rfl (lv_at hl 2 rfl) ?_
                            refine lv_imul hx hb dX12_sheet_82 ?_
                            refine lz_top (y := 40) (by decide) ?_
                            refine lv_iload hx hb dX12_sheet_83 (lv_at hl 0 rfl) ?_
                            refine lv_iadd hx hb dX12_sheet_85 ?_
                            refine lz_top (y := 41) (by decide) ?_
                            refine lv_iconst (v := 0) hx hb dX12_sheet_86 (by decide) ?_
                            refine lz_astc hx hb hK hP hD hS 11 0 rfl rfl (lz_vp (x := 41) (n := 160) (by decide) (by decide)) dX12_sheet_87 (fun H locs hP hD hS => ?_)
                            refine lv_iinc (v := 2) (lv' := [(4, .int 2), (0, .ref h0), (1, .int 1), (2, .int (-1)), (3, .int x2)]) hx hb dX12_sheet_88 hl (k := 0) rfl (by decide) (by decide) rfl (fun ls hl => ?_)
                            refine lv_goto (tgt := 68) hx hb dX12_sheet_91 (by decide) ?_
                            refine lv_iload hx hb dX12_sheet_68 (lv_at hl 0 rfl) ?_
                            refine lv_bipush (v := 40) hx hb dX12_sheet_70 (by decide) ?_
                            refine lv_icmp_ge (tgt := 94) hx hb dX12_sheet_72 (by decide) (fun c929 => ?_) (fun c929 => ?_)
                            · exact absurd c929 (by decide)
                            · refine lv_aload_n hx hb dX12_sheet_75 rfl (lv_at hl 1 rfl) ?_
                              refine va_get (D := D) (ci := 12) (v := .ref h11) (C := RX12) (T := TX12) (N := 24) hx hb hts hin12 hown hK hP 0 rfl rfl 18 (by decide) (hts (.fieldLink RX12 44 "MissedPointsModel" "items" "[I") (by decide +kernel)) (fun _ h9 => h9) rfl dX12_sheet_76 ?_
                              refine lv_bipush (v := 40) hx hb dX12_sheet_79 (by decide) ?_
                              refine lv_iload_n hx hb dX12_sheet_81 rfl (lv_at hl 2 rfl) ?_
                              refine lv_imul hx hb dX12_sheet_82 ?_
                              refine lz_top (y := 40) (by decide) ?_
                              refine lv_iload hx hb dX12_sheet_83 (lv_at hl 0 rfl) ?_
                              refine lv_iadd hx hb dX12_sheet_85 ?_
                              refine lz_top (y := 42) (by decide) ?_
                              refine lv_iconst (v := 0) hx hb dX12_sheet_86 (by decide) ?_
                              refine lz_astc hx hb hK hP hD hS 11 0 rfl rfl (lz_vp (x := 42) (n := 160) (by decide) (by decide)) dX12_sheet_87 (fun H locs hP hD hS => ?_)
                              refine lv_iinc (v := 3) (lv' := [(4, .int 3), (0, .ref h0), (1, .int 1), (2, .int (-1)), (3, .int x2)]) hx hb dX12_sheet_88 hl (k := 0) rfl (by decide) (by decide) rfl (fun ls hl => ?_)
                              refine lv_goto (tgt := 68) hx hb dX12_sheet_91 (by decide) ?_
                              refine lv_iload hx hb dX12_sheet_68 (lv_at hl 0 rfl) ?_
                              refine lv_bipush (v := 40) hx hb dX12_sheet_70 (by decide) ?_
                              refine lv_icmp_ge (tgt := 94) hx hb dX12_sheet_72 (by decide) (fun c930 => ?_) (fun c930 => ?_)
                              · exact absurd c930 (by decide)
                              · refine lv_aload_n hx hb dX12_sheet_75 rfl (lv_at hl 1 rfl) ?_
                                refine va_get (D := D) (ci := 12) (v := .ref h11) (C := RX12) (T := TX12) (N := 24) hx hb hts hin12 hown hK hP 0 rfl rfl 18 (by decide) (hts (.fieldLink RX12 44 "MissedPointsModel" "items" "[I") (by decide +kernel)) (fun _ h9 => h9) rfl dX12_sheet_76 ?_
                                refine lv_bipush (v := 40) hx hb dX12_sheet_79 (by decide) ?_
                                refine lv_iload_n hx hb dX12_sheet_81 rfl (lv_at hl 2 rfl) ?_
                                refine lv_imul hx hb dX12_sheet_82 ?_
                                refine lz_top (y := 40) (by decide) ?_
                                refine lv_iload hx hb dX12_sheet_83 (lv_at hl 0 rfl) ?_
                                refine lv_iadd hx hb dX12_sheet_85 ?_
                                refine lz_top (y := 43) (by decide) ?_
                                refine lv_iconst (v := 0) hx hb dX12_sheet_86 (by decide) ?_
                                refine lz_astc hx hb hK hP hD hS 11 0 rfl rfl (lz_vp (x := 43) (n := 160) (by decide) (by decide)) dX12_sheet_87 (fun H locs hP hD hS => ?_)
                                refine lv_iinc (v := 4) (lv' := [(4, .int 4), (0, .ref h0), (1, .int 1), (2, .int (-1)), (3, .int x2)]) hx hb dX12_sheet_88 hl (k := 0) rfl (by decide) (by decide) rfl (fun ls hl => ?_)
                                refine lv_goto (tgt := 68) hx hb dX12_sheet_91 (by decide) ?_
                                refine lv_iload hx hb dX12_sheet_68 (lv_at hl 0 rfl) ?_
                                refine lv_bipush (v := 40) hx hb dX12_sheet_70 (by decide) ?_
                                refine lv_icmp_ge (tgt := 94) hx hb dX12_sheet_72 (by decide) (fun c931 => ?_) (fun c931 => ?_)
                                · exact absurd c931 (by decide)
                                · refine lv_aload_n hx hb dX12_sheet_75 rfl (lv_at hl 1 rfl) ?_
                                  refine va_get (D := D) (ci := 12) (v := .ref h11) (C := RX12) (T := TX12) (N := 24) hx hb hts hin12 hown hK hP 0 rfl rfl 18 (by decide) (hts (.fieldLink RX12 44 "MissedPointsModel" "items" "[I") (by decide +kernel)) (fun _ h9 => h9) rfl dX12_sheet_76 ?_
                                  refine lv_bipush (v := 40) hx hb dX12_sheet_79 (by decide) ?_
                                  refine lv_iload_n hx hb dX12_sheet_81 rfl (lv_at hl 2 rfl) ?_
                                  refine lv_imul hx hb dX12_sheet_82 ?_
                                  refine lz_top (y := 40) (by decide) ?_
                                  refine lv_iload hx hb dX12_sheet_83 (lv_at hl 0 rfl) ?_
                                  refine lv_iadd hx hb dX12_sheet_85 ?_
                                  refine lz_top (y := 44) (by decide) ?_
                                  refine lv_iconst (v := 0) hx hb dX12_sheet_86 (by decide) ?_
                                  refine lz_astc hx hb hK hP hD hS 11 0 rfl rfl (lz_vp (x := 44) (n := 160) (by decide) (by decide)) dX12_sheet_87 (fun H locs hP hD hS => ?_)
                                  refine lv_iinc (v := 5) (lv' := [(4, .int 5), (0, .ref h0), (1, .int 1), (2, .int (-1)), (3, .int x2)]) hx hb dX12_sheet_88 hl (k := 0) rfl (by decide) (by decide) rfl (fun ls hl => ?_)
                                  refine lv_goto (tgt := 68) hx hb dX12_sheet_91 (by decide) ?_
                                  refine lv_iload hx hb dX12_sheet_68 (lv_at hl 0 rfl) ?_
                                  refine lv_bipush (v := 40) hx hb dX12_sheet_70 (by decide) ?_
                                  refine lv_icmp_ge (tgt := 94) hx hb dX12_sheet_72 (by decide) (fun c932 => ?_) (fun c932 => ?_)
                                  · exact absurd c932 (by decide)
                                  · refine lv_aload_n hx hb dX12_sheet_75 rfl (lv_at hl 1 rfl) ?_
                                    refine va_get (D := D) (ci := 12) (v := .ref h11) (C := RX12) (T := TX12) (N := 24) hx hb hts hin12 hown hK hP 0 rfl rfl 18 (by decide) (hts (.fieldLink RX12 44 "MissedPointsModel" "items" "[I") (by decide +kernel)) (fun _ h9 => h9) rfl dX12_sheet_76 ?_
                                    refine lv_bipush (v := 40) hx hb dX12_sheet_79 (by decide) ?_
                                    refine lv_iload_n hx hb dX12_sheet_81 rfl (lv_at hl 2 rfl) ?_
                                    refine lv_imul hx hb dX12_sheet_82 ?_
                                    refine lz_top (y := 40) (by decide) ?_
                                    refine lv_iload hx hb dX12_sheet_83 (lv_at hl 0 rfl) ?_
                                    refine lv_iadd hx hb dX12_sheet_85 ?_
                                    refine lz_top (y := 45) (by decide) ?_
                                    refine lv_iconst (v := 0) hx hb dX12_sheet_86 (by decide) ?_
                                    refine lz_astc hx hb hK hP hD hS 11 0 rfl rfl (lz_vp (x := 45) (n := 160) (by decide) (by decide)) dX12_sheet_87 (fun H locs hP hD hS => ?_)
                                    refine lv_iinc (v := 6) (lv' := [(4, .int 6), (0, .ref h0), (1, .int 1), (2, .int (-1)), (3, .int x2)]) hx hb dX12_sheet_88 hl (k := 0) rfl (by decide) (by decide) rfl (fun ls hl => ?_)
                                    refine lv_goto (tgt := 68) hx hb dX12_sheet_91 (by decide) ?_
                                    refine lv_iload hx hb dX12_sheet_68 (lv_at hl 0 rfl) ?_
                                    refine lv_bipush (v := 40) hx hb dX12_sheet_70 (by decide) ?_
                                    refine lv_icmp_ge (tgt := 94) hx hb dX12_sheet_72 (by decide) (fun c933 => ?_) (fun c933 => ?_)
                                    · exact absurd c933 (by decide)
                                    · refine lv_aload_n hx hb dX12_sheet_75 rfl (lv_at hl 1 rfl) ?_
                                      refine va_get (D := D) (ci := 12) (v := .ref h11) (C := RX12) (T := TX12) (N := 24) hx hb hts hin12 hown hK hP 0 rfl rfl 18 (by decide) (hts (.fieldLink RX12 44 "MissedPointsModel" "items" "[I") (by decide +kernel)) (fun _ h9 => h9) rfl dX12_sheet_76 ?_
                                      refine lv_bipush (v := 40) hx hb dX12_sheet_79 (by decide) ?_
                                      refine lv_iload_n hx hb dX12_sheet_81 rfl (lv_at hl 2 rfl) ?_
                                      refine lv_imul hx hb dX12_sheet_82 ?_
                                      refine lz_top (y := 40) (by decide) ?_
                                      refine lv_iload hx hb dX12_sheet_83 (lv_at hl 0 rfl) ?_
                                      refine lv_iadd hx hb dX12_sheet_85 ?_
                                      refine lz_top (y := 46) (by decide) ?_
                                      refine lv_iconst (v := 0) hx hb dX12_sheet_86 (by decide) ?_
                                      refine lz_astc hx hb hK hP hD hS 11 0 rfl rfl (lz_vp (x := 46) (n := 160) (by decide) (by decide)) dX12_sheet_87 (fun H locs hP hD hS => ?_)
                                      refine lv_iinc (v := 7) (lv' := [(4, .int 7), (0, .ref h0), (1, .int 1), (2, .int (-1)), (3, .int x2)]) hx hb dX12_sheet_88 hl (k := 0) rfl (by decide) (by decide) rfl (fun ls hl => ?_)
                                      refine lv_goto (tgt := 68) hx hb dX12_sheet_91 (by decide) ?_
                                      refine lv_iload hx hb dX12_sheet_68 (lv_at hl 0 rfl) ?_
                                      refine lv_bipush (v := 40) hx hb dX12_sheet_70 (by decide) ?_
                                      refine lv_icmp_ge (tgt := 94) hx hb dX12_sheet_72 (by decide) (fun c934 => ?_) (fun c934 => ?_)
                                      · exact absurd c934 (by decide)
                                      · refine lv_aload_n hx hb dX12_sheet_75 rfl (lv_at hl 1 rfl) ?_
                                        refine va_get (D := D) (ci := 12) (v := .ref h11) (C := RX12) (T := TX12) (N := 24) hx hb hts hin12 hown hK hP 0 rfl rfl 18 (by decide) (hts (.fieldLink RX12 44 "MissedPointsModel" "items" "[I") (by decide +kernel)) (fun _ h9 => h9) rfl dX12_sheet_76 ?_
                                        refine lv_bipush (v := 40) hx hb dX12_sheet_79 (by decide) ?_
                                        refine lv_iload_n hx hb dX12_sheet_81 rfl (lv_at hl 2 rfl) ?_
                                        refine lv_imul hx hb dX12_sheet_82 ?_
                                        refine lz_top (y := 40) (by decide) ?_
                                        refine lv_iload hx hb dX12_sheet_83 (lv_at hl 0 rfl) ?_
                                        refine lv_iadd hx hb dX12_sheet_85 ?_
                                        refine lz_top (y := 47) (by decide) ?_
                                        refine lv_iconst (v := 0) hx hb dX12_sheet_86 (by decide) ?_
                                        refine lz_astc hx hb hK hP hD hS 11 0 rfl rfl (lz_vp (x := 47) (n := 160) (by decide) (by decide)) dX12_sheet_87 (fun H locs hP hD hS => ?_)
                                        refine lv_iinc (v := 8) (lv' := [(4, .int 8), (0, .ref h0), (1, .int 1), (2, .int (-1)), (3, .int x2)]) hx hb dX12_sheet_88 hl (k := 0) rfl (by decide) (by decide) rfl (fun ls hl => ?_)
                                        refine lv_goto (tgt := 68) hx hb dX12_sheet_91 (by decide) ?_
                                        refine lv_iload hx hb dX12_sheet_68 (lv_at hl 0 rfl) ?_
                                        refine lv_bipush (v := 40) hx hb dX12_sheet_70 (by decide) ?_
                                        refine lv_icmp_ge (tgt := 94) hx hb dX12_sheet_72 (by decide) (fun c935 => ?_) (fun c935 => ?_)
                                        · exact absurd c935 (by decide)
                                        · refine lv_aload_n hx hb dX12_sheet_75 rfl (lv_at hl 1 rfl) ?_
                                          refine va_get (D := D) (ci := 12) (v := .ref h11) (C := RX12) (T := TX12) (N := 24) hx hb hts hin12 hown hK hP 0 rfl rfl 18 (by decide) (hts (.fieldLink RX12 44 "MissedPointsModel" "items" "[I") (by decide +kernel)) (fun _ h9 => h9) rfl dX12_sheet_76 ?_
                                          refine lv_bipush (v := 40) hx hb dX12_sheet_79 (by decide) ?_
                                          refine lv_iload_n hx hb dX12_sheet_81 rfl (lv_at hl 2 rfl) ?_
                                          refine lv_imul hx hb dX12_sheet_82 ?_
                                          refine lz_top (y := 40) (by decide) ?_
                                          refine lv_iload hx hb dX12_sheet_83 (lv_at hl 0 rfl) ?_
                                          refine lv_iadd hx hb dX12_sheet_85 ?_
                                          refine lz_top (y := 48) (by decide) ?_
                                          refine lv_iconst (v := 0) hx hb dX12_sheet_86 (by decide) ?_
                                          refine lz_astc hx hb hK hP hD hS 11 0 rfl rfl (lz_vp (x := 48) (n := 160) (by decide) (by decide)) dX12_sheet_87 (fun H locs hP hD hS => ?_)
                                          refine lv_iinc (v := 9) (lv' := [(4, .int 9), (0, .ref h0), (1, .int 1), (2, .int (-1)), (3, .int x2)]) hx hb dX12_sheet_88 hl (k := 0) rfl (by decide) (by decide) rfl (fun ls hl => ?_)
                                          refine lv_goto (tgt := 68) hx hb dX12_sheet_91 (by decide) ?_
                                          refine lv_iload hx hb dX12_sheet_68 (lv_at hl 0 rfl) ?_
                                          refine lv_bipush (v := 40) hx hb dX12_sheet_70 (by decide) ?_
                                          refine lv_icmp_ge (tgt := 94) hx hb dX12_sheet_72 (by decide) (fun c936 => ?_) (fun c936 => ?_)
                                          · exact absurd c936 (by decide)
                                          · refine lv_aload_n hx hb dX12_sheet_75 rfl (lv_at hl 1 rfl) ?_
                                            refine va_get (D := D) (ci := 12) (v := .ref h11) (C := RX12) (T := TX12) (N := 24) hx hb hts hin12 hown hK hP 0 rfl rfl 18 (by decide) (hts (.fieldLink RX12 44 "MissedPointsModel" "items" "[I") (by decide +kernel)) (fun _ h9 => h9) rfl dX12_sheet_76 ?_
                                            refine lv_bipush (v := 40) hx hb dX12_sheet_79 (by decide) ?_
                                            refine lv_iload_n hx hb dX12_sheet_81 rfl (lv_at hl 2 rfl) ?_
                                            refine lv_imul hx hb dX12_sheet_82 ?_
                                            refine lz_top (y := 40) (by decide) ?_
                                            refine lv_iload hx hb dX12_sheet_83 (lv_at hl 0 rfl) ?_
                                            refine lv_iadd hx hb dX12_sheet_85 ?_
                                            refine lz_top (y := 49) (by decide) ?_
                                            refine lv_iconst (v := 0) hx hb dX12_sheet_86 (by decide) ?_
                                            refine lz_astc hx hb hK hP hD hS 11 0 rfl rfl (lz_vp (x := 49) (n := 160) (by decide) (by decide)) dX12_sheet_87 (fun H locs hP hD hS => ?_)
                                            refine lv_iinc (v := 10) (lv' := [(4, .int 10), (0, .ref h0), (1, .int 1), (2, .int (-1)), (3, .int x2)]) hx hb dX12_sheet_88 hl (k := 0) rfl (by decide) (by decide) rfl (fun ls hl => ?_)
                                            refine lv_goto (tgt := 68) hx hb dX12_sheet_91 (by decide) ?_
                                            refine lv_iload hx hb dX12_sheet_68 (lv_at hl 0 rfl) ?_
                                            refine lv_bipush (v := 40) hx hb dX12_sheet_70 (by decide) ?_
                                            refine lv_icmp_ge (tgt := 94) hx hb dX12_sheet_72 (by decide) (fun c937 => ?_) (fun c937 => ?_)
                                            · exact absurd c937 (by decide)
                                            · refine lv_aload_n hx hb dX12_sheet_75 rfl (lv_at hl 1 rfl) ?_
                                              refine va_get (D := D) (ci := 12) (v := .ref h11) (C := RX12) (T := TX12) (N := 24) hx hb hts hin12 hown hK hP 0 rfl rfl 18 (by decide) (hts (.fieldLink RX12 44 "MissedPointsModel" "items" "[I") (by decide +kernel)) (fun _ h9 => h9) rfl dX12_sheet_76 ?_
                                              refine lv_bipush (v := 40) hx hb dX12_sheet_79 (by decide) ?_
                                              refine lv_iload_n hx hb dX12_sheet_81 rfl (lv_at hl 2 rfl) ?_
                                              refine lv_imul hx hb dX12_sheet_82 ?_
                                              refine lz_top (y := 40) (by decide) ?_
                                              refine lv_iload hx hb dX12_sheet_83 (lv_at hl 0 rfl) ?_
                                              refine lv_iadd hx hb dX12_sheet_85 ?_
                                              refine lz_top (y := 50) (by decide) ?_
                                              refine lv_iconst (v := 0) hx hb dX12_sheet_86 (by decide) ?_
                                              refine lz_astc hx hb hK hP hD hS 11 0 rfl rfl (lz_vp (x := 50) (n := 160) (by decide) (by decide)) dX12_sheet_87 (fun H locs hP hD hS => ?_)
                                              refine lv_iinc (v := 11) (lv' := [(4, .int 11), (0, .ref h0), (1, .int 1), (2, .int (-1)), (3, .int x2)]) hx hb dX12_sheet_88 hl (k := 0) rfl (by decide) (by decide) rfl (fun ls hl => ?_)
                                              refine lv_goto (tgt := 68) hx hb dX12_sheet_91 (by decide) ?_
                                              refine lv_iload hx hb dX12_sheet_68 (lv_at hl 0 rfl) ?_
                                              refine lv_bipush (v := 40) hx hb dX12_sheet_70 (by decide) ?_
                                              refine lv_icmp_ge (tgt := 94) hx hb dX12_sheet_72 (by decide) (fun c938 => ?_) (fun c938 => ?_)
                                              · exact absurd c938 (by decide)
                                              · refine lv_aload_n hx hb dX12_sheet_75 rfl (lv_at hl 1 rfl) ?_
                                                refine va_get (D := D) (ci := 12) (v := .ref h11) (C := RX12) (T := TX12) (N := 24) hx hb hts hin12 hown hK hP 0 rfl rfl 18 (by decide) (hts (.fieldLink RX12 44 "MissedPointsModel" "items" "[I") (by decide +kernel)) (fun _ h9 => h9) rfl dX12_sheet_76 ?_
                                                refine lv_bipush (v := 40) hx hb dX12_sheet_79 (by decide) ?_
                                                refine lv_iload_n hx hb dX12_sheet_81 rfl (lv_at hl 2 rfl) ?_
                                                refine lv_imul hx hb dX12_sheet_82 ?_
                                                refine lz_top (y := 40) (by decide) ?_
                                                refine lv_iload hx hb dX12_sheet_83 (lv_at hl 0 rfl) ?_
                                                refine lv_iadd hx hb dX12_sheet_85 ?_
                                                refine lz_top (y := 51) (by decide) ?_
                                                refine lv_iconst (v := 0) hx hb dX12_sheet_86 (by decide) ?_
                                                refine lz_astc hx hb hK hP hD hS 11 0 rfl rfl (lz_vp (x := 51) (n := 160) (by decide) (by decide)) dX12_sheet_87 (fun H locs hP hD hS => ?_)
                                                refine lv_iinc (v := 12) (lv' := [(4, .int 12), (0, .ref h0), (1, .int 1), (2, .int (-1)), (3, .int x2)]) hx hb dX12_sheet_88 hl (k := 0) rfl (by decide) (by decide) rfl (fun ls hl => ?_)
                                                refine lv_goto (tgt := 68) hx hb dX12_sheet_91 (by decide) ?_
                                                refine lv_iload hx hb dX12_sheet_68 (lv_at hl 0 rfl) ?_
                                                refine lv_bipush (v := 40) hx hb dX12_sheet_70 (by decide) ?_
                                                refine lv_icmp_ge (tgt := 94) hx hb dX12_sheet_72 (by decide) (fun c939 => ?_) (fun c939 => ?_)
                                                · exact absurd c939 (by decide)
                                                · refine lv_aload_n hx hb dX12_sheet_75 rfl (lv_at hl 1 rfl) ?_
                                                  refine va_get (D := D) (ci := 12) (v := .ref h11) (C := RX12) (T := TX12) (N := 24) hx hb hts hin12 hown hK hP 0 rfl rfl 18 (by decide) (hts (.fieldLink RX12 44 "MissedPointsModel" "items" "[I") (by decide +kernel)) (fun _ h9 => h9) rfl dX12_sheet_76 ?_
                                                  refine lv_bipush (v := 40) hx hb dX12_sheet_79 (by decide) ?_
                                                  refine lv_iload_n hx hb dX12_sheet_81 rfl (lv_at hl 2 rfl) ?_
                                                  refine lv_imul hx hb dX12_sheet_82 ?_
                                                  refine lz_top (y := 40) (by decide) ?_
                                                  refine lv_iload hx hb dX12_sheet_83 (lv_at hl 0 rfl) ?_
                                                  refine lv_iadd hx hb dX12_sheet_85 ?_
                                                  refine lz_top (y := 52) (by decide) ?_
                                                  refine lv_iconst (v := 0) hx hb dX12_sheet_86 (by decide) ?_
                                                  refine lz_astc hx hb hK hP hD hS 11 0 rfl rfl (lz_vp (x := 52) (n := 160) (by decide) (by decide)) dX12_sheet_87 (fun H locs hP hD hS => ?_)
                                                  refine lv_iinc (v := 13) (lv' := [(4, .int 13), (0, .ref h0), (1, .int 1), (2, .int (-1)), (3, .int x2)]) hx hb dX12_sheet_88 hl (k := 0) rfl (by decide) (by decide) rfl (fun ls hl => ?_)
                                                  refine lv_goto (tgt := 68) hx hb dX12_sheet_91 (by decide) ?_
                                                  refine lv_iload hx hb dX12_sheet_68 (lv_at hl 0 rfl) ?_
                                                  refine lv_bipush (v := 40) hx hb dX12_sheet_70 (by decide) ?_
                                                  refine lv_icmp_ge (tgt := 94) hx hb dX12_sheet_72 (by decide) (fun c940 => ?_) (fun c940 => ?_)
                                                  · exact absurd c940 (by decide)
                                                  · refine lv_aload_n hx hb dX12_sheet_75 rfl (lv_at hl 1 rfl) ?_
                                                    refine va_get (D := D) (ci := 12) (v := .ref h11) (C := RX12) (T := TX12) (N := 24) hx hb hts hin12 hown hK hP 0 rfl rfl 18 (by decide) (hts (.fieldLink RX12 44 "MissedPointsModel" "items" "[I") (by decide +kernel)) (fun _ h9 => h9) rfl dX12_sheet_76 ?_
                                                    refine lv_bipush (v := 40) hx hb dX12_sheet_79 (by decide) ?_
                                                    refine lv_iload_n hx hb dX12_sheet_81 rfl (lv_at hl 2 rfl) ?_
                                                    refine lv_imul hx hb dX12_sheet_82 ?_
                                                    refine lz_top (y := 40) (by decide) ?_
                                                    refine lv_iload hx hb dX12_sheet_83 (lv_at hl 0 rfl) ?_
                                                    refine lv_iadd hx hb dX12_sheet_85 ?_
                                                    refine lz_top (y := 53) (by decide) ?_
                                                    refine lv_iconst (v := 0) hx hb dX12_sheet_86 (by decide) ?_
                                                    refine lz_astc hx hb hK hP hD hS 11 0 rfl rfl (lz_vp (x := 53) (n := 160) (by decide) (by decide)) dX12_sheet_87 (fun H locs hP hD hS => ?_)
                                                    refine lv_iinc (v := 14) (lv' := [(4, .int 14), (0, .ref h0), (1, .int 1), (2, .int (-1)), (3, .int x2)]) hx hb dX12_sheet_88 hl (k := 0) rfl (by decide) (by decide) rfl (fun ls hl => ?_)
                                                    refine lv_goto (tgt := 68) hx hb dX12_sheet_91 (by decide) ?_
                                                    refine lv_iload hx hb dX12_sheet_68 (lv_at hl 0 rfl) ?_
                                                    refine lv_bipush (v := 40) hx hb dX12_sheet_70 (by decide) ?_
                                                    refine lv_icmp_ge (tgt := 94) hx hb dX12_sheet_72 (by decide) (fun c941 => ?_) (fun c941 => ?_)
                                                    · exact absurd c941 (by decide)
                                                    · refine lv_aload_n hx hb dX12_sheet_75 rfl (lv_at hl 1 rfl) ?_
                                                      refine va_get (D := D) (ci := 12) (v := .ref h11) (C := RX12) (T := TX12) (N := 24) hx hb hts hin12 hown hK hP 0 rfl rfl 18 (by decide) (hts (.fieldLink RX12 44 "MissedPointsModel" "items" "[I") (by decide +kernel)) (fun _ h9 => h9) rfl dX12_sheet_76 ?_
                                                      refine lv_bipush (v := 40) hx hb dX12_sheet_79 (by decide) ?_
                                                      refine lv_iload_n hx hb dX12_sheet_81 rfl (lv_at hl 2 rfl) ?_
                                                      refine lv_imul hx hb dX12_sheet_82 ?_
                                                      refine lz_top (y := 40) (by decide) ?_
                                                      refine lv_iload hx hb dX12_sheet_83 (lv_at hl 0 rfl) ?_
                                                      refine lv_iadd hx hb dX12_sheet_85 ?_
                                                      refine lz_top (y := 54) (by decide) ?_
                                                      refine lv_iconst (v := 0) hx hb dX12_sheet_86 (by decide) ?_
                                                      refine lz_astc hx hb hK hP hD hS 11 0 rfl rfl (lz_vp (x := 54) (n := 160) (by decide) (by decide)) dX12_sheet_87 (fun H locs hP hD hS => ?_)
                                                      refine lv_iinc (v := 15) (lv' := [(4, .int 15), (0, .ref h0), (1, .int 1), (2, .int (-1)), (3, .int x2)]) hx hb dX12_sheet_88 hl (k := 0) rfl (by decide) (by decide) rfl (fun ls hl => ?_)
                                                      refine lv_goto (tgt := 68) hx hb dX12_sheet_91 (by decide) ?_
                                                      refine lv_iload hx hb dX12_sheet_68 (lv_at hl 0 rfl) ?_
                                                      refine lv_bipush (v := 40) hx hb dX12_sheet_70 (by decide) ?_
                                                      refine lv_icmp_ge (tgt := 94) hx hb dX12_sheet_72 (by decide) (fun c942 => ?_) (fun c942 => ?_)
                                                      · exact absurd c942 (by decide)
                                                      · refine lv_aload_n hx hb dX12_sheet_75 rfl (lv_at hl 1 rfl) ?_
                                                        refine va_get (D := D) (ci := 12) (v := .ref h11) (C := RX12) (T := TX12) (N := 24) hx hb hts hin12 hown hK hP 0 rfl rfl 18 (by decide) (hts (.fieldLink RX12 44 "MissedPointsModel" "items" "[I") (by decide +kernel)) (fun _ h9 => h9) rfl dX12_sheet_76 ?_
                                                        refine lv_bipush (v := 40) hx hb dX12_sheet_79 (by decide) ?_
                                                        refine lv_iload_n hx hb dX12_sheet_81 rfl (lv_at hl 2 rfl) ?_
                                                        refine lv_imul hx hb dX12_sheet_82 ?_
                                                        refine lz_top (y := 40) (by decide) ?_
                                                        refine lv_iload hx hb dX12_sheet_83 (lv_at hl 0 rfl) ?_
                                                        refine lv_iadd hx hb dX12_sheet_85 ?_
                                                        refine lz_top (y := 55) (by decide) ?_
                                                        refine lv_iconst (v := 0) hx hb dX12_sheet_86 (by decide) ?_
                                                        refine lz_astc hx hb hK hP hD hS 11 0 rfl rfl (lz_vp (x := 55) (n := 160) (by decide) (by decide)) dX12_sheet_87 (fun H locs hP hD hS => ?_)
                                                        refine lv_iinc (v := 16) (lv' := [(4, .int 16), (0, .ref h0), (1, .int 1), (2, .int (-1)), (3, .int x2)]) hx hb dX12_sheet_88 hl (k := 0) rfl (by decide) (by decide) rfl (fun ls hl => ?_)
                                                        refine lv_goto (tgt := 68) hx hb dX12_sheet_91 (by decide) ?_
                                                        refine lv_iload hx hb dX12_sheet_68 (lv_at hl 0 rfl) ?_
                                                        refine lv_bipush (v := 40) hx hb dX12_sheet_70 (by decide) ?_
                                                        refine lv_icmp_ge (tgt := 94) hx hb dX12_sheet_72 (by decide) (fun c943 => ?_) (fun c943 => ?_)
                                                        · exact absurd c943 (by decide)
                                                        · refine lv_aload_n hx hb dX12_sheet_75 rfl (lv_at hl 1 rfl) ?_
                                                          refine va_get (D := D) (ci := 12) (v := .ref h11) (C := RX12) (T := TX12) (N := 24) hx hb hts hin12 hown hK hP 0 rfl rfl 18 (by decide) (hts (.fieldLink RX12 44 "MissedPointsModel" "items" "[I") (by decide +kernel)) (fun _ h9 => h9) rfl dX12_sheet_76 ?_
                                                          refine lv_bipush (v := 40) hx hb dX12_sheet_79 (by decide) ?_
                                                          refine lv_iload_n hx hb dX12_sheet_81 rfl (lv_at hl 2 rfl) ?_
                                                          refine lv_imul hx hb dX12_sheet_82 ?_
                                                          refine lz_top (y := 40) (by decide) ?_
                                                          refine lv_iload hx hb dX12_sheet_83 (lv_at hl 0 rfl) ?_
                                                          refine lv_iadd hx hb dX12_sheet_85 ?_
                                                          refine lz_top (y := 56) (by decide) ?_
                                                          refine lv_iconst (v := 0) hx hb dX12_sheet_86 (by decide) ?_
                                                          refine lz_astc hx hb hK hP hD hS 11 0 rfl rfl (lz_vp (x := 56) (n := 160) (by decide) (by decide)) dX12_sheet_87 (fun H locs hP hD hS => ?_)
                                                          refine lv_iinc (v := 17) (lv' := [(4, .int 17), (0, .ref h0), (1, .int 1), (2, .int (-1)), (3, .int x2)]) hx hb dX12_sheet_88 hl (k := 0) rfl (by decide) (by decide) rfl (fun ls hl => ?_)
                                                          refine lv_goto (tgt := 68) hx hb dX12_sheet_91 (by decide) ?_
                                                          refine lv_iload hx hb dX12_sheet_68 (lv_at hl 0 rfl) ?_
                                                          refine lv_bipush (v := 40) hx hb dX12_sheet_70 (by decide) ?_
                                                          refine lv_icmp_ge (tgt := 94) hx hb dX12_sheet_72 (by decide) (fun c944 => ?_) (fun c944 => ?_)
                                                          · exact absurd c944 (by decide)
                                                          · refine lv_aload_n hx hb dX12_sheet_75 rfl (lv_at hl 1 rfl) ?_
                                                            refine va_get (D := D) (ci := 12) (v := .ref h11) (C := RX12) (T := TX12) (N := 24) hx hb hts hin12 hown hK hP 0 rfl rfl 18 (by decide) (hts (.fieldLink RX12 44 "MissedPointsModel" "items" "[I") (by decide +kernel)) (fun _ h9 => h9) rfl dX12_sheet_76 ?_
                                                            refine lv_bipush (v := 40) hx hb dX12_sheet_79 (by decide) ?_
                                                            refine lv_iload_n hx hb dX12_sheet_81 rfl (lv_at hl 2 rfl) ?_
                                                            refine lv_imul hx hb dX12_sheet_82 ?_
                                                            refine lz_top (y := 40) (by decide) ?_
                                                            refine lv_iload hx hb dX12_sheet_83 (lv_at hl 0 rfl) ?_
                                                            refine lv_iadd hx hb dX12_sheet_85 ?_
                                                            refine lz_top (y := 57) (by decide) ?_
                                                            refine lv_iconst (v := 0) hx hb dX12_sheet_86 (by decide) ?_
                                                            refine lz_astc hx hb hK hP hD hS 11 0 rfl rfl (lz_vp (x := 57) (n := 160) (by decide) (by decide)) dX12_sheet_87 (fun H locs hP hD hS => ?_)
                                                            refine lv_iinc (v := 18) (lv' := [(4, .int 18), (0, .ref h0), (1, .int 1), (2, .int (-1)), (3, .int x2)]) hx hb dX12_sheet_88 hl (k := 0) rfl (by decide) (by decide) rfl (fun ls hl => ?_)
                                                            refine lv_goto (tgt := 68) hx hb dX12_sheet_91 (by decide) ?_
                                                            refine lv_iload hx hb dX12_sheet_68 (lv_at hl 0 rfl) ?_
                                                            refine lv_bipush (v := 40) hx hb dX12_sheet_70 (by decide) ?_
                                                            refine lv_icmp_ge (tgt := 94) hx hb dX12_sheet_72 (by decide) (fun c945 => ?_) (fun c945 => ?_)
                                                            · exact absurd c945 (by decide)
                                                            · refine lv_aload_n hx hb dX12_sheet_75 rfl (lv_at hl 1 rfl) ?_
                                                              refine va_get (D := D) (ci := 12) (v := .ref h11) (C := RX12) (T := TX12) (N := 24) hx hb hts hin12 hown hK hP 0 rfl rfl 18 (by decide) (hts (.fieldLink RX12 44 "MissedPointsModel" "items" "[I") (by decide +kernel)) (fun _ h9 => h9) rfl dX12_sheet_76 ?_
                                                              refine lv_bipush (v := 40) hx hb dX12_sheet_79 (by decide) ?_
                                                              refine lv_iload_n hx hb dX12_sheet_81 rfl (lv_at hl 2 rfl) ?_
                                                              refine lv_imul hx hb dX12_sheet_82 ?_
                                                              refine lz_top (y := 40) (by decide) ?_
                                                              refine lv_iload hx hb dX12_sheet_83 (lv_at hl 0 rfl) ?_
                                                              refine lv_iadd hx hb dX12_sheet_85 ?_
                                                              refine lz_top (y := 58) (by decide) ?_
                                                              refine lv_iconst (v := 0) hx hb dX12_sheet_86 (by decide) ?_
                                                              refine lz_astc hx hb hK hP hD hS 11 0 rfl rfl (lz_vp (x := 58) (n := 160) (by decide) (by decide)) dX12_sheet_87 (fun H locs hP hD hS => ?_)
                                                              refine lv_iinc (v := 19) (lv' := [(4, .int 19), (0, .ref h0), (1, .int 1), (2, .int (-1)), (3, .int x2)]) hx hb dX12_sheet_88 hl (k := 0) rfl (by decide) (by decide) rfl (fun ls hl => ?_)
                                                              refine lv_goto (tgt := 68) hx hb dX12_sheet_91 (by decide) ?_
                                                              refine lv_iload hx hb dX12_sheet_68 (lv_at hl 0 rfl) ?_
                                                              refine lv_bipush (v := 40) hx hb dX12_sheet_70 (by decide) ?_
                                                              refine lv_icmp_ge (tgt := 94) hx hb dX12_sheet_72 (by decide) (fun c946 => ?_) (fun c946 => ?_)
                                                              · exact absurd c946 (by decide)
                                                              · refine lv_aload_n hx hb dX12_sheet_75 rfl (lv_at hl 1 rfl) ?_
                                                                refine va_get (D := D) (ci := 12) (v := .ref h11) (C := RX12) (T := TX12) (N := 24) hx hb hts hin12 hown hK hP 0 rfl rfl 18 (by decide) (hts (.fieldLink RX12 44 "MissedPointsModel" "items" "[I") (by decide +kernel)) (fun _ h9 => h9) rfl dX12_sheet_76 ?_
                                                                refine lv_bipush (v := 40) hx hb dX12_sheet_79 (by decide) ?_
                                                                refine lv_iload_n hx hb dX12_sheet_81 rfl (lv_at hl 2 rfl) ?_
                                                                refine lv_imul hx hb dX12_sheet_82 ?_
                                                                refine lz_top (y := 40) (by decide) ?_
                                                                refine lv_iload hx hb dX12_sheet_83 (lv_at hl 0 rfl) ?_
                                                                refine lv_iadd hx hb dX12_sheet_85 ?_
                                                                refine lz_top (y := 59) (by decide) ?_
                                                                refine lv_iconst (v := 0) hx hb dX12_sheet_86 (by decide) ?_
                                                                refine lz_astc hx hb hK hP hD hS 11 0 rfl rfl (lz_vp (x := 59) (n := 160) (by decide) (by decide)) dX12_sheet_87 (fun H locs hP hD hS => ?_)
                                                                refine lv_iinc (v := 20) (lv' := [(4, .int 20), (0, .ref h0), (1, .int 1), (2, .int (-1)), (3, .int x2)]) hx hb dX12_sheet_88 hl (k := 0) rfl (by decide) (by decide) rfl (fun ls hl => ?_)
                                                                refine lv_goto (tgt := 68) hx hb dX12_sheet_91 (by decide) ?_
                                                                refine lv_iload hx hb dX12_sheet_68 (lv_at hl 0 rfl) ?_
                                                                refine lv_bipush (v := 40) hx hb dX12_sheet_70 (by decide) ?_
                                                                refine lv_icmp_ge (tgt := 94) hx hb dX12_sheet_72 (by decide) (fun c947 => ?_) (fun c947 => ?_)
                                                                · exact absurd c947 (by decide)
                                                                · refine lv_aload_n hx hb dX12_sheet_75 rfl (lv_at hl 1 rfl) ?_
                                                                  refine va_get (D := D) (ci := 12) (v := .ref h11) (C := RX12) (T := TX12) (N := 24) hx hb hts hin12 hown hK hP 0 rfl rfl 18 (by decide) (hts (.fieldLink RX12 44 "MissedPointsModel" "items" "[I") (by decide +kernel)) (fun _ h9 => h9) rfl dX12_sheet_76 ?_
                                                                  refine lv_bipush (v := 40) hx hb dX12_sheet_79 (by decide) ?_
                                                                  refine lv_iload_n hx hb dX12_sheet_81 rfl (lv_at hl 2 rfl) ?_
                                                                  refine lv_imul hx hb dX12_sheet_82 ?_
                                                                  refine lz_top (y := 40) (by decide) ?_
                                                                  refine lv_iload hx hb dX12_sheet_83 (lv_at hl 0 rfl) ?_
                                                                  refine lv_iadd hx hb dX12_sheet_85 ?_
                                                                  refine lz_top (y := 60) (by decide) ?_
                                                                  refine lv_iconst (v := 0) hx hb dX12_sheet_86 (by decide) ?_
                                                                  refine lz_astc hx hb hK hP hD hS 11 0 rfl rfl (lz_vp (x := 60) (n := 160) (by decide) (by decide)) dX12_sheet_87 (fun H locs hP hD hS => ?_)
                                                                  refine lv_iinc (v := 21) (lv' := [(4, .int 21), (0, .ref h0), (1, .int 1), (2, .int (-1)), (3, .int x2)]) hx hb dX12_sheet_88 hl (k := 0) rfl (by decide) (by decide) rfl (fun ls hl => ?_)
                                                                  refine lv_goto (tgt := 68) hx hb dX12_sheet_91 (by decide) ?_
                                                                  refine lv_iload hx hb dX12_sheet_68 (lv_at hl 0 rfl) ?_
                                                                  refine lv_bipush (v := 40) hx hb dX12_sheet_70 (by decide) ?_
                                                                  refine lv_icmp_ge (tgt := 94) hx hb dX12_sheet_72 (by decide) (fun c948 => ?_) (fun c948 => ?_)
                                                                  · exact absurd c948 (by decide)
                                                                  · refine lv_aload_n hx hb dX12_sheet_75 rfl (lv_at hl 1 rfl) ?_
                                                                    refine va_get (D := D) (ci := 12) (v := .ref h11) (C := RX12) (T := TX12) (N := 24) hx hb hts hin12 hown hK hP 0 rfl rfl 18 (by decide) (hts (.fieldLink RX12 44 "MissedPointsModel" "items" "[I") (by decide +kernel)) (fun _ h9 => h9) rfl dX12_sheet_76 ?_
                                                                    refine lv_bipush (v := 40) hx hb dX12_sheet_79 (by decide) ?_
                                                                    refine lv_iload_n hx hb dX12_sheet_81 rfl (lv_at hl 2 rfl) ?_
                                                                    refine lv_imul hx hb dX12_sheet_82 ?_
                                                                    refine lz_top (y := 40) (by decide) ?_
                                                                    refine lv_iload hx hb dX12_sheet_83 (lv_at hl 0 rfl) ?_
                                                                    refine lv_iadd hx hb dX12_sheet_85 ?_
                                                                    refine lz_top (y := 61) (by decide) ?_
                                                                    refine lv_iconst (v := 0) hx hb dX12_sheet_86 (by decide) ?_
                                                                    refine lz_astc hx hb hK hP hD hS 11 0 rfl rfl (lz_vp (x := 61) (n := 160) (by decide) (by decide)) dX12_sheet_87 (fun H locs hP hD hS => ?_)
                                                                    refine lv_iinc (v := 22) (lv' := [(4, .int 22), (0, .ref h0), (1, .int 1), (2, .int (-1)), (3, .int x2)]) hx hb dX12_sheet_88 hl (k := 0) rfl (by decide) (by decide) rfl (fun ls hl => ?_)
                                                                    refine lv_goto (tgt := 68) hx hb dX12_sheet_91 (by decide) ?_
                                                                    refine lv_iload hx hb dX12_sheet_68 (lv_at hl 0 rfl) ?_
                                                                    refine lv_bipush (v := 40) hx hb dX12_sheet_70 (by decide) ?_
                                                                    refine lv_icmp_ge (tgt := 94) hx hb dX12_sheet_72 (by decide) (fun c949 => ?_) (fun c949 => ?_)
                                                                    · exact absurd c949 (by decide)
                                                                    · refine lv_aload_n hx hb dX12_sheet_75 rfl (lv_at hl 1 rfl) ?_
                                                                      refine va_get (D := D) (ci := 12) (v := .ref h11) (C := RX12) (T := TX12) (N := 24) hx hb hts hin12 hown hK hP 0 rfl rfl 18 (by decide) (hts (.fieldLink RX12 44 "MissedPointsModel" "items" "[I") (by decide +kernel)) (fun _ h9 => h9) rfl dX12_sheet_76 ?_
                                                                      refine lv_bipush (v := 40) hx hb dX12_sheet_79 (by decide) ?_
                                                                      refine lv_iload_n hx hb dX12_sheet_81 rfl (lv_at hl 2 rfl) ?_
                                                                      refine lv_imul hx hb dX12_sheet_82 ?_
                                                                      refine lz_top (y := 40) (by decide) ?_
                                                                      refine lv_iload hx hb dX12_sheet_83 (lv_at hl 0 rfl) ?_
                                                                      refine lv_iadd hx hb dX12_sheet_85 ?_
                                                                      refine lz_top (y := 62) (by decide) ?_
                                                                      refine lv_iconst (v := 0) hx hb dX12_sheet_86 (by decide) ?_
                                                                      refine lz_astc hx hb hK hP hD hS 11 0 rfl rfl (lz_vp (x := 62) (n := 160) (by decide) (by decide)) dX12_sheet_87 (fun H locs hP hD hS => ?_)
                                                                      refine lv_iinc (v := 23) (lv' := [(4, .int 23), (0, .ref h0), (1, .int 1), (2, .int (-1)), (3, .int x2)]) hx hb dX12_sheet_88 hl (k := 0) rfl (by decide) (by decide) rfl (fun ls hl => ?_)
                                                                      refine lv_goto (tgt := 68) hx hb dX12_sheet_91 (by decide) ?_
                                                                      refine lv_iload hx hb dX12_sheet_68 (lv_at hl 0 rfl) ?_
                                                                      refine lv_bipush (v := 40) hx hb dX12_sheet_70 (by decide) ?_
                                                                      refine lv_icmp_ge (tgt := 94) hx hb dX12_sheet_72 (by decide) (fun c950 => ?_) (fun c950 => ?_)
                                                                      · exact absurd c950 (by decide)
                                                                      · refine lv_aload_n hx hb dX12_sheet_75 rfl (lv_at hl 1 rfl) ?_
                                                                        refine va_get (D := D) (ci := 12) (v := .ref h11) (C := RX12) (T := TX12) (N := 24) hx hb hts hin12 hown hK hP 0 rfl rfl 18 (by decide) (hts (.fieldLink RX12 44 "MissedPointsModel" "items" "[I") (by decide +kernel)) (fun _ h9 => h9) rfl dX12_sheet_76 ?_
                                                                        refine lv_bipush (v := 40) hx hb dX12_sheet_79 (by decide) ?_
                                                                        refine lv_iload_n hx hb dX12_sheet_81 rfl (lv_at hl 2 rfl) ?_
                                                                        refine lv_imul hx hb dX12_sheet_82 ?_
                                                                        refine lz_top (y := 40) (by decide) ?_
                                                                        refine lv_iload hx hb dX12_sheet_83 (lv_at hl 0 rfl) ?_
                                                                        refine lv_iadd hx hb dX12_sheet_85 ?_
                                                                        refine lz_top (y := 63) (by decide) ?_
                                                                        refine lv_iconst (v := 0) hx hb dX12_sheet_86 (by decide) ?_
                                                                        refine lz_astc hx hb hK hP hD hS 11 0 rfl rfl (lz_vp (x := 63) (n := 160) (by decide) (by decide)) dX12_sheet_87 (fun H locs hP hD hS => ?_)
                                                                        refine lv_iinc (v := 24) (lv' := [(4, .int 24), (0, .ref h0), (1, .int 1), (2, .int (-1)), (3, .int x2)]) hx hb dX12_sheet_88 hl (k := 0) rfl (by decide) (by decide) rfl (fun ls hl => ?_)
                                                                        refine lv_goto (tgt := 68) hx hb dX12_sheet_91 (by decide) ?_
                                                                        refine lv_iload hx hb dX12_sheet_68 (lv_at hl 0 rfl) ?_
                                                                        refine lv_bipush (v := 40) hx hb dX12_sheet_70 (by decide) ?_
                                                                        refine lv_icmp_ge (tgt := 94) hx hb dX12_sheet_72 (by decide) (fun c951 => ?_) (fun c951 => ?_)
                                                                        · exact absurd c951 (by decide)
                                                                        · refine lv_aload_n hx hb dX12_sheet_75 rfl (lv_at hl 1 rfl) ?_
                                                                          refine va_get (D := D) (ci := 12) (v := .ref h11) (C := RX12) (T := TX12) (N := 24) hx hb hts hin12 hown hK hP 0 rfl rfl 18 (by decide) (hts (.fieldLink RX12 44 "MissedPointsModel" "items" "[I") (by decide +kernel)) (fun _ h9 => h9) rfl dX12_sheet_76 ?_
                                                                          refine lv_bipush (v := 40) hx hb dX12_sheet_79 (by decide) ?_
                                                                          refine lv_iload_n hx hb dX12_sheet_81 rfl (lv_at hl 2 rfl) ?_
                                                                          refine lv_imul hx hb dX12_sheet_82 ?_
                                                                          refine lz_top (y := 40) (by decide) ?_
                                                                          refine lv_iload hx hb dX12_sheet_83 (lv_at hl 0 rfl) ?_
                                                                          refine lv_iadd hx hb dX12_sheet_85 ?_
                                                                          refine lz_top (y := 64) (by decide) ?_
                                                                          refine lv_iconst (v := 0) hx hb dX12_sheet_86 (by decide) ?_
                                                                          refine lz_astc hx hb hK hP hD hS 11 0 rfl rfl (lz_vp (x := 64) (n := 160) (by decide) (by decide)) dX12_sheet_87 (fun H locs hP hD hS => ?_)
                                                                          refine lv_iinc (v := 25) (lv' := [(4, .int 25), (0, .ref h0), (1, .int 1), (2, .int (-1)), (3, .int x2)]) hx hb dX12_sheet_88 hl (k := 0) rfl (by decide) (by decide) rfl (fun ls hl => ?_)
                                                                          refine lv_goto (tgt := 68) hx hb dX12_sheet_91 (by decide) ?_
                                                                          refine lv_iload hx hb dX12_sheet_68 (lv_at hl 0 rfl) ?_
                                                                          refine lv_bipush (v := 40) hx hb dX12_sheet_70 (by decide) ?_
                                                                          refine lv_icmp_ge (tgt := 94) hx hb dX12_sheet_72 (by decide) (fun c952 => ?_) (fun c952 => ?_)
                                                                          · exact absurd c952 (by decide)
                                                                          · refine lv_aload_n hx hb dX12_sheet_75 rfl (lv_at hl 1 rfl) ?_
                                                                            refine va_get (D := D) (ci := 12) (v := .ref h11) (C := RX12) (T := TX12) (N := 24) hx hb hts hin12 hown hK hP 0 rfl rfl 18 (by decide) (hts (.fieldLink RX12 44 "MissedPointsModel" "items" "[I") (by decide +kernel)) (fun _ h9 => h9) rfl dX12_sheet_76 ?_
                                                                            refine lv_bipush (v := 40) hx hb dX12_sheet_79 (by decide) ?_
                                                                            refine lv_iload_n hx hb dX12_sheet_81 rfl (lv_at hl 2 rfl) ?_
                                                                            refine lv_imul hx hb dX12_sheet_82 ?_
                                                                            refine lz_top (y := 40) (by decide) ?_
                                                                            refine lv_iload hx hb dX12_sheet_83 (lv_at hl 0 rfl) ?_
                                                                            refine lv_iadd hx hb dX12_sheet_85 ?_
                                                                            refine lz_top (y := 65) (by decide) ?_
                                                                            refine lv_iconst (v := 0) hx hb dX12_sheet_86 (by decide) ?_
                                                                            refine lz_astc hx hb hK hP hD hS 11 0 rfl rfl (lz_vp (x := 65) (n := 160) (by decide) (by decide)) dX12_sheet_87 (fun H locs hP hD hS => ?_)
                                                                            refine lv_iinc (v := 26) (lv' := [(4, .int 26), (0, .ref h0), (1, .int 1), (2, .int (-1)), (3, .int x2)]) hx hb dX12_sheet_88 hl (k := 0) rfl (by decide) (by decide) rfl (fun ls hl => ?_)
                                                                            refine lv_goto (tgt := 68) hx hb dX12_sheet_91 (by decide) ?_
                                                                            refine lv_iload hx hb dX12_sheet_68 (lv_at hl 0 rfl) ?_
                                                                            refine lv_bipush (v := 40) hx hb dX12_sheet_70 (by decide) ?_
                                                                            refine lv_icmp_ge (tgt := 94) hx hb dX12_sheet_72 (by decide) (fun c953 => ?_) (fun c953 => ?_)
                                                                            · exact absurd c953 (by decide)
                                                                            · refine lv_aload_n hx hb dX12_sheet_75 rfl (lv_at hl 1 rfl) ?_
                                                                              refine va_get (D := D) (ci := 12) (v := .ref h11) (C := RX12) (T := TX12) (N := 24) hx hb hts hin12 hown hK hP 0 rfl rfl 18 (by decide) (hts (.fieldLink RX12 44 "MissedPointsModel" "items" "[I") (by decide +kernel)) (fun _ h9 => h9) rfl dX12_sheet_76 ?_
                                                                              refine lv_bipush (v := 40) hx hb dX12_sheet_79 (by decide) ?_
                                                                              refine lv_iload_n hx hb dX12_sheet_81 rfl (lv_at hl 2 rfl) ?_
                                                                              refine lv_imul hx hb dX12_sheet_82 ?_
                                                                              refine lz_top (y := 40) (by decide) ?_
                                                                              refine lv_iload hx hb dX12_sheet_83 (lv_at hl 0 rfl) ?_
                                                                              refine lv_iadd hx hb dX12_sheet_85 ?_
                                                                              refine lz_top (y := 66) (by decide) ?_
                                                                              refine lv_iconst (v := 0) hx hb dX12_sheet_86 (by decide) ?_
                                                                              refine lz_astc hx hb hK hP hD hS 11 0 rfl rfl (lz_vp (x := 66) (n := 160) (by decide) (by decide)) dX12_sheet_87 (fun H locs hP hD hS => ?_)
                                                                              refine lv_iinc (v := 27) (lv' := [(4, .int 27), (0, .ref h0), (1, .int 1), (2, .int (-1)), (3, .int x2)]) hx hb dX12_sheet_88 hl (k := 0) rfl (by decide) (by decide) rfl (fun ls hl => ?_)
                                                                              refine lv_goto (tgt := 68) hx hb dX12_sheet_91 (by decide) ?_
                                                                              refine lv_iload hx hb dX12_sheet_68 (lv_at hl 0 rfl) ?_
                                                                              refine lv_bipush (v := 40) hx hb dX12_sheet_70 (by decide) ?_
                                                                              refine lv_icmp_ge (tgt := 94) hx hb dX12_sheet_72 (by decide) (fun c954 => ?_) (fun c954 => ?_)
                                                                              · exact absurd c954 (by decide)
                                                                              · refine lv_aload_n hx hb dX12_sheet_75 rfl (lv_at hl 1 rfl) ?_
                                                                                refine va_get (D := D) (ci := 12) (v := .ref h11) (C := RX12) (T := TX12) (N := 24) hx hb hts hin12 hown hK hP 0 rfl rfl 18 (by decide) (hts (.fieldLink RX12 44 "MissedPointsModel" "items" "[I") (by decide +kernel)) (fun _ h9 => h9) rfl dX12_sheet_76 ?_
                                                                                refine lv_bipush (v := 40) hx hb dX12_sheet_79 (by decide) ?_
                                                                                refine lv_iload_n hx hb dX12_sheet_81 rfl (lv_at hl 2 rfl) ?_
                                                                                refine lv_imul hx hb dX12_sheet_82 ?_
                                                                                refine lz_top (y := 40) (by decide) ?_
                                                                                refine lv_iload hx hb dX12_sheet_83 (lv_at hl 0 rfl) ?_
                                                                                refine lv_iadd hx hb dX12_sheet_85 ?_
                                                                                refine lz_top (y := 67) (by decide) ?_
                                                                                refine lv_iconst (v := 0) hx hb dX12_sheet_86 (by decide) ?_
                                                                                refine lz_astc hx hb hK hP hD hS 11 0 rfl rfl (lz_vp (x := 67) (n := 160) (by decide) (by decide)) dX12_sheet_87 (fun H locs hP hD hS => ?_)
                                                                                refine lv_iinc (v := 28) (lv' := [(4, .int 28), (0, .ref h0), (1, .int 1), (2, .int (-1)), (3, .int x2)]) hx hb dX12_sheet_88 hl (k := 0) rfl (by decide) (by decide) rfl (fun ls hl => ?_)
                                                                                refine lv_goto (tgt := 68) hx hb dX12_sheet_91 (by decide) ?_
                                                                                refine lv_iload hx hb dX12_sheet_68 (lv_at hl 0 rfl) ?_
                                                                                refine lv_bipush (v := 40) hx hb dX12_sheet_70 (by decide) ?_
                                                                                refine lv_icmp_ge (tgt := 94) hx hb dX12_sheet_72 (by decide) (fun c955 => ?_) (fun c955 => ?_)
                                                                                · exact absurd c955 (by decide)
                                                                                · refine lv_aload_n hx hb dX12_sheet_75 rfl (lv_at hl 1 rfl) ?_
                                                                                  refine va_get (D := D) (ci := 12) (v := .ref h11) (C := RX12) (T := TX12) (N := 24) hx hb hts hin12 hown hK hP 0 rfl rfl 18 (by decide) (hts (.fieldLink RX12 44 "MissedPointsModel" "items" "[I") (by decide +kernel)) (fun _ h9 => h9) rfl dX12_sheet_76 ?_
                                                                                  refine lv_bipush (v := 40) hx hb dX12_sheet_79 (by decide) ?_
                                                                                  refine lv_iload_n hx hb dX12_sheet_81 rfl (lv_at hl 2 rfl) ?_
                                                                                  refine lv_imul hx hb dX12_sheet_82 ?_
                                                                                  refine lz_top (y := 40) (by decide) ?_
                                                                                  refine lv_iload hx hb dX12_sheet_83 (lv_at hl 0 rfl) ?_
                                                                                  refine lv_iadd hx hb dX12_sheet_85 ?_
                                                                                  refine lz_top (y := 68) (by decide) ?_
                                                                                  refine lv_iconst (v := 0) hx hb dX12_sheet_86 (by decide) ?_
                                                                                  refine lz_astc hx hb hK hP hD hS 11 0 rfl rfl (lz_vp (x := 68) (n := 160) (by decide) (by decide)) dX12_sheet_87 (fun H locs hP hD hS => ?_)
                                                                                  refine lv_iinc (v := 29) (lv' := [(4, .int 29), (0, .ref h0), (1, .int 1), (2, .int (-1)), (3, .int x2)]) hx hb dX12_sheet_88 hl (k := 0) rfl (by decide) (by decide) rfl (fun ls hl => ?_)
                                                                                  refine lv_goto (tgt := 68) hx hb dX12_sheet_91 (by decide) ?_
                                                                                  refine lv_iload hx hb dX12_sheet_68 (lv_at hl 0 rfl) ?_
                                                                                  refine lv_bipush (v := 40) hx hb dX12_sheet_70 (by decide) ?_
                                                                                  refine lv_icmp_ge (tgt := 94) hx hb dX12_sheet_72 (by decide) (fun c956 => ?_) (fun c956 => ?_)
                                                                                  · exact absurd c956 (by decide)
                                                                                  · refine lv_aload_n hx hb dX12_sheet_75 rfl (lv_at hl 1 rfl) ?_
                                                                                    refine va_get (D := D) (ci := 12) (v := .ref h11) (C := RX12) (T := TX12) (N := 24) hx hb hts hin12 hown hK hP 0 rfl rfl 18 (by decide) (hts (.fieldLink RX12 44 "MissedPointsModel" "items" "[I") (by decide +kernel)) (fun _ h9 => h9) rfl dX12_sheet_76 ?_
                                                                                    refine lv_bipush (v := 40) hx hb dX12_sheet_79 (by decide) ?_
                                                                                    refine lv_iload_n hx hb dX12_sheet_81 rfl (lv_at hl 2 rfl) ?_
                                                                                    refine lv_imul hx hb dX12_sheet_82 ?_
                                                                                    refine lz_top (y := 40) (by decide) ?_
                                                                                    refine lv_iload hx hb dX12_sheet_83 (lv_at hl 0 rfl) ?_
                                                                                    refine lv_iadd hx hb dX12_sheet_85 ?_
                                                                                    refine lz_top (y := 69) (by decide) ?_
                                                                                    refine lv_iconst (v := 0) hx hb dX12_sheet_86 (by decide) ?_
                                                                                    refine lz_astc hx hb hK hP hD hS 11 0 rfl rfl (lz_vp (x := 69) (n := 160) (by decide) (by decide)) dX12_sheet_87 (fun H locs hP hD hS => ?_)
                                                                                    refine lv_iinc (v := 30) (lv' := [(4, .int 30), (0, .ref h0), (1, .int 1), (2, .int (-1)), (3, .int x2)]) hx hb dX12_sheet_88 hl (k := 0) rfl (by decide) (by decide) rfl (fun ls hl => ?_)
                                                                                    refine lv_goto (tgt := 68) hx hb dX12_sheet_91 (by decide) ?_
                                                                                    refine lv_iload hx hb dX12_sheet_68 (lv_at hl 0 rfl) ?_
                                                                                    refine lv_bipush (v := 40) hx hb dX12_sheet_70 (by decide) ?_
                                                                                    refine lv_icmp_ge (tgt := 94) hx hb dX12_sheet_72 (by decide) (fun c957 => ?_) (fun c957 => ?_)
                                                                                    · exact absurd c957 (by decide)
                                                                                    · refine lv_aload_n hx hb dX12_sheet_75 rfl (lv_at hl 1 rfl) ?_
                                                                                      refine va_get (D := D) (ci := 12) (v := .ref h11) (C := RX12) (T := TX12) (N := 24) hx hb hts hin12 hown hK hP 0 rfl rfl 18 (by decide) (hts (.fieldLink RX12 44 "MissedPointsModel" "items" "[I") (by decide +kernel)) (fun _ h9 => h9) rfl dX12_sheet_76 ?_
                                                                                      refine lv_bipush (v := 40) hx hb dX12_sheet_79 (by decide) ?_
                                                                                      refine lv_iload_n hx hb dX12_sheet_81 rfl (lv_at hl 2 rfl) ?_
                                                                                      refine lv_imul hx hb dX12_sheet_82 ?_
                                                                                      refine lz_top (y := 40) (by decide) ?_
                                                                                      refine lv_iload hx hb dX12_sheet_83 (lv_at hl 0 rfl) ?_
                                                                                      refine lv_iadd hx hb dX12_sheet_85 ?_
                                                                                      refine lz_top (y := 70) (by decide) ?_
                                                                                      refine lv_iconst (v := 0) hx hb dX12_sheet_86 (by decide) ?_
                                                                                      refine lz_astc hx hb hK hP hD hS 11 0 rfl rfl (lz_vp (x := 70) (n := 160) (by decide) (by decide)) dX12_sheet_87 (fun H locs hP hD hS => ?_)
                                                                                      refine lv_iinc (v := 31) (lv' := [(4, .int 31), (0, .ref h0), (1, .int 1), (2, .int (-1)), (3, .int x2)]) hx hb dX12_sheet_88 hl (k := 0) rfl (by decide) (by decide) rfl (fun ls hl => ?_)
                                                                                      refine lv_goto (tgt := 68) hx hb dX12_sheet_91 (by decide) ?_
                                                                                      refine lv_iload hx hb dX12_sheet_68 (lv_at hl 0 rfl) ?_
                                                                                      refine lv_bipush (v := 40) hx hb dX12_sheet_70 (by decide) ?_
                                                                                      refine lv_icmp_ge (tgt := 94) hx hb dX12_sheet_72 (by decide) (fun c958 => ?_) (fun c958 => ?_)
                                                                                      · exact absurd c958 (by decide)
                                                                                      · refine lv_aload_n hx hb dX12_sheet_75 rfl (lv_at hl 1 rfl) ?_
                                                                                        refine va_get (D := D) (ci := 12) (v := .ref h11) (C := RX12) (T := TX12) (N := 24) hx hb hts hin12 hown hK hP 0 rfl rfl 18 (by decide) (hts (.fieldLink RX12 44 "MissedPointsModel" "items" "[I") (by decide +kernel)) (fun _ h9 => h9) rfl dX12_sheet_76 ?_
                                                                                        refine lv_bipush (v := 40) hx hb dX12_sheet_79 (by decide) ?_
                                                                                        refine lv_iload_n hx hb dX12_sheet_81 rfl (lv_at hl 2 rfl) ?_
                                                                                        refine lv_imul hx hb dX12_sheet_82 ?_
                                                                                        refine lz_top (y := 40) (by decide) ?_
                                                                                        refine lv_iload hx hb dX12_sheet_83 (lv_at hl 0 rfl) ?_
                                                                                        refine lv_iadd hx hb dX12_sheet_85 ?_
                                                                                        refine lz_top (y := 71) (by decide) ?_
                                                                                        refine lv_iconst (v := 0) hx hb dX12_sheet_86 (by decide) ?_
                                                                                        refine lz_astc hx hb hK hP hD hS 11 0 rfl rfl (lz_vp (x := 71) (n := 160) (by decide) (by decide)) dX12_sheet_87 (fun H locs hP hD hS => ?_)
                                                                                        refine lv_iinc (v := 32) (lv' := [(4, .int 32), (0, .ref h0), (1, .int 1), (2, .int (-1)), (3, .int x2)]) hx hb dX12_sheet_88 hl (k := 0) rfl (by decide) (by decide) rfl (fun ls hl => ?_)
                                                                                        refine lv_goto (tgt := 68) hx hb dX12_sheet_91 (by decide) ?_
                                                                                        refine lv_iload hx hb dX12_sheet_68 (lv_at hl 0 rfl) ?_
                                                                                        refine lv_bipush (v := 40) hx hb dX12_sheet_70 (by decide) ?_
                                                                                        refine lv_icmp_ge (tgt := 94) hx hb dX12_sheet_72 (by decide) (fun c959 => ?_) (fun c959 => ?_)
                                                                                        · exact absurd c959 (by decide)
                                                                                        · refine lv_aload_n hx hb dX12_sheet_75 rfl (lv_at hl 1 rfl) ?_
                                                                                          refine va_get (D := D) (ci := 12) (v := .ref h11) (C := RX12) (T := TX12) (N := 24) hx hb hts hin12 hown hK hP 0 rfl rfl 18 (by decide) (hts (.fieldLink RX12 44 "MissedPointsModel" "items" "[I") (by decide +kernel)) (fun _ h9 => h9) rfl dX12_sheet_76 ?_
                                                                                          refine lv_bipush (v := 40) hx hb dX12_sheet_79 (by decide) ?_
                                                                                          refine lv_iload_n hx hb dX12_sheet_81 rfl (lv_at hl 2 rfl) ?_
                                                                                          refine lv_imul hx hb dX12_sheet_82 ?_
                                                                                          refine lz_top (y := 40) (by decide) ?_
                                                                                          refine lv_iload hx hb dX12_sheet_83 (lv_at hl 0 rfl) ?_
                                                                                          refine lv_iadd hx hb dX12_sheet_85 ?_
                                                                                          refine lz_top (y := 72) (by decide) ?_
                                                                                          refine lv_iconst (v := 0) hx hb dX12_sheet_86 (by decide) ?_
                                                                                          refine lz_astc hx hb hK hP hD hS 11 0 rfl rfl (lz_vp (x := 72) (n := 160) (by decide) (by decide)) dX12_sheet_87 (fun H locs hP hD hS => ?_)
                                                                                          refine lv_iinc (v := 33) (lv' := [(4, .int 33), (0, .ref h0), (1, .int 1), (2, .int (-1)), (3, .int x2)]) hx hb dX12_sheet_88 hl (k := 0) rfl (by decide) (by decide) rfl (fun ls hl => ?_)
                                                                                          refine lv_goto (tgt := 68) hx hb dX12_sheet_91 (by decide) ?_
                                                                                          refine lv_iload hx hb dX12_sheet_68 (lv_at hl 0 rfl) ?_
                                                                                          refine lv_bipush (v := 40) hx hb dX12_sheet_70 (by decide) ?_
                                                                                          refine lv_icmp_ge (tgt := 94) hx hb dX12_sheet_72 (by decide) (fun c960 => ?_) (fun c960 => ?_)
                                                                                          · exact absurd c960 (by decide)
                                                                                          · refine lv_aload_n hx hb dX12_sheet_75 rfl (lv_at hl 1 rfl) ?_
                                                                                            refine va_get (D := D) (ci := 12) (v := .ref h11) (C := RX12) (T := TX12) (N := 24) hx hb hts hin12 hown hK hP 0 rfl rfl 18 (by decide) (hts (.fieldLink RX12 44 "MissedPointsModel" "items" "[I") (by decide +kernel)) (fun _ h9 => h9) rfl dX12_sheet_76 ?_
                                                                                            refine lv_bipush (v := 40) hx hb dX12_sheet_79 (by decide) ?_
                                                                                            refine lv_iload_n hx hb dX12_sheet_81 rfl (lv_at hl 2 rfl) ?_
                                                                                            refine lv_imul hx hb dX12_sheet_82 ?_
                                                                                            refine lz_top (y := 40) (by decide) ?_
                                                                                            refine lv_iload hx hb dX12_sheet_83 (lv_at hl 0 rfl) ?_
                                                                                            refine lv_iadd hx hb dX12_sheet_85 ?_
                                                                                            refine lz_top (y := 73) (by decide) ?_
                                                                                            refine lv_iconst (v := 0) hx hb dX12_sheet_86 (by decide) ?_
                                                                                            refine lz_astc hx hb hK hP hD hS 11 0 rfl rfl (lz_vp (x := 73) (n := 160) (by decide) (by decide)) dX12_sheet_87 (fun H locs hP hD hS => ?_)
                                                                                            refine lv_iinc (v := 34) (lv' := [(4, .int 34), (0, .ref h0), (1, .int 1), (2, .int (-1)), (3, .int x2)]) hx hb dX12_sheet_88 hl (k := 0) rfl (by decide) (by decide) rfl (fun ls hl => ?_)
                                                                                            refine lv_goto (tgt := 68) hx hb dX12_sheet_91 (by decide) ?_
                                                                                            refine lv_iload hx hb dX12_sheet_68 (lv_at hl 0 rfl) ?_
                                                                                            refine lv_bipush (v := 40) hx hb dX12_sheet_70 (by decide) ?_
                                                                                            refine lv_icmp_ge (tgt := 94) hx hb dX12_sheet_72 (by decide) (fun c961 => ?_) (fun c961 => ?_)
                                                                                            · exact absurd c961 (by decide)
                                                                                            · refine lv_aload_n hx hb dX12_sheet_75 rfl (lv_at hl 1 rfl) ?_
                                                                                              refine va_get (D := D) (ci := 12) (v := .ref h11) (C := RX12) (T := TX12) (N := 24) hx hb hts hin12 hown hK hP 0 rfl rfl 18 (by decide) (hts (.fieldLink RX12 44 "MissedPointsModel" "items" "[I") (by decide +kernel)) (fun _ h9 => h9) rfl dX12_sheet_76 ?_
                                                                                              refine lv_bipush (v := 40) hx hb dX12_sheet_79 (by decide) ?_
                                                                                              refine lv_iload_n hx hb dX12_sheet_81 rfl (lv_at hl 2 rfl) ?_
                                                                                              refine lv_imul hx hb dX12_sheet_82 ?_
                                                                                              refine lz_top (y := 40) (by decide) ?_
                                                                                              refine lv_iload hx hb dX12_sheet_83 (lv_at hl 0 rfl) ?_
                                                                                              refine lv_iadd hx hb dX12_sheet_85 ?_
                                                                                              refine lz_top (y := 74) (by decide) ?_
                                                                                              refine lv_iconst (v := 0) hx hb dX12_sheet_86 (by decide) ?_
                                                                                              refine lz_astc hx hb hK hP hD hS 11 0 rfl rfl (lz_vp (x := 74) (n := 160) (by decide) (by decide)) dX12_sheet_87 (fun H locs hP hD hS => ?_)
                                                                                              refine lv_iinc (v := 35) (lv' := [(4, .int 35), (0, .ref h0), (1, .int 1), (2, .int (-1)), (3, .int x2)]) hx hb dX12_sheet_88 hl (k := 0) rfl (by decide) (by decide) rfl (fun ls hl => ?_)
                                                                                              refine lv_goto (tgt := 68) hx hb dX12_sheet_91 (by decide) ?_
                                                                                              refine lv_iload hx hb dX12_sheet_68 (lv_at hl 0 rfl) ?_
                                                                                              refine lv_bipush (v := 40) hx hb dX12_sheet_70 (by decide) ?_
                                                                                              refine lv_icmp_ge (tgt := 94) hx hb dX12_sheet_72 (by decide) (fun c962 => ?_) (fun c962 => ?_)
                                                                                              · exact absurd c962 (by decide)
                                                                                              · refine lv_aload_n hx hb dX12_sheet_75 rfl (lv_at hl 1 rfl) ?_
                                                                                                refine va_get (D := D) (ci := 12) (v := .ref h11) (C := RX12) (T := TX12) (N := 24) hx hb hts hin12 hown hK hP 0 rfl rfl 18 (by decide) (hts (.fieldLink RX12 44 "MissedPointsModel" "items" "[I") (by decide +kernel)) (fun _ h9 => h9) rfl dX12_sheet_76 ?_
                                                                                                refine lv_bipush (v := 40) hx hb dX12_sheet_79 (by decide) ?_
                                                                                                refine lv_iload_n hx hb dX12_sheet_81 rfl (lv_at hl 2 rfl) ?_
                                                                                                refine lv_imul hx hb dX12_sheet_82 ?_
                                                                                                refine lz_top (y := 40) (by decide) ?_
                                                                                                refine lv_iload hx hb dX12_sheet_83 (lv_at hl 0 rfl) ?_
                                                                                                refine lv_iadd hx hb dX12_sheet_85 ?_
                                                                                                refine lz_top (y := 75) (by decide) ?_
                                                                                                refine lv_iconst (v := 0) hx hb dX12_sheet_86 (by decide) ?_
                                                                                                refine lz_astc hx hb hK hP hD hS 11 0 rfl rfl (lz_vp (x := 75) (n := 160) (by decide) (by decide)) dX12_sheet_87 (fun H locs hP hD hS => ?_)
                                                                                                refine lv_iinc (v := 36) (lv' := [(4, .int 36), (0, .ref h0), (1, .int 1), (2, .int (-1)), (3, .int x2)]) hx hb dX12_sheet_88 hl (k := 0) rfl (by decide) (by decide) rfl (fun ls hl => ?_)
                                                                                                refine lv_goto (tgt := 68) hx hb dX12_sheet_91 (by decide) ?_
                                                                                                refine lv_iload hx hb dX12_sheet_68 (lv_at hl 0 rfl) ?_
                                                                                                refine lv_bipush (v := 40) hx hb dX12_sheet_70 (by decide) ?_
                                                                                                refine lv_icmp_ge (tgt := 94) hx hb dX12_sheet_72 (by decide) (fun c963 => ?_) (fun c963 => ?_)
                                                                                                · exact absurd c963 (by decide)
                                                                                                · refine lv_aload_n hx hb dX12_sheet_75 rfl (lv_at hl 1 rfl) ?_
                                                                                                  refine va_get (D := D) (ci := 12) (v := .ref h11) (C := RX12) (T := TX12) (N := 24) hx hb hts hin12 hown hK hP 0 rfl rfl 18 (by decide) (hts (.fieldLink RX12 44 "MissedPointsModel" "items" "[I") (by decide +kernel)) (fun _ h9 => h9) rfl dX12_sheet_76 ?_
                                                                                                  refine lv_bipush (v := 40) hx hb dX12_sheet_79 (by decide) ?_
                                                                                                  refine lv_iload_n hx hb dX12_sheet_81 rfl (lv_at hl 2 rfl) ?_
                                                                                                  refine lv_imul hx hb dX12_sheet_82 ?_
                                                                                                  refine lz_top (y := 40) (by decide) ?_
                                                                                                  refine lv_iload hx hb dX12_sheet_83 (lv_at hl 0 rfl) ?_
                                                                                                  refine lv_iadd hx hb dX12_sheet_85 ?_
                                                                                                  refine lz_top (y := 76) (by decide) ?_
                                                                                                  refine lv_iconst (v := 0) hx hb dX12_sheet_86 (by decide) ?_
                                                                                                  refine lz_astc hx hb hK hP hD hS 11 0 rfl rfl (lz_vp (x := 76) (n := 160) (by decide) (by decide)) dX12_sheet_87 (fun H locs hP hD hS => ?_)
                                                                                                  refine lv_iinc (v := 37) (lv' := [(4, .int 37), (0, .ref h0), (1, .int 1), (2, .int (-1)), (3, .int x2)]) hx hb dX12_sheet_88 hl (k := 0) rfl (by decide) (by decide) rfl (fun ls hl => ?_)
                                                                                                  refine lv_goto (tgt := 68) hx hb dX12_sheet_91 (by decide) ?_
                                                                                                  refine lv_iload hx hb dX12_sheet_68 (lv_at hl 0 rfl) ?_
                                                                                                  refine lv_bipush (v := 40) hx hb dX12_sheet_70 (by decide) ?_
                                                                                                  refine lv_icmp_ge (tgt := 94) hx hb dX12_sheet_72 (by decide) (fun c964 => ?_) (fun c964 => ?_)
                                                                                                  · exact absurd c964 (by decide)
                                                                                                  · refine lv_aload_n hx hb dX12_sheet_75 rfl (lv_at hl 1 rfl) ?_
                                                                                                    refine va_get (D := D) (ci := 12) (v := .ref h11) (C := RX12) (T := TX12) (N := 24) hx hb hts hin12 hown hK hP 0 rfl rfl 18 (by decide) (hts (.fieldLink RX12 44 "MissedPointsModel" "items" "[I") (by decide +kernel)) (fun _ h9 => h9) rfl dX12_sheet_76 ?_
                                                                                                    refine lv_bipush (v := 40) hx hb dX12_sheet_79 (by decide) ?_
                                                                                                    refine lv_iload_n hx hb dX12_sheet_81 rfl (lv_at hl 2 rfl) ?_
                                                                                                    refine lv_imul hx hb dX12_sheet_82 ?_
                                                                                                    refine lz_top (y := 40) (by decide) ?_
                                                                                                    refine lv_iload hx hb dX12_sheet_83 (lv_at hl 0 rfl) ?_
                                                                                                    refine lv_iadd hx hb dX12_sheet_85 ?_
                                                                                                    refine lz_top (y := 77) (by decide) ?_
                                                                                                    refine lv_iconst (v := 0) hx hb dX12_sheet_86 (by decide) ?_
                                                                                                    refine lz_astc hx hb hK hP hD hS 11 0 rfl rfl (lz_vp (x := 77) (n := 160) (by decide) (by decide)) dX12_sheet_87 (fun H locs hP hD hS => ?_)
                                                                                                    refine lv_iinc (v := 38) (lv' := [(4, .int 38), (0, .ref h0), (1, .int 1), (2, .int (-1)), (3, .int x2)]) hx hb dX12_sheet_88 hl (k := 0) rfl (by decide) (by decide) rfl (fun ls hl => ?_)
                                                                                                    refine lv_goto (tgt := 68) hx hb dX12_sheet_91 (by decide) ?_
                                                                                                    refine lv_iload hx hb dX12_sheet_68 (lv_at hl 0 rfl) ?_
                                                                                                    refine lv_bipush (v := 40) hx hb dX12_sheet_70 (by decide) ?_
                                                                                                    refine lv_icmp_ge (tgt := 94) hx hb dX12_sheet_72 (by decide) (fun c965 => ?_) (fun c965 => ?_)
                                                                                                    · exact absurd c965 (by decide)
                                                                                                    · refine lv_aload_n hx hb dX12_sheet_75 rfl (lv_at hl 1 rfl) ?_
                                                                                                      refine va_get (D := D) (ci := 12) (v := .ref h11) (C := RX12) (T := TX12) (N := 24) hx hb hts hin12 hown hK hP 0 rfl rfl 18 (by decide) (hts (.fieldLink RX12 44 "MissedPointsModel" "items" "[I") (by decide +kernel)) (fun _ h9 => h9) rfl dX12_sheet_76 ?_
                                                                                                      refine lv_bipush (v := 40) hx hb dX12_sheet_79 (by decide) ?_
                                                                                                      refine lv_iload_n hx hb dX12_sheet_81 rfl (lv_at hl 2 rfl) ?_
                                                                                                      refine lv_imul hx hb dX12_sheet_82 ?_
                                                                                                      refine lz_top (y := 40) (by decide) ?_
                                                                                                      refine lv_iload hx hb dX12_sheet_83 (lv_at hl 0 rfl) ?_
                                                                                                      refine lv_iadd hx hb dX12_sheet_85 ?_
                                                                                                      refine lz_top (y := 78) (by decide) ?_
                                                                                                      refine lv_iconst (v := 0) hx hb dX12_sheet_86 (by decide) ?_
                                                                                                      refine lz_astc hx hb hK hP hD hS 11 0 rfl rfl (lz_vp (x := 78) (n := 160) (by decide) (by decide)) dX12_sheet_87 (fun H locs hP hD hS => ?_)
                                                                                                      refine lv_iinc (v := 39) (lv' := [(4, .int 39), (0, .ref h0), (1, .int 1), (2, .int (-1)), (3, .int x2)]) hx hb dX12_sheet_88 hl (k := 0) rfl (by decide) (by decide) rfl (fun ls hl => ?_)
                                                                                                      refine lv_goto (tgt := 68) hx hb dX12_sheet_91 (by decide) ?_
                                                                                                      refine lv_iload hx hb dX12_sheet_68 (lv_at hl 0 rfl) ?_
                                                                                                      refine lv_bipush (v := 40) hx hb dX12_sheet_70 (by decide) ?_
                                                                                                      refine lv_icmp_ge (tgt := 94) hx hb dX12_sheet_72 (by decide) (fun c966 => ?_) (fun c966 => ?_)
                                                                                                      · exact absurd c966 (by decide)
                                                                                                      · refine lv_aload_n hx hb dX12_sheet_75 rfl (lv_at hl 1 rfl) ?_
                                                                                                        refine va_get (D := D) (ci := 12) (v := .ref h11) (C := RX12) (T := TX12) (N := 24) hx hb hts hin12 hown hK hP 0 rfl rfl 18 (by decide) (hts (.fieldLink RX12 44 "MissedPointsModel" "items" "[I") (by decide +kernel)) (fun _ h9 => h9) rfl dX12_sheet_76 ?_
                                                                                                        refine lv_bipush (v := 40) hx hb dX12_sheet_79 (by decide) ?_
                                                                                                        refine lv_iload_n hx hb dX12_sheet_81 rfl (lv_at hl 2 rfl) ?_
                                                                                                        refine lv_imul hx hb dX12_sheet_82 ?_
                                                                                                        refine lz_top (y := 40) (by decide) ?_
                                                                                                        refine lv_iload hx hb dX12_sheet_83 (lv_at hl 0 rfl) ?_
                                                                                                        refine lv_iadd hx hb dX12_sheet_85 ?_
                                                                                                        refine lz_top (y := 79) (by decide) ?_
                                                                                                        refine lv_iconst (v := 0) hx hb dX12_sheet_86 (by decide) ?_
                                                                                                        refine lz_astc hx hb hK hP hD hS 11 0 rfl rfl (lz_vp (x := 79) (n := 160) (by decide) (by decide)) dX12_sheet_87 (fun H locs hP hD hS => ?_)
                                                                                                        refine lv_iinc (v := 40) (lv' := [(4, .int 40), (0, .ref h0), (1, .int 1), (2, .int (-1)), (3, .int x2)]) hx hb dX12_sheet_88 hl (k := 0) rfl (by decide) (by decide) rfl (fun ls hl => ?_)
                                                                                                        refine lv_goto (tgt := 68) hx hb dX12_sheet_91 (by decide) ?_
                                                                                                        refine lv_iload hx hb dX12_sheet_68 (lv_at hl 0 rfl) ?_
                                                                                                        refine lv_bipush (v := 40) hx hb dX12_sheet_70 (by decide) ?_
                                                                                                        refine lv_icmp_ge (tgt := 94) hx hb dX12_sheet_72 (by decide) (fun c967 => ?_) (fun c967 => ?_)
                                                                                                        · refine lv_iconst (v := 1) hx hb dX12_sheet_94 (by decide) ?_
                                                                                                          have hP9 := hP.sub (ws' := []) [] rfl
                                                                                                          have hD9 := hD.sub (ws' := []) [] (by decide) rfl
                                                                                                          subst hAe
                                                                                                          exact W.iret (v := 1) hx hb hr (fun t ht hW => ⟨⟨_, (), rfl, by rw [if_neg k867, if_neg k869, if_neg k875, if_neg k877, if_pos rfl], by rw [ht]; exact hP9, hD9⟩, hS.F ht⟩) hS.2.2 dX12_sheet_95
                                                                                                        · exact absurd c967 (by decide)
                    · by_cases k968 : x0 = 2
                      · subst k968
                        refine lv_aload_n hx hb dX12_sheet_42 rfl (lv_at hl 0 rfl) ?_
                        refine va_get (D := D) (ci := 12) (v := .ref h9) (C := RX12) (T := TX12) (N := 24) hx hb hts hin12 hown hK hP 0 rfl rfl 16 (by decide) (hts (.fieldLink RX12 38 "MissedPointsModel" "sort" "[I") (by decide +kernel)) (fun _ h9 => h9) rfl dX12_sheet_43 ?_
                        refine lv_iload_n hx hb dX12_sheet_46 rfl (lv_at hl 1 rfl) ?_
                        refine lv_iload_n hx hb dX12_sheet_47 rfl (lv_at hl 2 rfl) ?_
                        refine lz_astc hx hb hK hP hD hS 9 0 rfl rfl (lz_vp (x := 2) (n := 4) (by decide) (by decide)) dX12_sheet_48 (fun H locs hP hD hS => ?_)
                        refine lv_aload_n hx hb dX12_sheet_49 rfl (lv_at hl 0 rfl) ?_
                        refine va_get (D := D) (ci := 12) (v := .ref h10) (C := RX12) (T := TX12) (N := 24) hx hb hts hin12 hown hK hP 0 rfl rfl 17 (by decide) (hts (.fieldLink RX12 41 "MissedPointsModel" "size" "[I") (by decide +kernel)) (fun _ h9 => h9) rfl dX12_sheet_50 ?_
                        refine lv_iload_n hx hb dX12_sheet_53 rfl (lv_at hl 1 rfl) ?_
                        refine lv_iload_n hx hb dX12_sheet_54 rfl (lv_at hl 2 rfl) ?_
                        refine lv_iconst (v := (-1)) hx hb dX12_sheet_55 (by decide) ?_
                        refine lv_icmp_ne (tgt := 63) hx hb dX12_sheet_56 (by decide) (fun c969 => ?_) (fun c969 => ?_)
                        · exact absurd c969 (by decide)
                        · refine lv_iconst (v := 0) hx hb dX12_sheet_59 (by decide) ?_
                          refine lv_goto (tgt := 64) hx hb dX12_sheet_60 (by decide) ?_
                          refine lz_astc hx hb hK hP hD hS 10 0 rfl rfl (lz_vp (x := 2) (n := 4) (by decide) (by decide)) dX12_sheet_64 (fun H locs hP hD hS => ?_)
                          refine lv_iconst (v := 0) hx hb dX12_sheet_65 (by decide) ?_
                          refine lv_istore (lv' := [(4, .int 0), (0, .ref h0), (1, .int 2), (2, .int (-1)), (3, .int x2)]) hx hb dX12_sheet_66 hl (by decide) rfl (fun ls hl => ?_)
                          refine lv_iload hx hb dX12_sheet_68 (lv_at hl 0 rfl) ?_
                          refine lv_bipush (v := 40) hx hb dX12_sheet_70 (by decide) ?_
                          refine lv_icmp_ge (tgt := 94) hx hb dX12_sheet_72 (by decide) (fun c970 => ?_) (fun c970 => ?_)
                          · exact absurd c970 (by decide)
                          · refine lv_aload_n hx hb dX12_sheet_75 rfl (lv_at hl 1 rfl) ?_
                            refine va_get (D := D) (ci := 12) (v := .ref h11) (C := RX12) (T := TX12) (N := 24) hx hb hts hin12 hown hK hP 0 rfl rfl 18 (by decide) (hts (.fieldLink RX12 44 "MissedPointsModel" "items" "[I") (by decide +kernel)) (fun _ h9 => h9) rfl dX12_sheet_76 ?_
                            refine lv_bipush (v := 40) hx hb dX12_sheet_79 (by decide) ?_
                            refine lv_iload_n hx hb dX12_sheet_81 rfl (lv_at hl 2 rfl) ?_
                            refine lv_imul hx hb dX12_sheet_82 ?_
                            refine lz_top (y := 80) (by decide) ?_
                            refine lv_iload hx hb dX12_sheet_83 (lv_at hl 0 rfl) ?_
                            refine lv_iadd hx hb dX12_sheet_85 ?_
                            refine lz_top (y := 80) (by decide) ?_
                            refine lv_iconst (v := 0) hx hb dX12_sheet_86 (by decide) ?_
                            refine lz_astc hx hb hK hP hD hS 11 0 rfl rfl (lz_vp (x := 80) (n := 160) (by decide) (by decide)) dX12_sheet_87 (fun H locs hP hD hS => ?_)
                            refine lv_iinc (v := 1) (lv' := [(4, .int 1), (0, .ref h0), (1, .int 2), (2, .int (-1)), (3, .int x2)]) hx hb dX12_sheet_88 hl (k := 0) rfl (by decide) (by decide) rfl (fun ls hl => ?_)
                            refine lv_goto (tgt := 68) hx hb dX12_sheet_91 (by decide) ?_
                            refine lv_iload hx hb dX12_sheet_68 (lv_at hl 0 rfl) ?_
                            refine lv_bipush (v := 40) hx hb dX12_sheet_70 (by decide) ?_
                            refine lv_icmp_ge (tgt := 94) hx hb dX12_sheet_72 (by decide) (fun c971 => ?_) (fun c971 => ?_)
                            · exact absurd c971 (by decide)
                            · refine lv_aload_n hx hb dX12_sheet_75 rfl (lv_at hl 1 rfl) ?_
                              refine va_get (D := D) (ci := 12) (v := .ref h11) (C := RX12) (T := TX12) (N := 24) hx hb hts hin12 hown hK hP 0 rfl rfl 18 (by decide) (hts (.fieldLink RX12 44 "MissedPointsModel" "items" "[I") (by decide +kernel)) (fun _ h9 => h9) rfl dX12_sheet_76 ?_
                              refine lv_bipush (v := 40) hx hb dX12_sheet_79 (by decide) ?_
                              refine lv_iload_n hx hb dX12_sheet_81 rfl (lv_at hl 2 rfl) ?_
                              refine lv_imul hx hb dX12_sheet_82 ?_
                              refine lz_top (y := 80) (by decide) ?_
                              refine lv_iload hx hb dX12_sheet_83 (lv_at hl 0 rfl) ?_
                              refine lv_iadd hx hb dX12_sheet_85 ?_
                              refine lz_top (y := 81) (by decide) ?_
                              refine lv_iconst (v := 0) hx hb dX12_sheet_86 (by decide) ?_
                              refine lz_astc hx hb hK hP hD hS 11 0 rfl rfl (lz_vp (x := 81) (n := 160) (by decide) (by decide)) dX12_sheet_87 (fun H locs hP hD hS => ?_)
                              refine lv_iinc (v := 2) (lv' := [(4, .int 2), (0, .ref h0), (1, .int 2), (2, .int (-1)), (3, .int x2)]) hx hb dX12_sheet_88 hl (k := 0) rfl (by decide) (by decide) rfl (fun ls hl => ?_)
                              refine lv_goto (tgt := 68) hx hb dX12_sheet_91 (by decide) ?_
                              refine lv_iload hx hb dX12_sheet_68 (lv_at hl 0 rfl) ?_
                              refine lv_bipush (v := 40) hx hb dX12_sheet_70 (by decide) ?_
                              refine lv_icmp_ge (tgt := 94) hx hb dX12_sheet_72 (by decide) (fun c972 => ?_) (fun c972 => ?_)
                              · exact absurd c972 (by decide)
                              · refine lv_aload_n hx hb dX12_sheet_75 rfl (lv_at hl 1 rfl) ?_
                                refine va_get (D := D) (ci := 12) (v := .ref h11) (C := RX12) (T := TX12) (N := 24) hx hb hts hin12 hown hK hP 0 rfl rfl 18 (by decide) (hts (.fieldLink RX12 44 "MissedPointsModel" "items" "[I") (by decide +kernel)) (fun _ h9 => h9) rfl dX12_sheet_76 ?_
                                refine lv_bipush (v := 40) hx hb dX12_sheet_79 (by decide) ?_
                                refine lv_iload_n hx hb dX12_sheet_81 rfl (lv_at hl 2 rfl) ?_
                                refine lv_imul hx hb dX12_sheet_82 ?_
                                refine lz_top (y := 80) (by decide) ?_
                                refine lv_iload hx hb dX12_sheet_83 (lv_at hl 0 rfl) ?_
                                refine lv_iadd hx hb dX12_sheet_85 ?_
                                refine lz_top (y := 82) (by decide) ?_
                                refine lv_iconst (v := 0) hx hb dX12_sheet_86 (by decide) ?_
                                refine lz_astc hx hb hK hP hD hS 11 0 rfl rfl (lz_vp (x := 82) (n := 160) (by decide) (by decide)) dX12_sheet_87 (fun H locs hP hD hS => ?_)
                                refine lv_iinc (v := 3) (lv' := [(4, .int 3), (0, .ref h0), (1, .int 2), (2, .int (-1)), (3, .int x2)]) hx hb dX12_sheet_88 hl (k := 0) rfl (by decide) (by decide) rfl (fun ls hl => ?_)
                                refine lv_goto (tgt := 68) hx hb dX12_sheet_91 (by decide) ?_
                                refine lv_iload hx hb dX12_sheet_68 (lv_at hl 0 rfl) ?_
                                refine lv_bipush (v := 40) hx hb dX12_sheet_70 (by decide) ?_
                                refine lv_icmp_ge (tgt := 94) hx hb dX12_sheet_72 (by decide) (fun c973 => ?_) (fun c973 => ?_)
                                · exact absurd c973 (by decide)
                                · refine lv_aload_n hx hb dX12_sheet_75 rfl (lv_at hl 1 rfl) ?_
                                  refine va_get (D := D) (ci := 12) (v := .ref h11) (C := RX12) (T := TX12) (N := 24) hx hb hts hin12 hown hK hP 0 rfl rfl 18 (by decide) (hts (.fieldLink RX12 44 "MissedPointsModel" "items" "[I") (by decide +kernel)) (fun _ h9 => h9) rfl dX12_sheet_76 ?_
                                  refine lv_bipush (v := 40) hx hb dX12_sheet_79 (by decide) ?_
                                  refine lv_iload_n hx hb dX12_sheet_81 rfl (lv_at hl 2 rfl) ?_
                                  refine lv_imul hx hb dX12_sheet_82 ?_
                                  refine lz_top (y := 80) (by decide) ?_
                                  refine lv_iload hx hb dX12_sheet_83 (lv_at hl 0 rfl) ?_
                                  refine lv_iadd hx hb dX12_sheet_85 ?_
                                  refine lz_top (y := 83) (by decide) ?_
                                  refine lv_iconst (v := 0) hx hb dX12_sheet_86 (by decide) ?_
                                  refine lz_astc hx hb hK hP hD hS 11 0 rfl rfl (lz_vp (x := 83) (n := 160) (by decide) (by decide)) dX12_sheet_87 (fun H locs hP hD hS => ?_)
                                  refine lv_iinc (v := 4) (lv' := [(4, .int 4), (0, .ref h0), (1, .int 2), (2, .int (-1)), (3, .int x2)]) hx hb dX12_sheet_88 hl (k := 0) rfl (by decide) (by decide) rfl (fun ls hl => ?_)
                                  refine lv_goto (tgt := 68) hx hb dX12_sheet_91 (by decide) ?_
                                  refine lv_iload hx hb dX12_sheet_68 (lv_at hl 0 rfl) ?_
                                  refine lv_bipush (v := 40) hx hb dX12_sheet_70 (by decide) ?_
                                  refine lv_icmp_ge (tgt := 94) hx hb dX12_sheet_72 (by decide) (fun c974 => ?_) (fun c974 => ?_)
                                  · exact absurd c974 (by decide)
                                  · refine lv_aload_n hx hb dX12_sheet_75 rfl (lv_at hl 1 rfl) ?_
                                    refine va_get (D := D) (ci := 12) (v := .ref h11) (C := RX12) (T := TX12) (N := 24) hx hb hts hin12 hown hK hP 0 rfl rfl 18 (by decide) (hts (.fieldLink RX12 44 "MissedPointsModel" "items" "[I") (by decide +kernel)) (fun _ h9 => h9) rfl dX12_sheet_76 ?_
                                    refine lv_bipush (v := 40) hx hb dX12_sheet_79 (by decide) ?_
                                    refine lv_iload_n hx hb dX12_sheet_81 rfl (lv_at hl 2 rfl) ?_
                                    refine lv_imul hx hb dX12_sheet_82 ?_
                                    refine lz_top (y := 80) (by decide) ?_
                                    refine lv_iload hx hb dX12_sheet_83 (lv_at hl 0 rfl) ?_
                                    refine lv_iadd hx hb dX12_sheet_85 ?_
                                    refine lz_top (y := 84) (by decide) ?_
                                    refine lv_iconst (v := 0) hx hb dX12_sheet_86 (by decide) ?_
                                    refine lz_astc hx hb hK hP hD hS 11 0 rfl rfl (lz_vp (x := 84) (n := 160) (by decide) (by decide)) dX12_sheet_87 (fun H locs hP hD hS => ?_)
                                    refine lv_iinc (v := 5) (lv' := [(4, .int 5), (0, .ref h0), (1, .int 2), (2, .int (-1)), (3, .int x2)]) hx hb dX12_sheet_88 hl (k := 0) rfl (by decide) (by decide) rfl (fun ls hl => ?_)
                                    refine lv_goto (tgt := 68) hx hb dX12_sheet_91 (by decide) ?_
                                    refine lv_iload hx hb dX12_sheet_68 (lv_at hl 0 rfl) ?_
                                    refine lv_bipush (v := 40) hx hb dX12_sheet_70 (by decide) ?_
                                    refine lv_icmp_ge (tgt := 94) hx hb dX12_sheet_72 (by decide) (fun c975 => ?_) (fun c975 => ?_)
                                    · exact absurd c975 (by decide)
                                    · refine lv_aload_n hx hb dX12_sheet_75 rfl (lv_at hl 1 rfl) ?_
                                      refine va_get (D := D) (ci := 12) (v := .ref h11) (C := RX12) (T := TX12) (N := 24) hx hb hts hin12 hown hK hP 0 rfl rfl 18 (by decide) (hts (.fieldLink RX12 44 "MissedPointsModel" "items" "[I") (by decide +kernel)) (fun _ h9 => h9) rfl dX12_sheet_76 ?_
                                      refine lv_bipush (v := 40) hx hb dX12_sheet_79 (by decide) ?_
                                      refine lv_iload_n hx hb dX12_sheet_81 rfl (lv_at hl 2 rfl) ?_
                                      refine lv_imul hx hb dX12_sheet_82 ?_
                                      refine lz_top (y := 80) (by decide) ?_
                                      refine lv_iload hx hb dX12_sheet_83 (lv_at hl 0 rfl) ?_
                                      refine lv_iadd hx hb dX12_sheet_85 ?_
                                      refine lz_top (y := 85) (by decide) ?_
                                      refine lv_iconst (v := 0) hx hb dX12_sheet_86 (by decide) ?_
                                      refine lz_astc hx hb hK hP hD hS 11 0 rfl rfl (lz_vp (x := 85) (n := 160) (by decide) (by decide)) dX12_sheet_87 (fun H locs hP hD hS => ?_)
                                      refine lv_iinc (v := 6) (lv' := [(4, .int 6), (0, .ref h0), (1, .int 2), (2, .int (-1)), (3, .int x2)]) hx hb dX12_sheet_88 hl (k := 0) rfl (by decide) (by decide) rfl (fun ls hl => ?_)
                                      refine lv_goto (tgt := 68) hx hb dX12_sheet_91 (by decide) ?_
                                      refine lv_iload hx hb dX12_sheet_68 (lv_at hl 0 rfl) ?_
                                      refine lv_bipush (v := 40) hx hb dX12_sheet_70 (by decide) ?_
                                      refine lv_icmp_ge (tgt := 94) hx hb dX12_sheet_72 (by decide) (fun c976 => ?_) (fun c976 => ?_)
                                      · exact absurd c976 (by decide)
                                      · refine lv_aload_n hx hb dX12_sheet_75 rfl (lv_at hl 1 rfl) ?_
                                        refine va_get (D := D) (ci := 12) (v := .ref h11) (C := RX12) (T := TX12) (N := 24) hx hb hts hin12 hown hK hP 0 rfl rfl 18 (by decide) (hts (.fieldLink RX12 44 "MissedPointsModel" "items" "[I") (by decide +kernel)) (fun _ h9 => h9) rfl dX12_sheet_76 ?_
                                        refine lv_bipush (v := 40) hx hb dX12_sheet_79 (by decide) ?_
                                        refine lv_iload_n hx hb dX12_sheet_81 rfl (lv_at hl 2 rfl) ?_
                                        refine lv_imul hx hb dX12_sheet_82 ?_
                                        refine lz_top (y := 80) (by decide) ?_
                                        refine lv_iload hx hb dX12_sheet_83 (lv_at hl 0 rfl) ?_
                                        refine lv_iadd hx hb dX12_sheet_85 ?_
                                        refine lz_top (y := 86) (by decide) ?_
                                        refine lv_iconst (v := 0) hx hb dX12_sheet_86 (by decide) ?_
                                        refine lz_astc hx hb hK hP hD hS 11 0 rfl rfl (lz_vp (x := 86) (n := 160) (by decide) (by decide)) dX12_sheet_87 (fun H locs hP hD hS => ?_)
                                        refine lv_iinc (v := 7) (lv' := [(4, .int 7), (0, .ref h0), (1, .int 2), (2, .int (-1)), (3, .int x2)]) hx hb dX12_sheet_88 hl (k := 0) rfl (by decide) (by decide) rfl (fun ls hl => ?_)
                                        refine lv_goto (tgt := 68) hx hb dX12_sheet_91 (by decide) ?_
                                        refine lv_iload hx hb dX12_sheet_68 (lv_at hl 0 rfl) ?_
                                        refine lv_bipush (v := 40) hx hb dX12_sheet_70 (by decide) ?_
                                        refine lv_icmp_ge (tgt := 94) hx hb dX12_sheet_72 (by decide) (fun c977 => ?_) (fun c977 => ?_)
                                        · exact absurd c977 (by decide)
                                        · refine lv_aload_n hx hb dX12_sheet_75 rfl (lv_at hl 1 rfl) ?_
                                          refine va_get (D := D) (ci := 12) (v := .ref h11) (C := RX12) (T := TX12) (N := 24) hx hb hts hin12 hown hK hP 0 rfl rfl 18 (by decide) (hts (.fieldLink RX12 44 "MissedPointsModel" "items" "[I") (by decide +kernel)) (fun _ h9 => h9) rfl dX12_sheet_76 ?_
                                          refine lv_bipush (v := 40) hx hb dX12_sheet_79 (by decide) ?_
                                          refine lv_iload_n hx hb dX12_sheet_81 rfl (lv_at hl 2 rfl) ?_
                                          refine lv_imul hx hb dX12_sheet_82 ?_
                                          refine lz_top (y := 80) (by decide) ?_
                                          refine lv_iload hx hb dX12_sheet_83 (lv_at hl 0 rfl) ?_
                                          refine lv_iadd hx hb dX12_sheet_85 ?_
                                          refine lz_top (y := 87) (by decide) ?_
                                          refine lv_iconst (v := 0) hx hb dX12_sheet_86 (by decide) ?_
                                          refine lz_astc hx hb hK hP hD hS 11 0 rfl rfl (lz_vp (x := 87) (n := 160) (by decide) (by decide)) dX12_sheet_87 (fun H locs hP hD hS => ?_)
                                          refine lv_iinc (v := 8) (lv' := [(4, .int 8), (0, .ref h0), (1, .int 2), (2, .int (-1)), (3, .int x2)]) hx hb dX12_sheet_88 hl (k := 0) rfl (by decide) (by decide) rfl (fun ls hl => ?_)
                                          refine lv_goto (tgt := 68) hx hb dX12_sheet_91 (by decide) ?_
                                          refine lv_iload hx hb dX12_sheet_68 (lv_at hl 0 rfl) ?_
                                          refine lv_bipush (v := 40) hx hb dX12_sheet_70 (by decide) ?_
                                          refine lv_icmp_ge (tgt := 94) hx hb dX12_sheet_72 (by decide) (fun c978 => ?_) (fun c978 => ?_)
                                          · exact absurd c978 (by decide)
                                          · refine lv_aload_n hx hb dX12_sheet_75 rfl (lv_at hl 1 rfl) ?_
                                            refine va_get (D := D) (ci := 12) (v := .ref h11) (C := RX12) (T := TX12) (N := 24) hx hb hts hin12 hown hK hP 0 rfl rfl 18 (by decide) (hts (.fieldLink RX12 44 "MissedPointsModel" "items" "[I") (by decide +kernel)) (fun _ h9 => h9) rfl dX12_sheet_76 ?_
                                            refine lv_bipush (v := 40) hx hb dX12_sheet_79 (by decide) ?_
                                            refine lv_iload_n hx hb dX12_sheet_81 rfl (lv_at hl 2 rfl) ?_
                                            refine lv_imul hx hb dX12_sheet_82 ?_
                                            refine lz_top (y := 80) (by decide) ?_
                                            refine lv_iload hx hb dX12_sheet_83 (lv_at hl 0 rfl) ?_
                                            refine lv_iadd hx hb dX12_sheet_85 ?_
                                            refine lz_top (y := 88) (by decide) ?_
                                            refine lv_iconst (v := 0) hx hb dX12_sheet_86 (by decide) ?_
                                            refine lz_astc hx hb hK hP hD hS 11 0 rfl rfl (lz_vp (x := 88) (n := 160) (by decide) (by decide)) dX12_sheet_87 (fun H locs hP hD hS => ?_)
                                            refine lv_iinc (v := 9) (lv' := [(4, .int 9), (0, .ref h0), (1, .int 2), (2, .int (-1)), (3, .int x2)]) hx hb dX12_sheet_88 hl (k := 0) rfl (by decide) (by decide) rfl (fun ls hl => ?_)
                                            refine lv_goto (tgt := 68) hx hb dX12_sheet_91 (by decide) ?_
                                            refine lv_iload hx hb dX12_sheet_68 (lv_at hl 0 rfl) ?_
                                            refine lv_bipush (v := 40) hx hb dX12_sheet_70 (by decide) ?_
                                            refine lv_icmp_ge (tgt := 94) hx hb dX12_sheet_72 (by decide) (fun c979 => ?_) (fun c979 => ?_)
                                            · exact absurd c979 (by decide)
                                            · refine lv_aload_n hx hb dX12_sheet_75 rfl (lv_at hl 1 rfl) ?_
                                              refine va_get (D := D) (ci := 12) (v := .ref h11) (C := RX12) (T := TX12) (N := 24) hx hb hts hin12 hown hK hP 0 rfl rfl 18 (by decide) (hts (.fieldLink RX12 44 "MissedPointsModel" "items" "[I") (by decide +kernel)) (fun _ h9 => h9) rfl dX12_sheet_76 ?_
                                              refine lv_bipush (v := 40) hx hb dX12_sheet_79 (by decide) ?_
                                              refine lv_iload_n hx hb dX12_sheet_81 rfl (lv_at hl 2 rfl) ?_
                                              refine lv_imul hx hb dX12_sheet_82 ?_
                                              refine lz_top (y := 80) (by decide) ?_
                                              refine lv_iload hx hb dX12_sheet_83 (lv_at hl 0 rfl) ?_
                                              refine lv_iadd hx hb dX12_sheet_85 ?_
                                              refine lz_top (y := 89) (by decide) ?_
                                              refine lv_iconst (v := 0) hx hb dX12_sheet_86 (by decide) ?_
                                              refine lz_astc hx hb hK hP hD hS 11 0 rfl rfl (lz_vp (x := 89) (n := 160) (by decide) (by decide)) dX12_sheet_87 (fun H locs hP hD hS => ?_)
                                              refine lv_iinc (v := 10) (lv' := [(4, .int 10), (0, .ref h0), (1, .int 2), (2, .int (-1)), (3, .int x2)]) hx hb dX12_sheet_88 hl (k := 0) rfl (by decide) (by decide) rfl (fun ls hl => ?_)
                                              refine lv_goto (tgt := 68) hx hb dX12_sheet_91 (by decide) ?_
                                              refine lv_iload hx hb dX12_sheet_68 (lv_at hl 0 rfl) ?_
                                              refine lv_bipush (v := 40) hx hb dX12_sheet_70 (by decide) ?_
                                              refine lv_icmp_ge (tgt := 94) hx hb dX12_sheet_72 (by decide) (fun c980 => ?_) (fun c980 => ?_)
                                              · exact absurd c980 (by decide)
                                              · refine lv_aload_n hx hb dX12_sheet_75 rfl (lv_at hl 1 rfl) ?_
                                                refine va_get (D := D) (ci := 12) (v := .ref h11) (C := RX12) (T := TX12) (N := 24) hx hb hts hin12 hown hK hP 0 rfl rfl 18 (by decide) (hts (.fieldLink RX12 44 "MissedPointsModel" "items" "[I") (by decide +kernel)) (fun _ h9 => h9) rfl dX12_sheet_76 ?_
                                                refine lv_bipush (v := 40) hx hb dX12_sheet_79 (by decide) ?_
                                                refine lv_iload_n hx hb dX12_sheet_81 rfl (lv_at hl 2 rfl) ?_
                                                refine lv_imul hx hb dX12_sheet_82 ?_
                                                refine lz_top (y := 80) (by decide) ?_
                                                refine lv_iload hx hb dX12_sheet_83 (lv_at hl 0 rfl) ?_
                                                refine lv_iadd hx hb dX12_sheet_85 ?_
                                                refine lz_top (y := 90) (by decide) ?_
                                                refine lv_iconst (v := 0) hx hb dX12_sheet_86 (by decide) ?_
                                                refine lz_astc hx hb hK hP hD hS 11 0 rfl rfl (lz_vp (x := 90) (n := 160) (by decide) (by decide)) dX12_sheet_87 (fun H locs hP hD hS => ?_)
                                                refine lv_iinc (v := 11) (lv' := [(4, .int 11), (0, .ref h0), (1, .int 2), (2, .int (-1)), (3, .int x2)]) hx hb dX12_sheet_88 hl (k := 0) rfl (by decide) (by decide) rfl (fun ls hl => ?_)
                                                refine lv_goto (tgt := 68) hx hb dX12_sheet_91 (by decide) ?_
                                                refine lv_iload hx hb dX12_sheet_68 (lv_at hl 0 rfl) ?_
                                                refine lv_bipush (v := 40) hx hb dX12_sheet_70 (by decide) ?_
                                                refine lv_icmp_ge (tgt := 94) hx hb dX12_sheet_72 (by decide) (fun c981 => ?_) (fun c981 => ?_)
                                                · exact absurd c981 (by decide)
                                                · refine lv_aload_n hx hb dX12_sheet_75 rfl (lv_at hl 1 rfl) ?_
                                                  refine va_get (D := D) (ci := 12) (v := .ref h11) (C := RX12) (T := TX12) (N := 24) hx hb hts hin12 hown hK hP 0 rfl rfl 18 (by decide) (hts (.fieldLink RX12 44 "MissedPointsModel" "items" "[I") (by decide +kernel)) (fun _ h9 => h9) rfl dX12_sheet_76 ?_
                                                  refine lv_bipush (v := 40) hx hb dX12_sheet_79 (by decide) ?_
                                                  refine lv_iload_n hx hb dX12_sheet_81 rfl (lv_at hl 2 rfl) ?_
                                                  refine lv_imul hx hb dX12_sheet_82 ?_
                                                  refine lz_top (y := 80) (by decide) ?_
                                                  refine lv_iload hx hb dX12_sheet_83 (lv_at hl 0 rfl) ?_
                                                  refine lv_iadd hx hb dX12_sheet_85 ?_
                                                  refine lz_top (y := 91) (by decide) ?_
                                                  refine lv_iconst (v := 0) hx hb dX12_sheet_86 (by decide) ?_
                                                  refine lz_astc hx hb hK hP hD hS 11 0 rfl rfl (lz_vp (x := 91) (n := 160) (by decide) (by decide)) dX12_sheet_87 (fun H locs hP hD hS => ?_)
                                                  refine lv_iinc (v := 12) (lv' := [(4, .int 12), (0, .ref h0), (1, .int 2), (2, .int (-1)), (3, .int x2)]) hx hb dX12_sheet_88 hl (k := 0) rfl (by decide) (by decide) rfl (fun ls hl => ?_)
                                                  refine lv_goto (tgt := 68) hx hb dX12_sheet_91 (by decide) ?_
                                                  refine lv_iload hx hb dX12_sheet_68 (lv_at hl 0 rfl) ?_
                                                  refine lv_bipush (v := 40) hx hb dX12_sheet_70 (by decide) ?_
                                                  refine lv_icmp_ge (tgt := 94) hx hb dX12_sheet_72 (by decide) (fun c982 => ?_) (fun c982 => ?_)
                                                  · exact absurd c982 (by decide)
                                                  · refine lv_aload_n hx hb dX12_sheet_75 rfl (lv_at hl 1 rfl) ?_
                                                    refine va_get (D := D) (ci := 12) (v := .ref h11) (C := RX12) (T := TX12) (N := 24) hx hb hts hin12 hown hK hP 0 rfl rfl 18 (by decide) (hts (.fieldLink RX12 44 "MissedPointsModel" "items" "[I") (by decide +kernel)) (fun _ h9 => h9) rfl dX12_sheet_76 ?_
                                                    refine lv_bipush (v := 40) hx hb dX12_sheet_79 (by decide) ?_
                                                    refine lv_iload_n hx hb dX12_sheet_81 rfl (lv_at hl 2 rfl) ?_
                                                    refine lv_imul hx hb dX12_sheet_82 ?_
                                                    refine lz_top (y := 80) (by decide) ?_
                                                    refine lv_iload hx hb dX12_sheet_83 (lv_at hl 0 rfl) ?_
                                                    refine lv_iadd hx hb dX12_sheet_85 ?_
                                                    refine lz_top (y := 92) (by decide) ?_
                                                    refine lv_iconst (v := 0) hx hb dX12_sheet_86 (by decide) ?_
                                                    refine lz_astc hx hb hK hP hD hS 11 0 rfl rfl (lz_vp (x := 92) (n := 160) (by decide) (by decide)) dX12_sheet_87 (fun H locs hP hD hS => ?_)
                                                    refine lv_iinc (v := 13) (lv' := [(4, .int 13), (0, .ref h0), (1, .int 2), (2, .int (-1)), (3, .int x2)]) hx hb dX12_sheet_88 hl (k := 0) rfl (by decide) (by decide) rfl (fun ls hl => ?_)
                                                    refine lv_goto (tgt := 68) hx hb dX12_sheet_91 (by decide) ?_
                                                    refine lv_iload hx hb dX12_sheet_68 (lv_at hl 0 rfl) ?_
                                                    refine lv_bipush (v := 40) hx hb dX12_sheet_70 (by decide) ?_
                                                    refine lv_icmp_ge (tgt := 94) hx hb dX12_sheet_72 (by decide) (fun c983 => ?_) (fun c983 => ?_)
                                                    · exact absurd c983 (by decide)
                                                    · refine lv_aload_n hx hb dX12_sheet_75 rfl (lv_at hl 1 rfl) ?_
                                                      refine va_get (D := D) (ci := 12) (v := .ref h11) (C := RX12) (T := TX12) (N := 24) hx hb hts hin12 hown hK hP 0 rfl rfl 18 (by decide) (hts (.fieldLink RX12 44 "MissedPointsModel" "items" "[I") (by decide +kernel)) (fun _ h9 => h9) rfl dX12_sheet_76 ?_
                                                      refine lv_bipush (v := 40) hx hb dX12_sheet_79 (by decide) ?_
                                                      refine lv_iload_n hx hb dX12_sheet_81 rfl (lv_at hl 2 rfl) ?_
                                                      refine lv_imul hx hb dX12_sheet_82 ?_
                                                      refine lz_top (y := 80) (by decide) ?_
                                                      refine lv_iload hx hb dX12_sheet_83 (lv_at hl 0 rfl) ?_
                                                      refine lv_iadd hx hb dX12_sheet_85 ?_
                                                      refine lz_top (y := 93) (by decide) ?_
                                                      refine lv_iconst (v := 0) hx hb dX12_sheet_86 (by decide) ?_
                                                      refine lz_astc hx hb hK hP hD hS 11 0 rfl rfl (lz_vp (x := 93) (n := 160) (by decide) (by decide)) dX12_sheet_87 (fun H locs hP hD hS => ?_)
                                                      refine lv_iinc (v := 14) (lv' := [(4, .int 14), (0, .ref h0), (1, .int 2), (2, .int (-1)), (3, .int x2)]) hx hb dX12_sheet_88 hl (k := 0) rfl (by decide) (by decide) rfl (fun ls hl => ?_)
                                                      refine lv_goto (tgt := 68) hx hb dX12_sheet_91 (by decide) ?_
                                                      refine lv_iload hx hb dX12_sheet_68 (lv_at hl 0 rfl) ?_
                                                      refine lv_bipush (v := 40) hx hb dX12_sheet_70 (by decide) ?_
                                                      refine lv_icmp_ge (tgt := 94) hx hb dX12_sheet_72 (by decide) (fun c984 => ?_) (fun c984 => ?_)
                                                      · exact absurd c984 (by decide)
                                                      · refine lv_aload_n hx hb dX12_sheet_75 rfl (lv_at hl 1 rfl) ?_
                                                        refine va_get (D := D) (ci := 12) (v := .ref h11) (C := RX12) (T := TX12) (N := 24) hx hb hts hin12 hown hK hP 0 rfl rfl 18 (by decide) (hts (.fieldLink RX12 44 "MissedPointsModel" "items" "[I") (by decide +kernel)) (fun _ h9 => h9) rfl dX12_sheet_76 ?_
                                                        refine lv_bipush (v := 40) hx hb dX12_sheet_79 (by decide) ?_
                                                        refine lv_iload_n hx hb dX12_sheet_81 rfl (lv_at hl 2 rfl) ?_
                                                        refine lv_imul hx hb dX12_sheet_82 ?_
                                                        refine lz_top (y := 80) (by decide) ?_
                                                        refine lv_iload hx hb dX12_sheet_83 (lv_at hl 0 rfl) ?_
                                                        refine lv_iadd hx hb dX12_sheet_85 ?_
                                                        refine lz_top (y := 94) (by decide) ?_
                                                        refine lv_iconst (v := 0) hx hb dX12_sheet_86 (by decide) ?_
                                                        refine lz_astc hx hb hK hP hD hS 11 0 rfl rfl (lz_vp (x := 94) (n := 160) (by decide) (by decide)) dX12_sheet_87 (fun H locs hP hD hS => ?_)
                                                        refine lv_iinc (v := 15) (lv' := [(4, .int 15), (0, .ref h0), (1, .int 2), (2, .int (-1)), (3, .int x2)]) hx hb dX12_sheet_88 hl (k := 0) rfl (by decide) (by decide) rfl (fun ls hl => ?_)
                                                        refine lv_goto (tgt := 68) hx hb dX12_sheet_91 (by decide) ?_
                                                        refine lv_iload hx hb dX12_sheet_68 (lv_at hl 0 rfl) ?_
                                                        refine lv_bipush (v := 40) hx hb dX12_sheet_70 (by decide) ?_
                                                        refine lv_icmp_ge (tgt := 94) hx hb dX12_sheet_72 (by decide) (fun c985 => ?_) (fun c985 => ?_)
                                                        · exact absurd c985 (by decide)
                                                        · refine lv_aload_n hx hb dX12_sheet_75 rfl (lv_at hl 1 rfl) ?_
                                                          refine va_get (D := D) (ci := 12) (v := .ref h11) (C := RX12) (T := TX12) (N := 24) hx hb hts hin12 hown hK hP 0 rfl rfl 18 (by decide) (hts (.fieldLink RX12 44 "MissedPointsModel" "items" "[I") (by decide +kernel)) (fun _ h9 => h9) rfl dX12_sheet_76 ?_
                                                          refine lv_bipush (v := 40) hx hb dX12_sheet_79 (by decide) ?_
                                                          refine lv_iload_n hx hb dX12_sheet_81 rfl (lv_at hl 2 rfl) ?_
                                                          refine lv_imul hx hb dX12_sheet_82 ?_
                                                          refine lz_top (y := 80) (by decide) ?_
                                                          refine lv_iload hx hb dX12_sheet_83 (lv_at hl 0 rfl) ?_
                                                          refine lv_iadd hx hb dX12_sheet_85 ?_
                                                          refine lz_top (y := 95) (by decide) ?_
                                                          refine lv_iconst (v := 0) hx hb dX12_sheet_86 (by decide) ?_
                                                          refine lz_astc hx hb hK hP hD hS 11 0 rfl rfl (lz_vp (x := 95) (n := 160) (by decide) (by decide)) dX12_sheet_87 (fun H locs hP hD hS => ?_)
                                                          refine lv_iinc (v := 16) (lv' := [(4, .int 16), (0, .ref h0), (1, .int 2), (2, .int (-1)), (3, .int x2)]) hx hb dX12_sheet_88 hl (k := 0) rfl (by decide) (by decide) rfl (fun ls hl => ?_)
                                                          refine lv_goto (tgt := 68) hx hb dX12_sheet_91 (by decide) ?_
                                                          refine lv_iload hx hb dX12_sheet_68 (lv_at hl 0 rfl) ?_
                                                          refine lv_bipush (v := 40) hx hb dX12_sheet_70 (by decide) ?_
                                                          refine lv_icmp_ge (tgt := 94) hx hb dX12_sheet_72 (by decide) (fun c986 => ?_) (fun c986 => ?_)
                                                          · exact absurd c986 (by decide)
                                                          · refine lv_aload_n hx hb dX12_sheet_75 rfl (lv_at hl 1 rfl) ?_
                                                            refine va_get (D := D) (ci := 12) (v := .ref h11) (C := RX12) (T := TX12) (N := 24) hx hb hts hin12 hown hK hP 0 rfl rfl 18 (by decide) (hts (.fieldLink RX12 44 "MissedPointsModel" "items" "[I") (by decide +kernel)) (fun _ h9 => h9) rfl dX12_sheet_76 ?_
                                                            refine lv_bipush (v := 40) hx hb dX12_sheet_79 (by decide) ?_
                                                            refine lv_iload_n hx hb dX12_sheet_81 rfl (lv_at hl 2 rfl) ?_
                                                            refine lv_imul hx hb dX12_sheet_82 ?_
                                                            refine lz_top (y := 80) (by decide) ?_
                                                            refine lv_iload hx hb dX12_sheet_83 (lv_at hl 0 rfl) ?_
                                                            refine lv_iadd hx hb dX12_sheet_85 ?_
                                                            refine lz_top (y := 96) (by decide) ?_
                                                            refine lv_iconst (v := 0) hx hb dX12_sheet_86 (by decide) ?_
                                                            refine lz_astc hx hb hK hP hD hS 11 0 rfl rfl (lz_vp (x := 96) (n := 160) (by decide) (by decide)) dX12_sheet_87 (fun H locs hP hD hS => ?_)
                                                            refine lv_iinc (v := 17) (lv' := [(4, .int 17), (0, .ref h0), (1, .int 2), (2, .int (-1)), (3, .int x2)]) hx hb dX12_sheet_88 hl (k := 0) rfl (by decide) (by decide) rfl (fun ls hl => ?_)
                                                            refine lv_goto (tgt := 68) hx hb dX12_sheet_91 (by decide) ?_
                                                            refine lv_iload hx hb dX12_sheet_68 (lv_at hl 0 rfl) ?_
                                                            refine lv_bipush (v := 40) hx hb dX12_sheet_70 (by decide) ?_
                                                            refine lv_icmp_ge (tgt := 94) hx hb dX12_sheet_72 (by decide) (fun c987 => ?_) (fun c987 => ?_)
                                                            · exact absurd c987 (by decide)
                                                            · refine lv_aload_n hx hb dX12_sheet_75 rfl (lv_at hl 1 rfl) ?_
                                                              refine va_get (D := D) (ci := 12) (v := .ref h11) (C := RX12) (T := TX12) (N := 24) hx hb hts hin12 hown hK hP 0 rfl rfl 18 (by decide) (hts (.fieldLink RX12 44 "MissedPointsModel" "items" "[I") (by decide +kernel)) (fun _ h9 => h9) rfl dX12_sheet_76 ?_
                                                              refine lv_bipush (v := 40) hx hb dX12_sheet_79 (by decide) ?_
                                                              refine lv_iload_n hx hb dX12_sheet_81 rfl (lv_at hl 2 rfl) ?_
                                                              refine lv_imul hx hb dX12_sheet_82 ?_
                                                              refine lz_top (y := 80) (by decide) ?_
                                                              refine lv_iload hx hb dX12_sheet_83 (lv_at hl 0 rfl) ?_
                                                              refine lv_iadd hx hb dX12_sheet_85 ?_
                                                              refine lz_top (y := 97) (by decide) ?_
                                                              refine lv_iconst (v := 0) hx hb dX12_sheet_86 (by decide) ?_
                                                              refine lz_astc hx hb hK hP hD hS 11 0 rfl rfl (lz_vp (x := 97) (n := 160) (by decide) (by decide)) dX12_sheet_87 (fun H locs hP hD hS => ?_)
                                                              refine lv_iinc (v := 18) (lv' := [(4, .int 18), (0, .ref h0), (1, .int 2), (2, .int (-1)), (3, .int x2)]) hx hb dX12_sheet_88 hl (k := 0) rfl (by decide) (by decide) rfl (fun ls hl => ?_)
                                                              refine lv_goto (tgt := 68) hx hb dX12_sheet_91 (by decide) ?_
                                                              refine lv_iload hx hb dX12_sheet_68 (lv_at hl 0 rfl) ?_
                                                              refine lv_bipush (v := 40) hx hb dX12_sheet_70 (by decide) ?_
                                                              refine lv_icmp_ge (tgt := 94) hx hb dX12_sheet_72 (by decide) (fun c988 => ?_) (fun c988 => ?_)
                                                              · exact absurd c988 (by decide)
                                                              · refine lv_aload_n hx hb dX12_sheet_75 rfl (lv_at hl 1 rfl) ?_
                                                                refine va_get (D := D) (ci := 12) (v := .ref h11) (C := RX12) (T := TX12) (N := 24) hx hb hts hin12 hown hK hP 0 rfl rfl 18 (by decide) (hts (.fieldLink RX12 44 "MissedPointsModel" "items" "[I") (by decide +kernel)) (fun _ h9 => h9) rfl dX12_sheet_76 ?_
                                                                refine lv_bipush (v := 40) hx hb dX12_sheet_79 (by decide) ?_
                                                                refine lv_iload_n hx hb dX12_sheet_81 rfl (lv_at hl 2 rfl) ?_
                                                                refine lv_imul hx hb dX12_sheet_82 ?_
                                                                refine lz_top (y := 80) (by decide) ?_
                                                                refine lv_iload hx hb dX12_sheet_83 (lv_at hl 0 rfl) ?_
                                                                refine lv_iadd hx hb dX12_sheet_85 ?_
                                                                refine lz_top (y := 98) (by decide) ?_
                                                                refine lv_iconst (v := 0) hx hb dX12_sheet_86 (by decide) ?_
                                                                refine lz_astc hx hb hK hP hD hS 11 0 rfl rfl (lz_vp (x := 98) (n := 160) (by decide) (by decide)) dX12_sheet_87 (fun H locs hP hD hS => ?_)
                                                                refine lv_iinc (v := 19) (lv' := [(4, .int 19), (0, .ref h0), (1, .int 2), (2, .int (-1)), (3, .int x2)]) hx hb dX12_sheet_88 hl (k := 0) rfl (by decide) (by decide) rfl (fun ls hl => ?_)
                                                                refine lv_goto (tgt := 68) hx hb dX12_sheet_91 (by decide) ?_
                                                                refine lv_iload hx hb dX12_sheet_68 (lv_at hl 0 rfl) ?_
                                                                refine lv_bipush (v := 40) hx hb dX12_sheet_70 (by decide) ?_
                                                                refine lv_icmp_ge (tgt := 94) hx hb dX12_sheet_72 (by decide) (fun c989 => ?_) (fun c989 => ?_)
                                                                · exact absurd c989 (by decide)
                                                                · refine lv_aload_n hx hb dX12_sheet_75 rfl (lv_at hl 1 rfl) ?_
                                                                  refine va_get (D := D) (ci := 12) (v := .ref h11) (C := RX12) (T := TX12) (N := 24) hx hb hts hin12 hown hK hP 0 rfl rfl 18 (by decide) (hts (.fieldLink RX12 44 "MissedPointsModel" "items" "[I") (by decide +kernel)) (fun _ h9 => h9) rfl dX12_sheet_76 ?_
                                                                  refine lv_bipush (v := 40) hx hb dX12_sheet_79 (by decide) ?_
                                                                  refine lv_iload_n hx hb dX12_sheet_81 rfl (lv_at hl 2 rfl) ?_
                                                                  refine lv_imul hx hb dX12_sheet_82 ?_
                                                                  refine lz_top (y := 80) (by decide) ?_
                                                                  refine lv_iload hx hb dX12_sheet_83 (lv_at hl 0 rfl) ?_
                                                                  refine lv_iadd hx hb dX12_sheet_85 ?_
                                                                  refine lz_top (y := 99) (by decide) ?_
                                                                  refine lv_iconst (v := 0) hx hb dX12_sheet_86 (by decide) ?_
                                                                  refine lz_astc hx hb hK hP hD hS 11 0 rfl rfl (lz_vp (x := 99) (n := 160) (by decide) (by decide)) dX12_sheet_87 (fun H locs hP hD hS => ?_)
                                                                  refine lv_iinc (v := 20) (lv' := [(4, .int 20), (0, .ref h0), (1, .int 2), (2, .int (-1)), (3, .int x2)]) hx hb dX12_sheet_88 hl (k := 0) rfl (by decide) (by decide) rfl (fun ls hl => ?_)
                                                                  refine lv_goto (tgt := 68) hx hb dX12_sheet_91 (by decide) ?_
                                                                  refine lv_iload hx hb dX12_sheet_68 (lv_at hl 0 rfl) ?_
                                                                  refine lv_bipush (v := 40) hx hb dX12_sheet_70 (by decide) ?_
                                                                  refine lv_icmp_ge (tgt := 94) hx hb dX12_sheet_72 (by decide) (fun c990 => ?_) (fun c990 => ?_)
                                                                  · exact absurd c990 (by decide)
                                                                  · refine lv_aload_n hx hb dX12_sheet_75 rfl (lv_at hl 1 rfl) ?_
                                                                    refine va_get (D := D) (ci := 12) (v := .ref h11) (C := RX12) (T := TX12) (N := 24) hx hb hts hin12 hown hK hP 0 rfl rfl 18 (by decide) (hts (.fieldLink RX12 44 "MissedPointsModel" "items" "[I") (by decide +kernel)) (fun _ h9 => h9) rfl dX12_sheet_76 ?_
                                                                    refine lv_bipush (v := 40) hx hb dX12_sheet_79 (by decide) ?_
                                                                    refine lv_iload_n hx hb dX12_sheet_81 rfl (lv_at hl 2 rfl) ?_
                                                                    refine lv_imul hx hb dX12_sheet_82 ?_
                                                                    refine lz_top (y := 80) (by decide) ?_
                                                                    refine lv_iload hx hb dX12_sheet_83 (lv_at hl 0 rfl) ?_
                                                                    refine lv_iadd hx hb dX12_sheet_85 ?_
                                                                    refine lz_top (y := 100) (by decide) ?_
                                                                    refine lv_iconst (v := 0) hx hb dX12_sheet_86 (by decide) ?_
                                                                    refine lz_astc hx hb hK hP hD hS 11 0 rfl rfl (lz_vp (x := 100) (n := 160) (by decide) (by decide)) dX12_sheet_87 (fun H locs hP hD hS => ?_)
                                                                    refine lv_iinc (v := 21) (lv' := [(4, .int 21), (0, .ref h0), (1, .int 2), (2, .int (-1)), (3, .int x2)]) hx hb dX12_sheet_88 hl (k := 0) rfl (by decide) (by decide) rfl (fun ls hl => ?_)
                                                                    refine lv_goto (tgt := 68) hx hb dX12_sheet_91 (by decide) ?_
                                                                    refine lv_iload hx hb dX12_sheet_68 (lv_at hl 0 rfl) ?_
                                                                    refine lv_bipush (v := 40) hx hb dX12_sheet_70 (by decide) ?_
                                                                    refine lv_icmp_ge (tgt := 94) hx hb dX12_sheet_72 (by decide) (fun c991 => ?_) (fun c991 => ?_)
                                                                    · exact absurd c991 (by decide)
                                                                    · refine lv_aload_n hx hb dX12_sheet_75 rfl (lv_at hl 1 rfl) ?_
                                                                      refine va_get (D := D) (ci := 12) (v := .ref h11) (C := RX12) (T := TX12) (N := 24) hx hb hts hin12 hown hK hP 0 rfl rfl 18 (by decide) (hts (.fieldLink RX12 44 "MissedPointsModel" "items" "[I") (by decide +kernel)) (fun _ h9 => h9) rfl dX12_sheet_76 ?_
                                                                      refine lv_bipush (v := 40) hx hb dX12_sheet_79 (by decide) ?_
                                                                      refine lv_iload_n hx hb dX12_sheet_81 rfl (lv_at hl 2 rfl) ?_
                                                                      refine lv_imul hx hb dX12_sheet_82 ?_
                                                                      refine lz_top (y := 80) (by decide) ?_
                                                                      refine lv_iload hx hb dX12_sheet_83 (lv_at hl 0 rfl) ?_
                                                                      refine lv_iadd hx hb dX12_sheet_85 ?_
                                                                      refine lz_top (y := 101) (by decide) ?_
                                                                      refine lv_iconst (v := 0) hx hb dX12_sheet_86 (by decide) ?_
                                                                      refine lz_astc hx hb hK hP hD hS 11 0 rfl rfl (lz_vp (x := 101) (n := 160) (by decide) (by decide)) dX12_sheet_87 (fun H locs hP hD hS => ?_)
                                                                      refine lv_iinc (v := 22) (lv' := [(4, .int 22), (0, .ref h0), (1, .int 2), (2, .int (-1)), (3, .int x2)]) hx hb dX12_sheet_88 hl (k := 0) rfl (by decide) (by decide) rfl (fun ls hl => ?_)
                                                                      refine lv_goto (tgt := 68) hx hb dX12_sheet_91 (by decide) ?_
                                                                      refine lv_iload hx hb dX12_sheet_68 (lv_at hl 0 rfl) ?_
                                                                      refine lv_bipush (v := 40) hx hb dX12_sheet_70 (by decide) ?_
                                                                      refine lv_icmp_ge (tgt := 94) hx hb dX12_sheet_72 (by decide) (fun c992 => ?_) (fun c992 => ?_)
                                                                      · exact absurd c992 (by decide)
                                                                      · refine lv_aload_n hx hb dX12_sheet_75 rfl (lv_at hl 1 rfl) ?_
                                                                        refine va_get (D := D) (ci := 12) (v := .ref h11) (C := RX12) (T := TX12) (N := 24) hx hb hts hin12 hown hK hP 0 rfl rfl 18 (by decide) (hts (.fieldLink RX12 44 "MissedPointsModel" "items" "[I") (by decide +kernel)) (fun _ h9 => h9) rfl dX12_sheet_76 ?_
                                                                        refine lv_bipush (v := 40) hx hb dX12_sheet_79 (by decide) ?_
                                                                        refine lv_iload_n hx hb dX12_sheet_81 rfl (lv_at hl 2 rfl) ?_
                                                                        refine lv_imul hx hb dX12_sheet_82 ?_
                                                                        refine lz_top (y := 80) (by decide) ?_
                                                                        refine lv_iload hx hb dX12_sheet_83 (lv_at hl 0 rfl) ?_
                                                                        refine lv_iadd hx hb dX12_sheet_85 ?_
                                                                        refine lz_top (y := 102) (by decide) ?_
                                                                        refine lv_iconst (v := 0) hx hb dX12_sheet_86 (by decide) ?_
                                                                        refine lz_astc hx hb hK hP hD hS 11 0 rfl rfl (lz_vp (x := 102) (n := 160) (by decide) (by decide)) dX12_sheet_87 (fun H locs hP hD hS => ?_)
                                                                        refine lv_iinc (v := 23) (lv' := [(4, .int 23), (0, .ref h0), (1, .int 2), (2, .int (-1)), (3, .int x2)]) hx hb dX12_sheet_88 hl (k := 0) rfl (by decide) (by decide) rfl (fun ls hl => ?_)
                                                                        refine lv_goto (tgt := 68) hx hb dX12_sheet_91 (by decide) ?_
                                                                        refine lv_iload hx hb dX12_sheet_68 (lv_at hl 0 rfl) ?_
                                                                        refine lv_bipush (v := 40) hx hb dX12_sheet_70 (by decide) ?_
                                                                        refine lv_icmp_ge (tgt := 94) hx hb dX12_sheet_72 (by decide) (fun c993 => ?_) (fun c993 => ?_)
                                                                        · exact absurd c993 (by decide)
                                                                        · refine lv_aload_n hx hb dX12_sheet_75 rfl (lv_at hl 1 rfl) ?_
                                                                          refine va_get (D := D) (ci := 12) (v := .ref h11) (C := RX12) (T := TX12) (N := 24) hx hb hts hin12 hown hK hP 0 rfl rfl 18 (by decide) (hts (.fieldLink RX12 44 "MissedPointsModel" "items" "[I") (by decide +kernel)) (fun _ h9 => h9) rfl dX12_sheet_76 ?_
                                                                          refine lv_bipush (v := 40) hx hb dX12_sheet_79 (by decide) ?_
                                                                          refine lv_iload_n hx hb dX12_sheet_81 rfl (lv_at hl 2 rfl) ?_
                                                                          refine lv_imul hx hb dX12_sheet_82 ?_
                                                                          refine lz_top (y := 80) (by decide) ?_
                                                                          refine lv_iload hx hb dX12_sheet_83 (lv_at hl 0 rfl) ?_
                                                                          refine lv_iadd hx hb dX12_sheet_85 ?_
                                                                          refine lz_top (y := 103) (by decide) ?_
                                                                          refine lv_iconst (v := 0) hx hb dX12_sheet_86 (by decide) ?_
                                                                          refine lz_astc hx hb hK hP hD hS 11 0 rfl rfl (lz_vp (x := 103) (n := 160) (by decide) (by decide)) dX12_sheet_87 (fun H locs hP hD hS => ?_)
                                                                          refine lv_iinc (v := 24) (lv' := [(4, .int 24), (0, .ref h0), (1, .int 2), (2, .int (-1)), (3, .int x2)]) hx hb dX12_sheet_88 hl (k := 0) rfl (by decide) (by decide) rfl (fun ls hl => ?_)
                                                                          refine lv_goto (tgt := 68) hx hb dX12_sheet_91 (by decide) ?_
                                                                          refine lv_iload hx hb dX12_sheet_68 (lv_at hl 0 rfl) ?_
                                                                          refine lv_bipush (v := 40) hx hb dX12_sheet_70 (by decide) ?_
                                                                          refine lv_icmp_ge (tgt := 94) hx hb dX12_sheet_72 (by decide) (fun c994 => ?_) (fun c994 => ?_)
                                                                          · exact absurd c994 (by decide)
                                                                          · refine lv_aload_n hx hb dX12_sheet_75 rfl (lv_at hl 1 rfl) ?_
                                                                            refine va_get (D := D) (ci := 12) (v := .ref h11) (C := RX12) (T := TX12) (N := 24) hx hb hts hin12 hown hK hP 0 rfl rfl 18 (by decide) (hts (.fieldLink RX12 44 "MissedPointsModel" "items" "[I") (by decide +kernel)) (fun _ h9 => h9) rfl dX12_sheet_76 ?_
                                                                            refine lv_bipush (v := 40) hx hb dX12_sheet_79 (by decide) ?_
                                                                            refine lv_iload_n hx hb dX12_sheet_81 rfl (lv_at hl 2 rfl) ?_
                                                                            refine lv_imul hx hb dX12_sheet_82 ?_
                                                                            refine lz_top (y := 80) (by decide) ?_
                                                                            refine lv_iload hx hb dX12_sheet_83 (lv_at hl 0 rfl) ?_
                                                                            refine lv_iadd hx hb dX12_sheet_85 ?_
                                                                            refine lz_top (y := 104) (by decide) ?_
                                                                            refine lv_iconst (v := 0) hx hb dX12_sheet_86 (by decide) ?_
                                                                            refine lz_astc hx hb hK hP hD hS 11 0 rfl rfl (lz_vp (x := 104) (n := 160) (by decide) (by decide)) dX12_sheet_87 (fun H locs hP hD hS => ?_)
                                                                            refine lv_iinc (v := 25) (lv' := [(4, .int 25), (0, .ref h0), (1, .int 2), (2, .int (-1)), (3, .int x2)]) hx hb dX12_sheet_88 hl (k := 0) rfl (by decide) (by decide) rfl (fun ls hl => ?_)
                                                                            refine lv_goto (tgt := 68) hx hb dX12_sheet_91 (by decide) ?_
                                                                            refine lv_iload hx hb dX12_sheet_68 (lv_at hl 0 rfl) ?_
                                                                            refine lv_bipush (v := 40) hx hb dX12_sheet_70 (by decide) ?_
                                                                            refine lv_icmp_ge (tgt := 94) hx hb dX12_sheet_72 (by decide) (fun c995 => ?_) (fun c995 => ?_)
                                                                            · exact absurd c995 (by decide)
                                                                            · refine lv_aload_n hx hb dX12_sheet_75 rfl (lv_at hl 1 rfl) ?_
                                                                              refine va_get (D := D) (ci := 12) (v := .ref h11) (C := RX12) (T := TX12) (N := 24) hx hb hts hin12 hown hK hP 0 rfl rfl 18 (by decide) (hts (.fieldLink RX12 44 "MissedPointsModel" "items" "[I") (by decide +kernel)) (fun _ h9 => h9) rfl dX12_sheet_76 ?_
                                                                              refine lv_bipush (v := 40) hx hb dX12_sheet_79 (by decide) ?_
                                                                              refine lv_iload_n hx hb dX12_sheet_81 rfl (lv_at hl 2 rfl) ?_
                                                                              refine lv_imul hx hb dX12_sheet_82 ?_
                                                                              refine lz_top (y := 80) (by decide) ?_
                                                                              refine lv_iload hx hb dX12_sheet_83 (lv_at hl 0 rfl) ?_
                                                                              refine lv_iadd hx hb dX12_sheet_85 ?_
                                                                              refine lz_top (y := 105) (by decide) ?_
                                                                              refine lv_iconst (v := 0) hx hb dX12_sheet_86 (by decide) ?_
                                                                              refine lz_astc hx hb hK hP hD hS 11 0 rfl rfl (lz_vp (x := 105) (n := 160) (by decide) (by decide)) dX12_sheet_87 (fun H locs hP hD hS => ?_)
                                                                              refine lv_iinc (v := 26) (lv' := [(4, .int 26), (0, .ref h0), (1, .int 2), (2, .int (-1)), (3, .int x2)]) hx hb dX12_sheet_88 hl (k := 0) rfl (by decide) (by decide) rfl (fun ls hl => ?_)
                                                                              refine lv_goto (tgt := 68) hx hb dX12_sheet_91 (by decide) ?_
                                                                              refine lv_iload hx hb dX12_sheet_68 (lv_at hl 0 rfl) ?_
                                                                              refine lv_bipush (v := 40) hx hb dX12_sheet_70 (by decide) ?_
                                                                              refine lv_icmp_ge (tgt := 94) hx hb dX12_sheet_72 (by decide) (fun c996 => ?_) (fun c996 => ?_)
                                                                              · exact absurd c996 (by decide)
                                                                              · refine lv_aload_n hx hb dX12_sheet_75 rfl (lv_at hl 1 rfl) ?_
                                                                                refine va_get (D := D) (ci := 12) (v := .ref h11) (C := RX12) (T := TX12) (N := 24) hx hb hts hin12 hown hK hP 0 rfl rfl 18 (by decide) (hts (.fieldLink RX12 44 "MissedPointsModel" "items" "[I") (by decide +kernel)) (fun _ h9 => h9) rfl dX12_sheet_76 ?_
                                                                                refine lv_bipush (v := 40) hx hb dX12_sheet_79 (by decide) ?_
                                                                                refine lv_iload_n hx hb dX12_sheet_81 rfl (lv_at hl 2 rfl) ?_
                                                                                refine lv_imul hx hb dX12_sheet_82 ?_
                                                                                refine lz_top (y := 80) (by decide) ?_
                                                                                refine lv_iload hx hb dX12_sheet_83 (lv_at hl 0 rfl) ?_
                                                                                refine lv_iadd hx hb dX12_sheet_85 ?_
                                                                                refine lz_top (y := 106) (by decide) ?_
                                                                                refine lv_iconst (v := 0) hx hb dX12_sheet_86 (by decide) ?_
                                                                                refine lz_astc hx hb hK hP hD hS 11 0 rfl rfl (lz_vp (x := 106) (n := 160) (by decide) (by decide)) dX12_sheet_87 (fun H locs hP hD hS => ?_)
                                                                                refine lv_iinc (v := 27) (lv' := [(4, .int 27), (0, .ref h0), (1, .int 2), (2, .int (-1)), (3, .int x2)]) hx hb dX12_sheet_88 hl (k := 0) rfl (by decide) (by decide) rfl (fun ls hl => ?_)
                                                                                refine lv_goto (tgt := 68) hx hb dX12_sheet_91 (by decide) ?_
                                                                                refine lv_iload hx hb dX12_sheet_68 (lv_at hl 0 rfl) ?_
                                                                                refine lv_bipush (v := 40) hx hb dX12_sheet_70 (by decide) ?_
                                                                                refine lv_icmp_ge (tgt := 94) hx hb dX12_sheet_72 (by decide) (fun c997 => ?_) (fun c997 => ?_)
                                                                                · exact absurd c997 (by decide)
                                                                                · refine lv_aload_n hx hb dX12_sheet_75 rfl (lv_at hl 1 rfl) ?_
                                                                                  refine va_get (D := D) (ci := 12) (v := .ref h11) (C := RX12) (T := TX12) (N := 24) hx hb hts hin12 hown hK hP 0 rfl rfl 18 (by decide) (hts (.fieldLink RX12 44 "MissedPointsModel" "items" "[I") (by decide +kernel)) (fun _ h9 => h9) rfl dX12_sheet_76 ?_
                                                                                  refine lv_bipush (v := 40) hx hb dX12_sheet_79 (by decide) ?_
                                                                                  refine lv_iload_n hx hb dX12_sheet_81 rfl (lv_at hl 2 rfl) ?_
                                                                                  refine lv_imul hx hb dX12_sheet_82 ?_
                                                                                  refine lz_top (y := 80) (by decide) ?_
                                                                                  refine lv_iload hx hb dX12_sheet_83 (lv_at hl 0 rfl) ?_
                                                                                  refine lv_iadd hx hb dX12_sheet_85 ?_
                                                                                  refine lz_top (y := 107) (by decide) ?_
                                                                                  refine lv_iconst (v := 0) hx hb dX12_sheet_86 (by decide) ?_
                                                                                  refine lz_astc hx hb hK hP hD hS 11 0 rfl rfl (lz_vp (x := 107) (n := 160) (by decide) (by decide)) dX12_sheet_87 (fun H locs hP hD hS => ?_)
                                                                                  refine lv_iinc (v := 28) (lv' := [(4, .int 28), (0, .ref h0), (1, .int 2), (2, .int (-1)), (3, .int x2)]) hx hb dX12_sheet_88 hl (k := 0) rfl (by decide) (by decide) rfl (fun ls hl => ?_)
                                                                                  refine lv_goto (tgt := 68) hx hb dX12_sheet_91 (by decide) ?_
                                                                                  refine lv_iload hx hb dX12_sheet_68 (lv_at hl 0 rfl) ?_
                                                                                  refine lv_bipush (v := 40) hx hb dX12_sheet_70 (by decide) ?_
                                                                                  refine lv_icmp_ge (tgt := 94) hx hb dX12_sheet_72 (by decide) (fun c998 => ?_) (fun c998 => ?_)
                                                                                  · exact absurd c998 (by decide)
                                                                                  · refine lv_aload_n hx hb dX12_sheet_75 rfl (lv_at hl 1 rfl) ?_
                                                                                    refine va_get (D := D) (ci := 12) (v := .ref h11) (C := RX12) (T := TX12) (N := 24) hx hb hts hin12 hown hK hP 0 rfl rfl 18 (by decide) (hts (.fieldLink RX12 44 "MissedPointsModel" "items" "[I") (by decide +kernel)) (fun _ h9 => h9) rfl dX12_sheet_76 ?_
                                                                                    refine lv_bipush (v := 40) hx hb dX12_sheet_79 (by decide) ?_
                                                                                    refine lv_iload_n hx hb dX12_sheet_81 rfl (lv_at hl 2 rfl) ?_
                                                                                    refine lv_imul hx hb dX12_sheet_82 ?_
                                                                                    refine lz_top (y := 80) (by decide) ?_
                                                                                    refine lv_iload hx hb dX12_sheet_83 (lv_at hl 0 rfl) ?_
                                                                                    refine lv_iadd hx hb dX12_sheet_85 ?_
                                                                                    refine lz_top (y := 108) (by decide) ?_
                                                                                    refine lv_iconst (v := 0) hx hb dX12_sheet_86 (by decide) ?_
                                                                                    refine lz_astc hx hb hK hP hD hS 11 0 rfl rfl (lz_vp (x := 108) (n := 160) (by decide) (by decide)) dX12_sheet_87 (fun H locs hP hD hS => ?_)
                                                                                    refine lv_iinc (v := 29) (lv' := [(4, .int 29), (0, .ref h0), (1, .int 2), (2, .int (-1)), (3, .int x2)]) hx hb dX12_sheet_88 hl (k := 0) rfl (by decide) (by decide) rfl (fun ls hl => ?_)
                                                                                    refine lv_goto (tgt := 68) hx hb dX12_sheet_91 (by decide) ?_
                                                                                    refine lv_iload hx hb dX12_sheet_68 (lv_at hl 0 rfl) ?_
                                                                                    refine lv_bipush (v := 40) hx hb dX12_sheet_70 (by decide) ?_
                                                                                    refine lv_icmp_ge (tgt := 94) hx hb dX12_sheet_72 (by decide) (fun c999 => ?_) (fun c999 => ?_)
                                                                                    · exact absurd c999 (by decide)
                                                                                    · refine lv_aload_n hx hb dX12_sheet_75 rfl (lv_at hl 1 rfl) ?_
                                                                                      refine va_get (D := D) (ci := 12) (v := .ref h11) (C := RX12) (T := TX12) (N := 24) hx hb hts hin12 hown hK hP 0 rfl rfl 18 (by decide) (hts (.fieldLink RX12 44 "MissedPointsModel" "items" "[I") (by decide +kernel)) (fun _ h9 => h9) rfl dX12_sheet_76 ?_
                                                                                      refine lv_bipush (v := 40) hx hb dX12_sheet_79 (by decide) ?_
                                                                                      refine lv_iload_n hx hb dX12_sheet_81 rfl (lv_at hl 2 rfl) ?_
                                                                                      refine lv_imul hx hb dX12_sheet_82 ?_
                                                                                      refine lz_top (y := 80) (by decide) ?_
                                                                                      refine lv_iload hx hb dX12_sheet_83 (lv_at hl 0 rfl) ?_
                                                                                      refine lv_iadd hx hb dX12_sheet_85 ?_
                                                                                      refine lz_top (y := 109) (by decide) ?_
                                                                                      refine lv_iconst (v := 0) hx hb dX12_sheet_86 (by decide) ?_
                                                                                      refine lz_astc hx hb hK hP hD hS 11 0 rfl rfl (lz_vp (x := 109) (n := 160) (by decide) (by decide)) dX12_sheet_87 (fun H locs hP hD hS => ?_)
                                                                                      refine lv_iinc (v := 30) (lv' := [(4, .int 30), (0, .ref h0), (1, .int 2), (2, .int (-1)), (3, .int x2)]) hx hb dX12_sheet_88 hl (k := 0) rfl (by decide) (by decide) rfl (fun ls hl => ?_)
                                                                                      refine lv_goto (tgt := 68) hx hb dX12_sheet_91 (by decide) ?_
                                                                                      refine lv_iload hx hb dX12_sheet_68 (lv_at hl 0 rfl) ?_
                                                                                      refine lv_bipush (v := 40) hx hb dX12_sheet_70 (by decide) ?_
                                                                                      refine lv_icmp_ge (tgt := 94) hx hb dX12_sheet_72 (by decide) (fun c1000 => ?_) (fun c1000 => ?_)
                                                                                      · exact absurd c1000 (by decide)
                                                                                      · refine lv_aload_n hx hb dX12_sheet_75 rfl (lv_at hl 1 rfl) ?_
                                                                                        refine va_get (D := D) (ci := 12) (v := .ref h11) (C := RX12) (T := TX12) (N := 24) hx hb hts hin12 hown hK hP 0 rfl rfl 18 (by decide) (hts (.fieldLink RX12 44 "MissedPointsModel" "items" "[I") (by decide +kernel)) (fun _ h9 => h9) rfl dX12_sheet_76 ?_
                                                                                        refine lv_bipush (v := 40) hx hb dX12_sheet_79 (by decide) ?_
                                                                                        refine lv_iload_n hx hb dX12_sheet_81 rfl (lv_at hl 2 rfl) ?_
                                                                                        refine lv_imul hx hb dX12_sheet_82 ?_
                                                                                        refine lz_top (y := 80) (by decide) ?_
                                                                                        refine lv_iload hx hb dX12_sheet_83 (lv_at hl 0 rfl) ?_
                                                                                        refine lv_iadd hx hb dX12_sheet_85 ?_
                                                                                        refine lz_top (y := 110) (by decide) ?_
                                                                                        refine lv_iconst (v := 0) hx hb dX12_sheet_86 (by decide) ?_
                                                                                        refine lz_astc hx hb hK hP hD hS 11 0 rfl rfl (lz_vp (x := 110) (n := 160) (by decide) (by decide)) dX12_sheet_87 (fun H locs hP hD hS => ?_)
                                                                                        refine lv_iinc (v := 31) (lv' := [(4, .int 31), (0, .ref h0), (1, .int 2), (2, .int (-1)), (3, .int x2)]) hx hb dX12_sheet_88 hl (k := 0) rfl (by decide) (by decide) rfl (fun ls hl => ?_)
                                                                                        refine lv_goto (tgt := 68) hx hb dX12_sheet_91 (by decide) ?_
                                                                                        refine lv_iload hx hb dX12_sheet_68 (lv_at hl 0 rfl) ?_
                                                                                        refine lv_bipush (v := 40) hx hb dX12_sheet_70 (by decide) ?_
                                                                                        refine lv_icmp_ge (tgt := 94) hx hb dX12_sheet_72 (by decide) (fun c1001 => ?_) (fun c1001 => ?_)
                                                                                        · exact absurd c1001 (by decide)
                                                                                        · refine lv_aload_n hx hb dX12_sheet_75 rfl (lv_at hl 1 rfl) ?_
                                                                                          refine va_get (D := D) (ci := 12) (v := .ref h11) (C := RX12) (T := TX12) (N := 24) hx hb hts hin12 hown hK hP 0 rfl rfl 18 (by decide) (hts (.fieldLink RX12 44 "MissedPointsModel" "items" "[I") (by decide +kernel)) (fun _ h9 => h9) rfl dX12_sheet_76 ?_
                                                                                          refine lv_bipush (v := 40) hx hb dX12_sheet_79 (by decide) ?_
                                                                                          refine lv_iload_n hx hb dX12_sheet_81 rfl (lv_at hl 2 rfl) ?_
                                                                                          refine lv_imul hx hb dX12_sheet_82 ?_
                                                                                          refine lz_top (y := 80) (by decide) ?_
                                                                                          refine lv_iload hx hb dX12_sheet_83 (lv_at hl 0 rfl) ?_
                                                                                          refine lv_iadd hx hb dX12_sheet_85 ?_
                                                                                          refine lz_top (y := 111) (by decide) ?_
                                                                                          refine lv_iconst (v := 0) hx hb dX12_sheet_86 (by decide) ?_
                                                                                          refine lz_astc hx hb hK hP hD hS 11 0 rfl rfl (lz_vp (x := 111) (n := 160) (by decide) (by decide)) dX12_sheet_87 (fun H locs hP hD hS => ?_)
                                                                                          refine lv_iinc (v := 32) (lv' := [(4, .int 32), (0, .ref h0), (1, .int 2), (2, .int (-1)), (3, .int x2)]) hx hb dX12_sheet_88 hl (k := 0) rfl (by decide) (by decide) rfl (fun ls hl => ?_)
                                                                                          refine lv_goto (tgt := 68) hx hb dX12_sheet_91 (by decide) ?_
                                                                                          refine lv_iload hx hb dX12_sheet_68 (lv_at hl 0 rfl) ?_
                                                                                          refine lv_bipush (v := 40) hx hb dX12_sheet_70 (by decide) ?_
                                                                                          refine lv_icmp_ge (tgt := 94) hx hb dX12_sheet_72 (by decide) (fun c1002 => ?_) (fun c1002 => ?_)
                                                                                          · exact absurd c1002 (by decide)
                                                                                          · refine lv_aload_n hx hb dX12_sheet_75 rfl (lv_at hl 1 rfl) ?_
                                                                                            refine va_get (D := D) (ci := 12) (v := .ref h11) (C := RX12) (T := TX12) (N := 24) hx hb hts hin12 hown hK hP 0 rfl rfl 18 (by decide) (hts (.fieldLink RX12 44 "MissedPointsModel" "items" "[I") (by decide +kernel)) (fun _ h9 => h9) rfl dX12_sheet_76 ?_
                                                                                            refine lv_bipush (v := 40) hx hb dX12_sheet_79 (by decide) ?_
                                                                                            refine lv_iload_n hx hb dX12_sheet_81 rfl (lv_at hl 2 rfl) ?_
                                                                                            refine lv_imul hx hb dX12_sheet_82 ?_
                                                                                            refine lz_top (y := 80) (by decide) ?_
                                                                                            refine lv_iload hx hb dX12_sheet_83 (lv_at hl 0 rfl) ?_
                                                                                            refine lv_iadd hx hb dX12_sheet_85 ?_
                                                                                            refine lz_top (y := 112) (by decide) ?_
                                                                                            refine lv_iconst (v := 0) hx hb dX12_sheet_86 (by decide) ?_
                                                                                            refine lz_astc hx hb hK hP hD hS 11 0 rfl rfl (lz_vp (x := 112) (n := 160) (by decide) (by decide)) dX12_sheet_87 (fun H locs hP hD hS => ?_)
                                                                                            refine lv_iinc (v := 33) (lv' := [(4, .int 33), (0, .ref h0), (1, .int 2), (2, .int (-1)), (3, .int x2)]) hx hb dX12_sheet_88 hl (k := 0) rfl (by decide) (by decide) rfl (fun ls hl => ?_)
                                                                                            refine lv_goto (tgt := 68) hx hb dX12_sheet_91 (by decide) ?_
                                                                                            refine lv_iload hx hb dX12_sheet_68 (lv_at hl 0 rfl) ?_
                                                                                            refine lv_bipush (v := 40) hx hb dX12_sheet_70 (by decide) ?_
                                                                                            refine lv_icmp_ge (tgt := 94) hx hb dX12_sheet_72 (by decide) (fun c1003 => ?_) (fun c1003 => ?_)
                                                                                            · exact absurd c1003 (by decide)
                                                                                            · refine lv_aload_n hx hb dX12_sheet_75 rfl (lv_at hl 1 rfl) ?_
                                                                                              refine va_get (D := D) (ci := 12) (v := .ref h11) (C := RX12) (T := TX12) (N := 24) hx hb hts hin12 hown hK hP 0 rfl rfl 18 (by decide) (hts (.fieldLink RX12 44 "MissedPointsModel" "items" "[I") (by decide +kernel)) (fun _ h9 => h9) rfl dX12_sheet_76 ?_
                                                                                              refine lv_bipush (v := 40) hx hb dX12_sheet_79 (by decide) ?_
                                                                                              refine lv_iload_n hx hb dX12_sheet_81 rfl (lv_at hl 2 rfl) ?_
                                                                                              refine lv_imul hx hb dX12_sheet_82 ?_
                                                                                              refine lz_top (y := 80) (by decide) ?_
                                                                                              refine lv_iload hx hb dX12_sheet_83 (lv_at hl 0 rfl) ?_
                                                                                              refine lv_iadd hx hb dX12_sheet_85 ?_
                                                                                              refine lz_top (y := 113) (by decide) ?_
                                                                                              refine lv_iconst (v := 0) hx hb dX12_sheet_86 (by decide) ?_
                                                                                              refine lz_astc hx hb hK hP hD hS 11 0 rfl rfl (lz_vp (x := 113) (n := 160) (by decide) (by decide)) dX12_sheet_87 (fun H locs hP hD hS => ?_)
                                                                                              refine lv_iinc (v := 34) (lv' := [(4, .int 34), (0, .ref h0), (1, .int 2), (2, .int (-1)), (3, .int x2)]) hx hb dX12_sheet_88 hl (k := 0) rfl (by decide) (by decide) rfl (fun ls hl => ?_)
                                                                                              refine lv_goto (tgt := 68) hx hb dX12_sheet_91 (by decide) ?_
                                                                                              refine lv_iload hx hb dX12_sheet_68 (lv_at hl 0 rfl) ?_
                                                                                              refine lv_bipush (v := 40) hx hb dX12_sheet_70 (by decide) ?_
                                                                                              refine lv_icmp_ge (tgt := 94) hx hb dX12_sheet_72 (by decide) (fun c1004 => ?_) (fun c1004 => ?_)
                                                                                              · exact absurd c1004 (by decide)
                                                                                              · refine lv_aload_n hx hb dX12_sheet_75 rfl (lv_at hl 1 rfl) ?_
                                                                                                refine va_get (D := D) (ci := 12) (v := .ref h11) (C := RX12) (T := TX12) (N := 24) hx hb hts hin12 hown hK hP 0 rfl rfl 18 (by decide) (hts (.fieldLink RX12 44 "MissedPointsModel" "items" "[I") (by decide +kernel)) (fun _ h9 => h9) rfl dX12_sheet_76 ?_
                                                                                                refine lv_bipush (v := 40) hx hb dX12_sheet_79 (by decide) ?_
                                                                                                refine lv_iload_n hx hb dX12_sheet_81 rfl (lv_at hl 2 rfl) ?_
                                                                                                refine lv_imul hx hb dX12_sheet_82 ?_
                                                                                                refine lz_top (y := 80) (by decide) ?_
                                                                                                refine lv_iload hx hb dX12_sheet_83 (lv_at hl 0 rfl) ?_
                                                                                                refine lv_iadd hx hb dX12_sheet_85 ?_
                                                                                                refine lz_top (y := 114) (by decide) ?_
                                                                                                refine lv_iconst (v := 0) hx hb dX12_sheet_86 (by decide) ?_
                                                                                                refine lz_astc hx hb hK hP hD hS 11 0 rfl rfl (lz_vp (x := 114) (n := 160) (by decide) (by decide)) dX12_sheet_87 (fun H locs hP hD hS => ?_)
                                                                                                refine lv_iinc (v := 35) (lv' := [(4, .int 35), (0, .ref h0), (1, .int 2), (2, .int (-1)), (3, .int x2)]) hx hb dX12_sheet_88 hl (k := 0) rfl (by decide) (by decide) rfl (fun ls hl => ?_)
                                                                                                refine lv_goto (tgt := 68) hx hb dX12_sheet_91 (by decide) ?_
                                                                                                refine lv_iload hx hb dX12_sheet_68 (lv_at hl 0 rfl) ?_
                                                                                                refine lv_bipush (v := 40) hx hb dX12_sheet_70 (by decide) ?_
                                                                                                refine lv_icmp_ge (tgt := 94) hx hb dX12_sheet_72 (by decide) (fun c1005 => ?_) (fun c1005 => ?_)
                                                                                                · exact absurd c1005 (by decide)
                                                                                                · refine lv_aload_n hx hb dX12_sheet_75 rfl (lv_at hl 1 rfl) ?_
                                                                                                  refine va_get (D := D) (ci := 12) (v := .ref h11) (C := RX12) (T := TX12) (N := 24) hx hb hts hin12 hown hK hP 0 rfl rfl 18 (by decide) (hts (.fieldLink RX12 44 "MissedPointsModel" "items" "[I") (by decide +kernel)) (fun _ h9 => h9) rfl dX12_sheet_76 ?_
                                                                                                  refine lv_bipush (v := 40) hx hb dX12_sheet_79 (by decide) ?_
                                                                                                  refine lv_iload_n hx hb dX12_sheet_81 rfl (lv_at hl 2 rfl) ?_
                                                                                                  refine lv_imul hx hb dX12_sheet_82 ?_
                                                                                                  refine lz_top (y := 80) (by decide) ?_
                                                                                                  refine lv_iload hx hb dX12_sheet_83 (lv_at hl 0 rfl) ?_
                                                                                                  refine lv_iadd hx hb dX12_sheet_85 ?_
                                                                                                  refine lz_top (y := 115) (by decide) ?_
                                                                                                  refine lv_iconst (v := 0) hx hb dX12_sheet_86 (by decide) ?_
                                                                                                  refine lz_astc hx hb hK hP hD hS 11 0 rfl rfl (lz_vp (x := 115) (n := 160) (by decide) (by decide)) dX12_sheet_87 (fun H locs hP hD hS => ?_)
                                                                                                  refine lv_iinc (v := 36) (lv' := [(4, .int 36), (0, .ref h0), (1, .int 2), (2, .int (-1)), (3, .int x2)]) hx hb dX12_sheet_88 hl (k := 0) rfl (by decide) (by decide) rfl (fun ls hl => ?_)
                                                                                                  refine lv_goto (tgt := 68) hx hb dX12_sheet_91 (by decide) ?_
                                                                                                  refine lv_iload hx hb dX12_sheet_68 (lv_at hl 0 rfl) ?_
                                                                                                  refine lv_bipush (v := 40) hx hb dX12_sheet_70 (by decide) ?_
                                                                                                  refine lv_icmp_ge (tgt := 94) hx hb dX12_sheet_72 (by decide) (fun c1006 => ?_) (fun c1006 => ?_)
                                                                                                  · exact absurd c1006 (by decide)
                                                                                                  · refine lv_aload_n hx hb dX12_sheet_75 rfl (lv_at hl 1 rfl) ?_
                                                                                                    refine va_get (D := D) (ci := 12) (v := .ref h11) (C := RX12) (T := TX12) (N := 24) hx hb hts hin12 hown hK hP 0 rfl rfl 18 (by decide) (hts (.fieldLink RX12 44 "MissedPointsModel" "items" "[I") (by decide +kernel)) (fun _ h9 => h9) rfl dX12_sheet_76 ?_
                                                                                                    refine lv_bipush (v := 40) hx hb dX12_sheet_79 (by decide) ?_
                                                                                                    refine lv_iload_n hx hb dX12_sheet_81 rfl (lv_at hl 2 rfl) ?_
                                                                                                    refine lv_imul hx hb dX12_sheet_82 ?_
                                                                                                    refine lz_top (y := 80) (by decide) ?_
                                                                                                    refine lv_iload hx hb dX12_sheet_83 (lv_at hl 0 rfl) ?_
                                                                                                    refine lv_iadd hx hb dX12_sheet_85 ?_
                                                                                                    refine lz_top (y := 116) (by decide) ?_
                                                                                                    refine lv_iconst (v := 0) hx hb dX12_sheet_86 (by decide) ?_
                                                                                                    refine lz_astc hx hb hK hP hD hS 11 0 rfl rfl (lz_vp (x := 116) (n := 160) (by decide) (by decide)) dX12_sheet_87 (fun H locs hP hD hS => ?_)
                                                                                                    refine lv_iinc (v := 37) (lv' := [(4, .int 37), (0, .ref h0), (1, .int 2), (2, .int (-1)), (3, .int x2)]) hx hb dX12_sheet_88 hl (k := 0) rfl (by decide) (by decide) rfl (fun ls hl => ?_)
                                                                                                    refine lv_goto (tgt := 68) hx hb dX12_sheet_91 (by decide) ?_
                                                                                                    refine lv_iload hx hb dX12_sheet_68 (lv_at hl 0 rfl) ?_
                                                                                                    refine lv_bipush (v := 40) hx hb dX12_sheet_70 (by decide) ?_
                                                                                                    refine lv_icmp_ge (tgt := 94) hx hb dX12_sheet_72 (by decide) (fun c1007 => ?_) (fun c1007 => ?_)
                                                                                                    · exact absurd c1007 (by decide)
                                                                                                    · refine lv_aload_n hx hb dX12_sheet_75 rfl (lv_at hl 1 rfl) ?_
                                                                                                      refine va_get (D := D) (ci := 12) (v := .ref h11) (C := RX12) (T := TX12) (N := 24) hx hb hts hin12 hown hK hP 0 rfl rfl 18 (by decide) (hts (.fieldLink RX12 44 "MissedPointsModel" "items" "[I") (by decide +kernel)) (fun _ h9 => h9) rfl dX12_sheet_76 ?_
                                                                                                      refine lv_bipush (v := 40) hx hb dX12_sheet_79 (by decide) ?_
                                                                                                      refine lv_iload_n hx hb dX12_sheet_81 rfl (lv_at hl 2 rfl) ?_
                                                                                                      refine lv_imul hx hb dX12_sheet_82 ?_
                                                                                                      refine lz_top (y := 80) (by decide) ?_
                                                                                                      refine lv_iload hx hb dX12_sheet_83 (lv_at hl 0 rfl) ?_
                                                                                                      refine lv_iadd hx hb dX12_sheet_85 ?_
                                                                                                      refine lz_top (y := 117) (by decide) ?_
                                                                                                      refine lv_iconst (v := 0) hx hb dX12_sheet_86 (by decide) ?_
                                                                                                      refine lz_astc hx hb hK hP hD hS 11 0 rfl rfl (lz_vp (x := 117) (n := 160) (by decide) (by decide)) dX12_sheet_87 (fun H locs hP hD hS => ?_)
                                                                                                      refine lv_iinc (v := 38) (lv' := [(4, .int 38), (0, .ref h0), (1, .int 2), (2, .int (-1)), (3, .int x2)]) hx hb dX12_sheet_88 hl (k := 0) rfl (by decide) (by decide) rfl (fun ls hl => ?_)
                                                                                                      refine lv_goto (tgt := 68) hx hb dX12_sheet_91 (by decide) ?_
                                                                                                      refine lv_iload hx hb dX12_sheet_68 (lv_at hl 0 rfl) ?_
                                                                                                      refine lv_bipush (v := 40) hx hb dX12_sheet_70 (by decide) ?_
                                                                                                      refine lv_icmp_ge (tgt := 94) hx hb dX12_sheet_72 (by decide) (fun c1008 => ?_) (fun c1008 => ?_)
                                                                                                      · exact absurd c1008 (by decide)
                                                                                                      · refine lv_aload_n hx hb dX12_sheet_75 rfl (lv_at hl 1 rfl) ?_
                                                                                                        refine va_get (D := D) (ci := 12) (v := .ref h11) (C := RX12) (T := TX12) (N := 24) hx hb hts hin12 hown hK hP 0 rfl rfl 18 (by decide) (hts (.fieldLink RX12 44 "MissedPointsModel" "items" "[I") (by decide +kernel)) (fun _ h9 => h9) rfl dX12_sheet_76 ?_
                                                                                                        refine lv_bipush (v := 40) hx hb dX12_sheet_79 (by decide) ?_
                                                                                                        refine lv_iload_n hx hb dX12_sheet_81 rfl (lv_at hl 2 rfl) ?_
                                                                                                        refine lv_imul hx hb dX12_sheet_82 ?_
                                                                                                        refine lz_top (y := 80) (by decide) ?_
                                                                                                        refine lv_iload hx hb dX12_sheet_83 (lv_at hl 0 rfl) ?_
                                                                                                        refine lv_iadd hx hb dX12_sheet_85 ?_
                                                                                                        refine lz_top (y := 118) (by decide) ?_
                                                                                                        refine lv_iconst (v := 0) hx hb dX12_sheet_86 (by decide) ?_
                                                                                                        refine lz_astc hx hb hK hP hD hS 11 0 rfl rfl (lz_vp (x := 118) (n := 160) (by decide) (by decide)) dX12_sheet_87 (fun H locs hP hD hS => ?_)
                                                                                                        refine lv_iinc (v := 39) (lv' := [(4, .int 39), (0, .ref h0), (1, .int 2), (2, .int (-1)), (3, .int x2)]) hx hb dX12_sheet_88 hl (k := 0) rfl (by decide) (by decide) rfl (fun ls hl => ?_)
                                                                                                        refine lv_goto (tgt := 68) hx hb dX12_sheet_91 (by decide) ?_
                                                                                                        refine lv_iload hx hb dX12_sheet_68 (lv_at hl 0 rfl) ?_
                                                                                                        refine lv_bipush (v := 40) hx hb dX12_sheet_70 (by decide) ?_
                                                                                                        refine lv_icmp_ge (tgt := 94) hx hb dX12_sheet_72 (by decide) (fun c1009 => ?_) (fun c1009 => ?_)
                                                                                                        · exact absurd c1009 (by decide)
                                                                                                        · refine lv_aload_n hx hb dX12_sheet_75 rfl (lv_at hl 1 rfl) ?_
                                                                                                          refine va_get (D := D) (ci := 12) (v := .ref h11) (C := RX12) (T := TX12) (N := 24) hx hb hts hin12 hown hK hP 0 rfl rfl 18 (by decide) (hts (.fieldLink RX12 44 "MissedPointsModel" "items" "[I") (by decide +kernel)) (fun _ h9 => h9) rfl dX12_sheet_76 ?_
                                                                                                          refine lv_bipush (v := 40) hx hb dX12_sheet_79 (by decide) ?_
                                                                                                          refine lv_iload_n hx hb dX12_sheet_81 rfl (lv_at hl 2 rfl) ?_
                                                                                                          refine lv_imul hx hb dX12_sheet_82 ?_
                                                                                                          refine lz_top (y := 80) (by decide) ?_
                                                                                                          refine lv_iload hx hb dX12_sheet_83 (lv_at hl 0 rfl) ?_
                                                                                                          refine lv_iadd hx hb dX12_sheet_85 ?_
                                                                                                          refine lz_top (y := 119) (by decide) ?_
                                                                                                          refine lv_iconst (v := 0) hx hb dX12_sheet_86 (by decide) ?_
                                                                                                          refine lz_astc hx hb hK hP hD hS 11 0 rfl rfl (lz_vp (x := 119) (n := 160) (by decide) (by decide)) dX12_sheet_87 (fun H locs hP hD hS => ?_)
                                                                                                          refine lv_iinc (v := 40) (lv' := [(4, .int 40), (0, .ref h0), (1, .int 2), (2, .int (-1)), (3, .int x2)]) hx hb dX12_sheet_88 hl (k := 0) rfl (by decide) (by decide) rfl (fun ls hl => ?_)
                                                                                                          refine lv_goto (tgt := 68) hx hb dX12_sheet_91 (by decide) ?_
                                                                                                          refine lv_iload hx hb dX12_sheet_68 (lv_at hl 0 rfl) ?_
                                                                                                          refine lv_bipush (v := 40) hx hb dX12_sheet_70 (by decide) ?_
                                                                                                          refine lv_icmp_ge (tgt := 94) hx hb dX12_sheet_72 (by decide) (fun c1010 => ?_) (fun c1010 => ?_)
                                                                                                          · refine lv_iconst (v := 1) hx hb dX12_sheet_94 (by decide) ?_
                                                                                                            have hP9 := hP.sub (ws' := []) [] rfl
                                                                                                            have hD9 := hD.sub (ws' := []) [] (by decide) rfl
                                                                                                            subst hAe
                                                                                                            exact W.iret (v := 1) hx hb hr (fun t ht hW => ⟨⟨_, (), rfl, by rw [if_neg k867, if_neg k869, if_neg k875, if_neg k877, if_pos rfl], by rw [ht]; exact hP9, hD9⟩, hS.F ht⟩) hS.2.2 dX12_sheet_95
                                                                                                          · exact absurd c1010 (by decide)
                      · obtain rfl : x0 = 3 := by have zf1 := mt (lz_lt x0 (0 : Int32)).mpr k867; have zf2 := mt (lz_lt (3 : Int32) x0).mpr k869; have zf3 := mt (lz_lt ((-1) : Int32) ((-1) : Int32)).mpr k875; have zf4 := mt (lz_lt (1 : Int32) ((-1) : Int32)).mpr k877; have zf5 := mt (lz_eq x0 (0 : Int32)).mpr k882; have zf6 := mt (lz_eq x0 (1 : Int32)).mpr k925; have zf7 := mt (lz_eq x0 (2 : Int32)).mpr k968; have zn0 : ((-1) : Int32).toInt = -1 := (by decide); have zn1 : (0 : Int32).toInt = 0 := (by decide); have zn2 : (1 : Int32).toInt = 1 := (by decide); have zn3 : (2 : Int32).toInt = 2 := (by decide); have zn4 : (3 : Int32).toInt = 3 := (by decide); rw [lz_eq]; omega
                        refine lv_aload_n hx hb dX12_sheet_42 rfl (lv_at hl 0 rfl) ?_
                        refine va_get (D := D) (ci := 12) (v := .ref h9) (C := RX12) (T := TX12) (N := 24) hx hb hts hin12 hown hK hP 0 rfl rfl 16 (by decide) (hts (.fieldLink RX12 38 "MissedPointsModel" "sort" "[I") (by decide +kernel)) (fun _ h9 => h9) rfl dX12_sheet_43 ?_
                        refine lv_iload_n hx hb dX12_sheet_46 rfl (lv_at hl 1 rfl) ?_
                        refine lv_iload_n hx hb dX12_sheet_47 rfl (lv_at hl 2 rfl) ?_
                        refine lz_astc hx hb hK hP hD hS 9 0 rfl rfl (lz_vp (x := 3) (n := 4) (by decide) (by decide)) dX12_sheet_48 (fun H locs hP hD hS => ?_)
                        refine lv_aload_n hx hb dX12_sheet_49 rfl (lv_at hl 0 rfl) ?_
                        refine va_get (D := D) (ci := 12) (v := .ref h10) (C := RX12) (T := TX12) (N := 24) hx hb hts hin12 hown hK hP 0 rfl rfl 17 (by decide) (hts (.fieldLink RX12 41 "MissedPointsModel" "size" "[I") (by decide +kernel)) (fun _ h9 => h9) rfl dX12_sheet_50 ?_
                        refine lv_iload_n hx hb dX12_sheet_53 rfl (lv_at hl 1 rfl) ?_
                        refine lv_iload_n hx hb dX12_sheet_54 rfl (lv_at hl 2 rfl) ?_
                        refine lv_iconst (v := (-1)) hx hb dX12_sheet_55 (by decide) ?_
                        refine lv_icmp_ne (tgt := 63) hx hb dX12_sheet_56 (by decide) (fun c1011 => ?_) (fun c1011 => ?_)
                        · exact absurd c1011 (by decide)
                        · refine lv_iconst (v := 0) hx hb dX12_sheet_59 (by decide) ?_
                          refine lv_goto (tgt := 64) hx hb dX12_sheet_60 (by decide) ?_
                          refine lz_astc hx hb hK hP hD hS 10 0 rfl rfl (lz_vp (x := 3) (n := 4) (by decide) (by decide)) dX12_sheet_64 (fun H locs hP hD hS => ?_)
                          refine lv_iconst (v := 0) hx hb dX12_sheet_65 (by decide) ?_
                          refine lv_istore (lv' := [(4, .int 0), (0, .ref h0), (1, .int 3), (2, .int (-1)), (3, .int x2)]) hx hb dX12_sheet_66 hl (by decide) rfl (fun ls hl => ?_)
                          refine lv_iload hx hb dX12_sheet_68 (lv_at hl 0 rfl) ?_
                          refine lv_bipush (v := 40) hx hb dX12_sheet_70 (by decide) ?_
                          refine lv_icmp_ge (tgt := 94) hx hb dX12_sheet_72 (by decide) (fun c1012 => ?_) (fun c1012 => ?_)
                          · exact absurd c1012 (by decide)
                          · refine lv_aload_n hx hb dX12_sheet_75 rfl (lv_at hl 1 rfl) ?_
                            refine va_get (D := D) (ci := 12) (v := .ref h11) (C := RX12) (T := TX12) (N := 24) hx hb hts hin12 hown hK hP 0 rfl rfl 18 (by decide) (hts (.fieldLink RX12 44 "MissedPointsModel" "items" "[I") (by decide +kernel)) (fun _ h9 => h9) rfl dX12_sheet_76 ?_
                            refine lv_bipush (v := 40) hx hb dX12_sheet_79 (by decide) ?_
                            refine lv_iload_n hx hb dX12_sheet_81 rfl (lv_at hl 2 rfl) ?_
                            refine lv_imul hx hb dX12_sheet_82 ?_
                            refine lz_top (y := 120) (by decide) ?_
                            refine lv_iload hx hb dX12_sheet_83 (lv_at hl 0 rfl) ?_
                            refine lv_iadd hx hb dX12_sheet_85 ?_
                            refine lz_top (y := 120) (by decide) ?_
                            refine lv_iconst (v := 0) hx hb dX12_sheet_86 (by decide) ?_
                            refine lz_astc hx hb hK hP hD hS 11 0 rfl rfl (lz_vp (x := 120) (n := 160) (by decide) (by decide)) dX12_sheet_87 (fun H locs hP hD hS => ?_)
                            refine lv_iinc (v := 1) (lv' := [(4, .int 1), (0, .ref h0), (1, .int 3), (2, .int (-1)), (3, .int x2)]) hx hb dX12_sheet_88 hl (k := 0) rfl (by decide) (by decide) rfl (fun ls hl => ?_)
                            refine lv_goto (tgt := 68) hx hb dX12_sheet_91 (by decide) ?_
                            refine lv_iload hx hb dX12_sheet_68 (lv_at hl 0 rfl) ?_
                            refine lv_bipush (v := 40) hx hb dX12_sheet_70 (by decide) ?_
                            refine lv_icmp_ge (tgt := 94) hx hb dX12_sheet_72 (by decide) (fun c1013 => ?_) (fun c1013 => ?_)
                            · exact absurd c1013 (by decide)
                            · refine lv_aload_n hx hb dX12_sheet_75 rfl (lv_at hl 1 rfl) ?_
                              refine va_get (D := D) (ci := 12) (v := .ref h11) (C := RX12) (T := TX12) (N := 24) hx hb hts hin12 hown hK hP 0 rfl rfl 18 (by decide) (hts (.fieldLink RX12 44 "MissedPointsModel" "items" "[I") (by decide +kernel)) (fun _ h9 => h9) rfl dX12_sheet_76 ?_
                              refine lv_bipush (v := 40) hx hb dX12_sheet_79 (by decide) ?_
                              refine lv_iload_n hx hb dX12_sheet_81 rfl (lv_at hl 2 rfl) ?_
                              refine lv_imul hx hb dX12_sheet_82 ?_
                              refine lz_top (y := 120) (by decide) ?_
                              refine lv_iload hx hb dX12_sheet_83 (lv_at hl 0 rfl) ?_
                              refine lv_iadd hx hb dX12_sheet_85 ?_
                              refine lz_top (y := 121) (by decide) ?_
                              refine lv_iconst (v := 0) hx hb dX12_sheet_86 (by decide) ?_
                              refine lz_astc hx hb hK hP hD hS 11 0 rfl rfl (lz_vp (x := 121) (n := 160) (by decide) (by decide)) dX12_sheet_87 (fun H locs hP hD hS => ?_)
                              refine lv_iinc (v := 2) (lv' := [(4, .int 2), (0, .ref h0), (1, .int 3), (2, .int (-1)), (3, .int x2)]) hx hb dX12_sheet_88 hl (k := 0) rfl (by decide) (by decide) rfl (fun ls hl => ?_)
                              refine lv_goto (tgt := 68) hx hb dX12_sheet_91 (by decide) ?_
                              refine lv_iload hx hb dX12_sheet_68 (lv_at hl 0 rfl) ?_
                              refine lv_bipush (v := 40) hx hb dX12_sheet_70 (by decide) ?_
                              refine lv_icmp_ge (tgt := 94) hx hb dX12_sheet_72 (by decide) (fun c1014 => ?_) (fun c1014 => ?_)
                              · exact absurd c1014 (by decide)
                              · refine lv_aload_n hx hb dX12_sheet_75 rfl (lv_at hl 1 rfl) ?_
                                refine va_get (D := D) (ci := 12) (v := .ref h11) (C := RX12) (T := TX12) (N := 24) hx hb hts hin12 hown hK hP 0 rfl rfl 18 (by decide) (hts (.fieldLink RX12 44 "MissedPointsModel" "items" "[I") (by decide +kernel)) (fun _ h9 => h9) rfl dX12_sheet_76 ?_
                                refine lv_bipush (v := 40) hx hb dX12_sheet_79 (by decide) ?_
                                refine lv_iload_n hx hb dX12_sheet_81 rfl (lv_at hl 2 rfl) ?_
                                refine lv_imul hx hb dX12_sheet_82 ?_
                                refine lz_top (y := 120) (by decide) ?_
                                refine lv_iload hx hb dX12_sheet_83 (lv_at hl 0 rfl) ?_
                                refine lv_iadd hx hb dX12_sheet_85 ?_
                                refine lz_top (y := 122) (by decide) ?_
                                refine lv_iconst (v := 0) hx hb dX12_sheet_86 (by decide) ?_
                                refine lz_astc hx hb hK hP hD hS 11 0 rfl rfl (lz_vp (x := 122) (n := 160) (by decide) (by decide)) dX12_sheet_87 (fun H locs hP hD hS => ?_)
                                refine lv_iinc (v := 3) (lv' := [(4, .int 3), (0, .ref h0), (1, .int 3), (2, .int (-1)), (3, .int x2)]) hx hb dX12_sheet_88 hl (k := 0) rfl (by decide) (by decide) rfl (fun ls hl => ?_)
                                refine lv_goto (tgt := 68) hx hb dX12_sheet_91 (by decide) ?_
                                refine lv_iload hx hb dX12_sheet_68 (lv_at hl 0 rfl) ?_
                                refine lv_bipush (v := 40) hx hb dX12_sheet_70 (by decide) ?_
                                refine lv_icmp_ge (tgt := 94) hx hb dX12_sheet_72 (by decide) (fun c1015 => ?_) (fun c1015 => ?_)
                                · exact absurd c1015 (by decide)
                                · refine lv_aload_n hx hb dX12_sheet_75 rfl (lv_at hl 1 rfl) ?_
                                  refine va_get (D := D) (ci := 12) (v := .ref h11) (C := RX12) (T := TX12) (N := 24) hx hb hts hin12 hown hK hP 0 rfl rfl 18 (by decide) (hts (.fieldLink RX12 44 "MissedPointsModel" "items" "[I") (by decide +kernel)) (fun _ h9 => h9) rfl dX12_sheet_76 ?_
                                  refine lv_bipush (v := 40) hx hb dX12_sheet_79 (by decide) ?_
                                  refine lv_iload_n hx hb dX12_sheet_81 rfl (lv_at hl 2 rfl) ?_
                                  refine lv_imul hx hb dX12_sheet_82 ?_
                                  refine lz_top (y := 120) (by decide) ?_
                                  refine lv_iload hx hb dX12_sheet_83 (lv_at hl 0 rfl) ?_
                                  refine lv_iadd hx hb dX12_sheet_85 ?_
                                  refine lz_top (y := 123) (by decide) ?_
                                  refine lv_iconst (v := 0) hx hb dX12_sheet_86 (by decide) ?_
                                  refine lz_astc hx hb hK hP hD hS 11 0 rfl rfl (lz_vp (x := 123) (n := 160) (by decide) (by decide)) dX12_sheet_87 (fun H locs hP hD hS => ?_)
                                  refine lv_iinc (v := 4) (lv' := [(4, .int 4), (0, .ref h0), (1, .int 3), (2, .int (-1)), (3, .int x2)]) hx hb dX12_sheet_88 hl (k := 0) rfl (by decide) (by decide) rfl (fun ls hl => ?_)
                                  refine lv_goto (tgt := 68) hx hb dX12_sheet_91 (by decide) ?_
                                  refine lv_iload hx hb dX12_sheet_68 (lv_at hl 0 rfl) ?_
                                  refine lv_bipush (v := 40) hx hb dX12_sheet_70 (by decide) ?_
                                  refine lv_icmp_ge (tgt := 94) hx hb dX12_sheet_72 (by decide) (fun c1016 => ?_) (fun c1016 => ?_)
                                  · exact absurd c1016 (by decide)
                                  · refine lv_aload_n hx hb dX12_sheet_75 rfl (lv_at hl 1 rfl) ?_
                                    refine va_get (D := D) (ci := 12) (v := .ref h11) (C := RX12) (T := TX12) (N := 24) hx hb hts hin12 hown hK hP 0 rfl rfl 18 (by decide) (hts (.fieldLink RX12 44 "MissedPointsModel" "items" "[I") (by decide +kernel)) (fun _ h9 => h9) rfl dX12_sheet_76 ?_
                                    refine lv_bipush (v := 40) hx hb dX12_sheet_79 (by decide) ?_
                                    refine lv_iload_n hx hb dX12_sheet_81 rfl (lv_at hl 2 rfl) ?_
                                    refine lv_imul hx hb dX12_sheet_82 ?_
                                    refine lz_top (y := 120) (by decide) ?_
                                    refine lv_iload hx hb dX12_sheet_83 (lv_at hl 0 rfl) ?_
                                    refine lv_iadd hx hb dX12_sheet_85 ?_
                                    refine lz_top (y := 124) (by decide) ?_
                                    refine lv_iconst (v := 0) hx hb dX12_sheet_86 (by decide) ?_
                                    refine lz_astc hx hb hK hP hD hS 11 0 rfl rfl (lz_vp (x := 124) (n := 160) (by decide) (by decide)) dX12_sheet_87 (fun H locs hP hD hS => ?_)
                                    refine lv_iinc (v := 5) (lv' := [(4, .int 5), (0, .ref h0), (1, .int 3), (2, .int (-1)), (3, .int x2)]) hx hb dX12_sheet_88 hl (k := 0) rfl (by decide) (by decide) rfl (fun ls hl => ?_)
                                    refine lv_goto (tgt := 68) hx hb dX12_sheet_91 (by decide) ?_
                                    refine lv_iload hx hb dX12_sheet_68 (lv_at hl 0 rfl) ?_
                                    refine lv_bipush (v := 40) hx hb dX12_sheet_70 (by decide) ?_
                                    refine lv_icmp_ge (tgt := 94) hx hb dX12_sheet_72 (by decide) (fun c1017 => ?_) (fun c1017 => ?_)
                                    · exact absurd c1017 (by decide)
                                    · refine lv_aload_n hx hb dX12_sheet_75 rfl (lv_at hl 1 rfl) ?_
                                      refine va_get (D := D) (ci := 12) (v := .ref h11) (C := RX12) (T := TX12) (N := 24) hx hb hts hin12 hown hK hP 0 rfl rfl 18 (by decide) (hts (.fieldLink RX12 44 "MissedPointsModel" "items" "[I") (by decide +kernel)) (fun _ h9 => h9) rfl dX12_sheet_76 ?_
                                      refine lv_bipush (v := 40) hx hb dX12_sheet_79 (by decide) ?_
                                      refine lv_iload_n hx hb dX12_sheet_81 rfl (lv_at hl 2 rfl) ?_
                                      refine lv_imul hx hb dX12_sheet_82 ?_
                                      refine lz_top (y := 120) (by decide) ?_
                                      refine lv_iload hx hb dX12_sheet_83 (lv_at hl 0 rfl) ?_
                                      refine lv_iadd hx hb dX12_sheet_85 ?_
                                      refine lz_top (y := 125) (by decide) ?_
                                      refine lv_iconst (v := 0) hx hb dX12_sheet_86 (by decide) ?_
                                      refine lz_astc hx hb hK hP hD hS 11 0 rfl rfl (lz_vp (x := 125) (n := 160) (by decide) (by decide)) dX12_sheet_87 (fun H locs hP hD hS => ?_)
                                      refine lv_iinc (v := 6) (lv' := [(4, .int 6), (0, .ref h0), (1, .int 3), (2, .int (-1)), (3, .int x2)]) hx hb dX12_sheet_88 hl (k := 0) rfl (by decide) (by decide) rfl (fun ls hl => ?_)
                                      refine lv_goto (tgt := 68) hx hb dX12_sheet_91 (by decide) ?_
                                      refine lv_iload hx hb dX12_sheet_68 (lv_at hl 0 rfl) ?_
                                      refine lv_bipush (v := 40) hx hb dX12_sheet_70 (by decide) ?_
                                      refine lv_icmp_ge (tgt := 94) hx hb dX12_sheet_72 (by decide) (fun c1018 => ?_) (fun c1018 => ?_)
                                      · exact absurd c1018 (by decide)
                                      · refine lv_aload_n hx hb dX12_sheet_75 rfl (lv_at hl 1 rfl) ?_
                                        refine va_get (D := D) (ci := 12) (v := .ref h11) (C := RX12) (T := TX12) (N := 24) hx hb hts hin12 hown hK hP 0 rfl rfl 18 (by decide) (hts (.fieldLink RX12 44 "MissedPointsModel" "items" "[I") (by decide +kernel)) (fun _ h9 => h9) rfl dX12_sheet_76 ?_
                                        refine lv_bipush (v := 40) hx hb dX12_sheet_79 (by decide) ?_
                                        refine lv_iload_n hx hb dX12_sheet_81 rfl (lv_at hl 2 rfl) ?_
                                        refine lv_imul hx hb dX12_sheet_82 ?_
                                        refine lz_top (y := 120) (by decide) ?_
                                        refine lv_iload hx hb dX12_sheet_83 (lv_at hl 0 rfl) ?_
                                        refine lv_iadd hx hb dX12_sheet_85 ?_
                                        refine lz_top (y := 126) (by decide) ?_
                                        refine lv_iconst (v := 0) hx hb dX12_sheet_86 (by decide) ?_
                                        refine lz_astc hx hb hK hP hD hS 11 0 rfl rfl (lz_vp (x := 126) (n := 160) (by decide) (by decide)) dX12_sheet_87 (fun H locs hP hD hS => ?_)
                                        refine lv_iinc (v := 7) (lv' := [(4, .int 7), (0, .ref h0), (1, .int 3), (2, .int (-1)), (3, .int x2)]) hx hb dX12_sheet_88 hl (k := 0) rfl (by decide) (by decide) rfl (fun ls hl => ?_)
                                        refine lv_goto (tgt := 68) hx hb dX12_sheet_91 (by decide) ?_
                                        refine lv_iload hx hb dX12_sheet_68 (lv_at hl 0 rfl) ?_
                                        refine lv_bipush (v := 40) hx hb dX12_sheet_70 (by decide) ?_
                                        refine lv_icmp_ge (tgt := 94) hx hb dX12_sheet_72 (by decide) (fun c1019 => ?_) (fun c1019 => ?_)
                                        · exact absurd c1019 (by decide)
                                        · refine lv_aload_n hx hb dX12_sheet_75 rfl (lv_at hl 1 rfl) ?_
                                          refine va_get (D := D) (ci := 12) (v := .ref h11) (C := RX12) (T := TX12) (N := 24) hx hb hts hin12 hown hK hP 0 rfl rfl 18 (by decide) (hts (.fieldLink RX12 44 "MissedPointsModel" "items" "[I") (by decide +kernel)) (fun _ h9 => h9) rfl dX12_sheet_76 ?_
                                          refine lv_bipush (v := 40) hx hb dX12_sheet_79 (by decide) ?_
                                          refine lv_iload_n hx hb dX12_sheet_81 rfl (lv_at hl 2 rfl) ?_
                                          refine lv_imul hx hb dX12_sheet_82 ?_
                                          refine lz_top (y := 120) (by decide) ?_
                                          refine lv_iload hx hb dX12_sheet_83 (lv_at hl 0 rfl) ?_
                                          refine lv_iadd hx hb dX12_sheet_85 ?_
                                          refine lz_top (y := 127) (by decide) ?_
                                          refine lv_iconst (v := 0) hx hb dX12_sheet_86 (by decide) ?_
                                          refine lz_astc hx hb hK hP hD hS 11 0 rfl rfl (lz_vp (x := 127) (n := 160) (by decide) (by decide)) dX12_sheet_87 (fun H locs hP hD hS => ?_)
                                          refine lv_iinc (v := 8) (lv' := [(4, .int 8), (0, .ref h0), (1, .int 3), (2, .int (-1)), (3, .int x2)]) hx hb dX12_sheet_88 hl (k := 0) rfl (by decide) (by decide) rfl (fun ls hl => ?_)
                                          refine lv_goto (tgt := 68) hx hb dX12_sheet_91 (by decide) ?_
                                          refine lv_iload hx hb dX12_sheet_68 (lv_at hl 0 rfl) ?_
                                          refine lv_bipush (v := 40) hx hb dX12_sheet_70 (by decide) ?_
                                          refine lv_icmp_ge (tgt := 94) hx hb dX12_sheet_72 (by decide) (fun c1020 => ?_) (fun c1020 => ?_)
                                          · exact absurd c1020 (by decide)
                                          · refine lv_aload_n hx hb dX12_sheet_75 rfl (lv_at hl 1 rfl) ?_
                                            refine va_get (D := D) (ci := 12) (v := .ref h11) (C := RX12) (T := TX12) (N := 24) hx hb hts hin12 hown hK hP 0 rfl rfl 18 (by decide) (hts (.fieldLink RX12 44 "MissedPointsModel" "items" "[I") (by decide +kernel)) (fun _ h9 => h9) rfl dX12_sheet_76 ?_
                                            refine lv_bipush (v := 40) hx hb dX12_sheet_79 (by decide) ?_
                                            refine lv_iload_n hx hb dX12_sheet_81 rfl (lv_at hl 2 rfl) ?_
                                            refine lv_imul hx hb dX12_sheet_82 ?_
                                            refine lz_top (y := 120) (by decide) ?_
                                            refine lv_iload hx hb dX12_sheet_83 (lv_at hl 0 rfl) ?_
                                            refine lv_iadd hx hb dX12_sheet_85 ?_
                                            refine lz_top (y := 128) (by decide) ?_
                                            refine lv_iconst (v := 0) hx hb dX12_sheet_86 (by decide) ?_
                                            refine lz_astc hx hb hK hP hD hS 11 0 rfl rfl (lz_vp (x := 128) (n := 160) (by decide) (by decide)) dX12_sheet_87 (fun H locs hP hD hS => ?_)
                                            refine lv_iinc (v := 9) (lv' := [(4, .int 9), (0, .ref h0), (1, .int 3), (2, .int (-1)), (3, .int x2)]) hx hb dX12_sheet_88 hl (k := 0) rfl (by decide) (by decide) rfl (fun ls hl => ?_)
                                            refine lv_goto (tgt := 68) hx hb dX12_sheet_91 (by decide) ?_
                                            refine lv_iload hx hb dX12_sheet_68 (lv_at hl 0 rfl) ?_
                                            refine lv_bipush (v := 40) hx hb dX12_sheet_70 (by decide) ?_
                                            refine lv_icmp_ge (tgt := 94) hx hb dX12_sheet_72 (by decide) (fun c1021 => ?_) (fun c1021 => ?_)
                                            · exact absurd c1021 (by decide)
                                            · refine lv_aload_n hx hb dX12_sheet_75 rfl (lv_at hl 1 rfl) ?_
                                              refine va_get (D := D) (ci := 12) (v := .ref h11) (C := RX12) (T := TX12) (N := 24) hx hb hts hin12 hown hK hP 0 rfl rfl 18 (by decide) (hts (.fieldLink RX12 44 "MissedPointsModel" "items" "[I") (by decide +kernel)) (fun _ h9 => h9) rfl dX12_sheet_76 ?_
                                              refine lv_bipush (v := 40) hx hb dX12_sheet_79 (by decide) ?_
                                              refine lv_iload_n hx hb dX12_sheet_81 rfl (lv_at hl 2 rfl) ?_
                                              refine lv_imul hx hb dX12_sheet_82 ?_
                                              refine lz_top (y := 120) (by decide) ?_
                                              refine lv_iload hx hb dX12_sheet_83 (lv_at hl 0 rfl) ?_
                                              refine lv_iadd hx hb dX12_sheet_85 ?_
                                              refine lz_top (y := 129) (by decide) ?_
                                              refine lv_iconst (v := 0) hx hb dX12_sheet_86 (by decide) ?_
                                              refine lz_astc hx hb hK hP hD hS 11 0 rfl rfl (lz_vp (x := 129) (n := 160) (by decide) (by decide)) dX12_sheet_87 (fun H locs hP hD hS => ?_)
                                              refine lv_iinc (v := 10) (lv' := [(4, .int 10), (0, .ref h0), (1, .int 3), (2, .int (-1)), (3, .int x2)]) hx hb dX12_sheet_88 hl (k := 0) rfl (by decide) (by decide) rfl (fun ls hl => ?_)
                                              refine lv_goto (tgt := 68) hx hb dX12_sheet_91 (by decide) ?_
                                              refine lv_iload hx hb dX12_sheet_68 (lv_at hl 0 rfl) ?_
                                              refine lv_bipush (v := 40) hx hb dX12_sheet_70 (by decide) ?_
                                              refine lv_icmp_ge (tgt := 94) hx hb dX12_sheet_72 (by decide) (fun c1022 => ?_) (fun c1022 => ?_)
                                              · exact absurd c1022 (by decide)
                                              · refine lv_aload_n hx hb dX12_sheet_75 rfl (lv_at hl 1 rfl) ?_
                                                refine va_get (D := D) (ci := 12) (v := .ref h11) (C := RX12) (T := TX12) (N := 24) hx hb hts hin12 hown hK hP 0 rfl rfl 18 (by decide) (hts (.fieldLink RX12 44 "MissedPointsModel" "items" "[I") (by decide +kernel)) (fun _ h9 => h9) rfl dX12_sheet_76 ?_
                                                refine lv_bipush (v := 40) hx hb dX12_sheet_79 (by decide) ?_
                                                refine lv_iload_n hx hb dX12_sheet_81 rfl (lv_at hl 2 rfl) ?_
                                                refine lv_imul hx hb dX12_sheet_82 ?_
                                                refine lz_top (y := 120) (by decide) ?_
                                                refine lv_iload hx hb dX12_sheet_83 (lv_at hl 0 rfl) ?_
                                                refine lv_iadd hx hb dX12_sheet_85 ?_
                                                refine lz_top (y := 130) (by decide) ?_
                                                refine lv_iconst (v := 0) hx hb dX12_sheet_86 (by decide) ?_
                                                refine lz_astc hx hb hK hP hD hS 11 0 rfl rfl (lz_vp (x := 130) (n := 160) (by decide) (by decide)) dX12_sheet_87 (fun H locs hP hD hS => ?_)
                                                refine lv_iinc (v := 11) (lv' := [(4, .int 11), (0, .ref h0), (1, .int 3), (2, .int (-1)), (3, .int x2)]) hx hb dX12_sheet_88 hl (k := 0) rfl (by decide) (by decide) rfl (fun ls hl => ?_)
                                                refine lv_goto (tgt := 68) hx hb dX12_sheet_91 (by decide) ?_
                                                refine lv_iload hx hb dX12_sheet_68 (lv_at hl 0 rfl) ?_
                                                refine lv_bipush (v := 40) hx hb dX12_sheet_70 (by decide) ?_
                                                refine lv_icmp_ge (tgt := 94) hx hb dX12_sheet_72 (by decide) (fun c1023 => ?_) (fun c1023 => ?_)
                                                · exact absurd c1023 (by decide)
                                                · refine lv_aload_n hx hb dX12_sheet_75 rfl (lv_at hl 1 rfl) ?_
                                                  refine va_get (D := D) (ci := 12) (v := .ref h11) (C := RX12) (T := TX12) (N := 24) hx hb hts hin12 hown hK hP 0 rfl rfl 18 (by decide) (hts (.fieldLink RX12 44 "MissedPointsModel" "items" "[I") (by decide +kernel)) (fun _ h9 => h9) rfl dX12_sheet_76 ?_
                                                  refine lv_bipush (v := 40) hx hb dX12_sheet_79 (by decide) ?_
                                                  refine lv_iload_n hx hb dX12_sheet_81 rfl (lv_at hl 2 rfl) ?_
                                                  refine lv_imul hx hb dX12_sheet_82 ?_
                                                  refine lz_top (y := 120) (by decide) ?_
                                                  refine lv_iload hx hb dX12_sheet_83 (lv_at hl 0 rfl) ?_
                                                  refine lv_iadd hx hb dX12_sheet_85 ?_
                                                  refine lz_top (y := 131) (by decide) ?_
                                                  refine lv_iconst (v := 0) hx hb dX12_sheet_86 (by decide) ?_
                                                  refine lz_astc hx hb hK hP hD hS 11 0 rfl rfl (lz_vp (x := 131) (n := 160) (by decide) (by decide)) dX12_sheet_87 (fun H locs hP hD hS => ?_)
                                                  refine lv_iinc (v := 12) (lv' := [(4, .int 12), (0, .ref h0), (1, .int 3), (2, .int (-1)), (3, .int x2)]) hx hb dX12_sheet_88 hl (k := 0) rfl (by decide) (by decide) rfl (fun ls hl => ?_)
                                                  refine lv_goto (tgt := 68) hx hb dX12_sheet_91 (by decide) ?_
                                                  refine lv_iload hx hb dX12_sheet_68 (lv_at hl 0 rfl) ?_
                                                  refine lv_bipush (v := 40) hx hb dX12_sheet_70 (by decide) ?_
                                                  refine lv_icmp_ge (tgt := 94) hx hb dX12_sheet_72 (by decide) (fun c1024 => ?_) (fun c1024 => ?_)
                                                  · exact absurd c1024 (by decide)
                                                  · refine lv_aload_n hx hb dX12_sheet_75 rfl (lv_at hl 1 rfl) ?_
                                                    refine va_get (D := D) (ci := 12) (v := .ref h11) (C := RX12) (T := TX12) (N := 24) hx hb hts hin12 hown hK hP 0 rfl rfl 18 (by decide) (hts (.fieldLink RX12 44 "MissedPointsModel" "items" "[I") (by decide +kernel)) (fun _ h9 => h9) rfl dX12_sheet_76 ?_
                                                    refine lv_bipush (v := 40) hx hb dX12_sheet_79 (by decide) ?_
                                                    refine lv_iload_n hx hb dX12_sheet_81 rfl (lv_at hl 2 rfl) ?_
                                                    refine lv_imul hx hb dX12_sheet_82 ?_
                                                    refine lz_top (y := 120) (by decide) ?_
                                                    refine lv_iload hx hb dX12_sheet_83 (lv_at hl 0 rfl) ?_
                                                    refine lv_iadd hx hb dX12_sheet_85 ?_
                                                    refine lz_top (y := 132) (by decide) ?_
                                                    refine lv_iconst (v := 0) hx hb dX12_sheet_86 (by decide) ?_
                                                    refine lz_astc hx hb hK hP hD hS 11 0 rfl rfl (lz_vp (x := 132) (n := 160) (by decide) (by decide)) dX12_sheet_87 (fun H locs hP hD hS => ?_)
                                                    refine lv_iinc (v := 13) (lv' := [(4, .int 13), (0, .ref h0), (1, .int 3), (2, .int (-1)), (3, .int x2)]) hx hb dX12_sheet_88 hl (k := 0) rfl (by decide) (by decide) rfl (fun ls hl => ?_)
                                                    refine lv_goto (tgt := 68) hx hb dX12_sheet_91 (by decide) ?_
                                                    refine lv_iload hx hb dX12_sheet_68 (lv_at hl 0 rfl) ?_
                                                    refine lv_bipush (v := 40) hx hb dX12_sheet_70 (by decide) ?_
                                                    refine lv_icmp_ge (tgt := 94) hx hb dX12_sheet_72 (by decide) (fun c1025 => ?_) (fun c1025 => ?_)
                                                    · exact absurd c1025 (by decide)
                                                    · refine lv_aload_n hx hb dX12_sheet_75 rfl (lv_at hl 1 rfl) ?_
                                                      refine va_get (D := D) (ci := 12) (v := .ref h11) (C := RX12) (T := TX12) (N := 24) hx hb hts hin12 hown hK hP 0 rfl rfl 18 (by decide) (hts (.fieldLink RX12 44 "MissedPointsModel" "items" "[I") (by decide +kernel)) (fun _ h9 => h9) rfl dX12_sheet_76 ?_
                                                      refine lv_bipush (v := 40) hx hb dX12_sheet_79 (by decide) ?_
                                                      refine lv_iload_n hx hb dX12_sheet_81 rfl (lv_at hl 2 rfl) ?_
                                                      refine lv_imul hx hb dX12_sheet_82 ?_
                                                      refine lz_top (y := 120) (by decide) ?_
                                                      refine lv_iload hx hb dX12_sheet_83 (lv_at hl 0 rfl) ?_
                                                      refine lv_iadd hx hb dX12_sheet_85 ?_
                                                      refine lz_top (y := 133) (by decide) ?_
                                                      refine lv_iconst (v := 0) hx hb dX12_sheet_86 (by decide) ?_
                                                      refine lz_astc hx hb hK hP hD hS 11 0 rfl rfl (lz_vp (x := 133) (n := 160) (by decide) (by decide)) dX12_sheet_87 (fun H locs hP hD hS => ?_)
                                                      refine lv_iinc (v := 14) (lv' := [(4, .int 14), (0, .ref h0), (1, .int 3), (2, .int (-1)), (3, .int x2)]) hx hb dX12_sheet_88 hl (k := 0) rfl (by decide) (by decide) rfl (fun ls hl => ?_)
                                                      refine lv_goto (tgt := 68) hx hb dX12_sheet_91 (by decide) ?_
                                                      refine lv_iload hx hb dX12_sheet_68 (lv_at hl 0 rfl) ?_
                                                      refine lv_bipush (v := 40) hx hb dX12_sheet_70 (by decide) ?_
                                                      refine lv_icmp_ge (tgt := 94) hx hb dX12_sheet_72 (by decide) (fun c1026 => ?_) (fun c1026 => ?_)
                                                      · exact absurd c1026 (by decide)
                                                      · refine lv_aload_n hx hb dX12_sheet_75 rfl (lv_at hl 1 rfl) ?_
                                                        refine va_get (D := D) (ci := 12) (v := .ref h11) (C := RX12) (T := TX12) (N := 24) hx hb hts hin12 hown hK hP 0 rfl rfl 18 (by decide) (hts (.fieldLink RX12 44 "MissedPointsModel" "items" "[I") (by decide +kernel)) (fun _ h9 => h9) rfl dX12_sheet_76 ?_
                                                        refine lv_bipush (v := 40) hx hb dX12_sheet_79 (by decide) ?_
                                                        refine lv_iload_n hx hb dX12_sheet_81 rfl (lv_at hl 2 rfl) ?_
                                                        refine lv_imul hx hb dX12_sheet_82 ?_
                                                        refine lz_top (y := 120) (by decide) ?_
                                                        refine lv_iload hx hb dX12_sheet_83 (lv_at hl 0 rfl) ?_
                                                        refine lv_iadd hx hb dX12_sheet_85 ?_
                                                        refine lz_top (y := 134) (by decide) ?_
                                                        refine lv_iconst (v := 0) hx hb dX12_sheet_86 (by decide) ?_
                                                        refine lz_astc hx hb hK hP hD hS 11 0 rfl rfl (lz_vp (x := 134) (n := 160) (by decide) (by decide)) dX12_sheet_87 (fun H locs hP hD hS => ?_)
                                                        refine lv_iinc (v := 15) (lv' := [(4, .int 15), (0, .ref h0), (1, .int 3), (2, .int (-1)), (3, .int x2)]) hx hb dX12_sheet_88 hl (k := 0) rfl (by decide) (by decide) rfl (fun ls hl => ?_)
                                                        refine lv_goto (tgt := 68) hx hb dX12_sheet_91 (by decide) ?_
                                                        refine lv_iload hx hb dX12_sheet_68 (lv_at hl 0 rfl) ?_
                                                        refine lv_bipush (v := 40) hx hb dX12_sheet_70 (by decide) ?_
                                                        refine lv_icmp_ge (tgt := 94) hx hb dX12_sheet_72 (by decide) (fun c1027 => ?_) (fun c1027 => ?_)
                                                        · exact absurd c1027 (by decide)
                                                        · refine lv_aload_n hx hb dX12_sheet_75 rfl (lv_at hl 1 rfl) ?_
                                                          refine va_get (D := D) (ci := 12) (v := .ref h11) (C := RX12) (T := TX12) (N := 24) hx hb hts hin12 hown hK hP 0 rfl rfl 18 (by decide) (hts (.fieldLink RX12 44 "MissedPointsModel" "items" "[I") (by decide +kernel)) (fun _ h9 => h9) rfl dX12_sheet_76 ?_
                                                          refine lv_bipush (v := 40) hx hb dX12_sheet_79 (by decide) ?_
                                                          refine lv_iload_n hx hb dX12_sheet_81 rfl (lv_at hl 2 rfl) ?_
                                                          refine lv_imul hx hb dX12_sheet_82 ?_
                                                          refine lz_top (y := 120) (by decide) ?_
                                                          refine lv_iload hx hb dX12_sheet_83 (lv_at hl 0 rfl) ?_
                                                          refine lv_iadd hx hb dX12_sheet_85 ?_
                                                          refine lz_top (y := 135) (by decide) ?_
                                                          refine lv_iconst (v := 0) hx hb dX12_sheet_86 (by decide) ?_
                                                          refine lz_astc hx hb hK hP hD hS 11 0 rfl rfl (lz_vp (x := 135) (n := 160) (by decide) (by decide)) dX12_sheet_87 (fun H locs hP hD hS => ?_)
                                                          refine lv_iinc (v := 16) (lv' := [(4, .int 16), (0, .ref h0), (1, .int 3), (2, .int (-1)), (3, .int x2)]) hx hb dX12_sheet_88 hl (k := 0) rfl (by decide) (by decide) rfl (fun ls hl => ?_)
                                                          refine lv_goto (tgt := 68) hx hb dX12_sheet_91 (by decide) ?_
                                                          refine lv_iload hx hb dX12_sheet_68 (lv_at hl 0 rfl) ?_
                                                          refine lv_bipush (v := 40) hx hb dX12_sheet_70 (by decide) ?_
                                                          refine lv_icmp_ge (tgt := 94) hx hb dX12_sheet_72 (by decide) (fun c1028 => ?_) (fun c1028 => ?_)
                                                          · exact absurd c1028 (by decide)
                                                          · refine lv_aload_n hx hb dX12_sheet_75 rfl (lv_at hl 1 rfl) ?_
                                                            refine va_get (D := D) (ci := 12) (v := .ref h11) (C := RX12) (T := TX12) (N := 24) hx hb hts hin12 hown hK hP 0 rfl rfl 18 (by decide) (hts (.fieldLink RX12 44 "MissedPointsModel" "items" "[I") (by decide +kernel)) (fun _ h9 => h9) rfl dX12_sheet_76 ?_
                                                            refine lv_bipush (v := 40) hx hb dX12_sheet_79 (by decide) ?_
                                                            refine lv_iload_n hx hb dX12_sheet_81 rfl (lv_at hl 2 rfl) ?_
                                                            refine lv_imul hx hb dX12_sheet_82 ?_
                                                            refine lz_top (y := 120) (by decide) ?_
                                                            refine lv_iload hx hb dX12_sheet_83 (lv_at hl 0 rfl) ?_
                                                            refine lv_iadd hx hb dX12_sheet_85 ?_
                                                            refine lz_top (y := 136) (by decide) ?_
                                                            refine lv_iconst (v := 0) hx hb dX12_sheet_86 (by decide) ?_
                                                            refine lz_astc hx hb hK hP hD hS 11 0 rfl rfl (lz_vp (x := 136) (n := 160) (by decide) (by decide)) dX12_sheet_87 (fun H locs hP hD hS => ?_)
                                                            refine lv_iinc (v := 17) (lv' := [(4, .int 17), (0, .ref h0), (1, .int 3), (2, .int (-1)), (3, .int x2)]) hx hb dX12_sheet_88 hl (k := 0) rfl (by decide) (by decide) rfl (fun ls hl => ?_)
                                                            refine lv_goto (tgt := 68) hx hb dX12_sheet_91 (by decide) ?_
                                                            refine lv_iload hx hb dX12_sheet_68 (lv_at hl 0 rfl) ?_
                                                            refine lv_bipush (v := 40) hx hb dX12_sheet_70 (by decide) ?_
                                                            refine lv_icmp_ge (tgt := 94) hx hb dX12_sheet_72 (by decide) (fun c1029 => ?_) (fun c1029 => ?_)
                                                            · exact absurd c1029 (by decide)
                                                            · refine lv_aload_n hx hb dX12_sheet_75 rfl (lv_at hl 1 rfl) ?_
                                                              refine va_get (D := D) (ci := 12) (v := .ref h11) (C := RX12) (T := TX12) (N := 24) hx hb hts hin12 hown hK hP 0 rfl rfl 18 (by decide) (hts (.fieldLink RX12 44 "MissedPointsModel" "items" "[I") (by decide +kernel)) (fun _ h9 => h9) rfl dX12_sheet_76 ?_
                                                              refine lv_bipush (v := 40) hx hb dX12_sheet_79 (by decide) ?_
                                                              refine lv_iload_n hx hb dX12_sheet_81 rfl (lv_at hl 2 rfl) ?_
                                                              refine lv_imul hx hb dX12_sheet_82 ?_
                                                              refine lz_top (y := 120) (by decide) ?_
                                                              refine lv_iload hx hb dX12_sheet_83 (lv_at hl 0 rfl) ?_
                                                              refine lv_iadd hx hb dX12_sheet_85 ?_
                                                              refine lz_top (y := 137) (by decide) ?_
                                                              refine lv_iconst (v := 0) hx hb dX12_sheet_86 (by decide) ?_
                                                              refine lz_astc hx hb hK hP hD hS 11 0 rfl rfl (lz_vp (x := 137) (n := 160) (by decide) (by decide)) dX12_sheet_87 (fun H locs hP hD hS => ?_)
                                                              refine lv_iinc (v := 18) (lv' := [(4, .int 18), (0, .ref h0), (1, .int 3), (2, .int (-1)), (3, .int x2)]) hx hb dX12_sheet_88 hl (k := 0) rfl (by decide) (by decide) rfl (fun ls hl => ?_)
                                                              refine lv_goto (tgt := 68) hx hb dX12_sheet_91 (by decide) ?_
                                                              refine lv_iload hx hb dX12_sheet_68 (lv_at hl 0 rfl) ?_
                                                              refine lv_bipush (v := 40) hx hb dX12_sheet_70 (by decide) ?_
                                                              refine lv_icmp_ge (tgt := 94) hx hb dX12_sheet_72 (by decide) (fun c1030 => ?_) (fun c1030 => ?_)
                                                              · exact absurd c1030 (by decide)
                                                              · refine lv_aload_n hx hb dX12_sheet_75 rfl (lv_at hl 1 rfl) ?_
                                                                refine va_get (D := D) (ci := 12) (v := .ref h11) (C := RX12) (T := TX12) (N := 24) hx hb hts hin12 hown hK hP 0 rfl rfl 18 (by decide) (hts (.fieldLink RX12 44 "MissedPointsModel" "items" "[I") (by decide +kernel)) (fun _ h9 => h9) rfl dX12_sheet_76 ?_
                                                                refine lv_bipush (v := 40) hx hb dX12_sheet_79 (by decide) ?_
                                                                refine lv_iload_n hx hb dX12_sheet_81 rfl (lv_at hl 2 rfl) ?_
                                                                refine lv_imul hx hb dX12_sheet_82 ?_
                                                                refine lz_top (y := 120) (by decide) ?_
                                                                refine lv_iload hx hb dX12_sheet_83 (lv_at hl 0 rfl) ?_
                                                                refine lv_iadd hx hb dX12_sheet_85 ?_
                                                                refine lz_top (y := 138) (by decide) ?_
                                                                refine lv_iconst (v := 0) hx hb dX12_sheet_86 (by decide) ?_
                                                                refine lz_astc hx hb hK hP hD hS 11 0 rfl rfl (lz_vp (x := 138) (n := 160) (by decide) (by decide)) dX12_sheet_87 (fun H locs hP hD hS => ?_)
                                                                refine lv_iinc (v := 19) (lv' := [(4, .int 19), (0, .ref h0), (1, .int 3), (2, .int (-1)), (3, .int x2)]) hx hb dX12_sheet_88 hl (k := 0) rfl (by decide) (by decide) rfl (fun ls hl => ?_)
                                                                refine lv_goto (tgt := 68) hx hb dX12_sheet_91 (by decide) ?_
                                                                refine lv_iload hx hb dX12_sheet_68 (lv_at hl 0 rfl) ?_
                                                                refine lv_bipush (v := 40) hx hb dX12_sheet_70 (by decide) ?_
                                                                refine lv_icmp_ge (tgt := 94) hx hb dX12_sheet_72 (by decide) (fun c1031 => ?_) (fun c1031 => ?_)
                                                                · exact absurd c1031 (by decide)
                                                                · refine lv_aload_n hx hb dX12_sheet_75 rfl (lv_at hl 1 rfl) ?_
                                                                  refine va_get (D := D) (ci := 12) (v := .ref h11) (C := RX12) (T := TX12) (N := 24) hx hb hts hin12 hown hK hP 0 rfl rfl 18 (by decide) (hts (.fieldLink RX12 44 "MissedPointsModel" "items" "[I") (by decide +kernel)) (fun _ h9 => h9) rfl dX12_sheet_76 ?_
                                                                  refine lv_bipush (v := 40) hx hb dX12_sheet_79 (by decide) ?_
                                                                  refine lv_iload_n hx hb dX12_sheet_81 rfl (lv_at hl 2 rfl) ?_
                                                                  refine lv_imul hx hb dX12_sheet_82 ?_
                                                                  refine lz_top (y := 120) (by decide) ?_
                                                                  refine lv_iload hx hb dX12_sheet_83 (lv_at hl 0 rfl) ?_
                                                                  refine lv_iadd hx hb dX12_sheet_85 ?_
                                                                  refine lz_top (y := 139) (by decide) ?_
                                                                  refine lv_iconst (v := 0) hx hb dX12_sheet_86 (by decide) ?_
                                                                  refine lz_astc hx hb hK hP hD hS 11 0 rfl rfl (lz_vp (x := 139) (n := 160) (by decide) (by decide)) dX12_sheet_87 (fun H locs hP hD hS => ?_)
                                                                  refine lv_iinc (v := 20) (lv' := [(4, .int 20), (0, .ref h0), (1, .int 3), (2, .int (-1)), (3, .int x2)]) hx hb dX12_sheet_88 hl (k := 0) rfl (by decide) (by decide) rfl (fun ls hl => ?_)
                                                                  refine lv_goto (tgt := 68) hx hb dX12_sheet_91 (by decide) ?_
                                                                  refine lv_iload hx hb dX12_sheet_68 (lv_at hl 0 rfl) ?_
                                                                  refine lv_bipush (v := 40) hx hb dX12_sheet_70 (by decide) ?_
                                                                  refine lv_icmp_ge (tgt := 94) hx hb dX12_sheet_72 (by decide) (fun c1032 => ?_) (fun c1032 => ?_)
                                                                  · exact absurd c1032 (by decide)
                                                                  · refine lv_aload_n hx hb dX12_sheet_75 rfl (lv_at hl 1 rfl) ?_
                                                                    refine va_get (D := D) (ci := 12) (v := .ref h11) (C := RX12) (T := TX12) (N := 24) hx hb hts hin12 hown hK hP 0 rfl rfl 18 (by decide) (hts (.fieldLink RX12 44 "MissedPointsModel" "items" "[I") (by decide +kernel)) (fun _ h9 => h9) rfl dX12_sheet_76 ?_
                                                                    refine lv_bipush (v := 40) hx hb dX12_sheet_79 (by decide) ?_
                                                                    refine lv_iload_n hx hb dX12_sheet_81 rfl (lv_at hl 2 rfl) ?_
                                                                    refine lv_imul hx hb dX12_sheet_82 ?_
                                                                    refine lz_top (y := 120) (by decide) ?_
                                                                    refine lv_iload hx hb dX12_sheet_83 (lv_at hl 0 rfl) ?_
                                                                    refine lv_iadd hx hb dX12_sheet_85 ?_
                                                                    refine lz_top (y := 140) (by decide) ?_
                                                                    refine lv_iconst (v := 0) hx hb dX12_sheet_86 (by decide) ?_
                                                                    refine lz_astc hx hb hK hP hD hS 11 0 rfl rfl (lz_vp (x := 140) (n := 160) (by decide) (by decide)) dX12_sheet_87 (fun H locs hP hD hS => ?_)
                                                                    refine lv_iinc (v := 21) (lv' := [(4, .int 21), (0, .ref h0), (1, .int 3), (2, .int (-1)), (3, .int x2)]) hx hb dX12_sheet_88 hl (k := 0) rfl (by decide) (by decide) rfl (fun ls hl => ?_)
                                                                    refine lv_goto (tgt := 68) hx hb dX12_sheet_91 (by decide) ?_
                                                                    refine lv_iload hx hb dX12_sheet_68 (lv_at hl 0 rfl) ?_
                                                                    refine lv_bipush (v := 40) hx hb dX12_sheet_70 (by decide) ?_
                                                                    refine lv_icmp_ge (tgt := 94) hx hb dX12_sheet_72 (by decide) (fun c1033 => ?_) (fun c1033 => ?_)
                                                                    · exact absurd c1033 (by decide)
                                                                    · refine lv_aload_n hx hb dX12_sheet_75 rfl (lv_at hl 1 rfl) ?_
                                                                      refine va_get (D := D) (ci := 12) (v := .ref h11) (C := RX12) (T := TX12) (N := 24) hx hb hts hin12 hown hK hP 0 rfl rfl 18 (by decide) (hts (.fieldLink RX12 44 "MissedPointsModel" "items" "[I") (by decide +kernel)) (fun _ h9 => h9) rfl dX12_sheet_76 ?_
                                                                      refine lv_bipush (v := 40) hx hb dX12_sheet_79 (by decide) ?_
                                                                      refine lv_iload_n hx hb dX12_sheet_81 rfl (lv_at hl 2 rfl) ?_
                                                                      refine lv_imul hx hb dX12_sheet_82 ?_
                                                                      refine lz_top (y := 120) (by decide) ?_
                                                                      refine lv_iload hx hb dX12_sheet_83 (lv_at hl 0 rfl) ?_
                                                                      refine lv_iadd hx hb dX12_sheet_85 ?_
                                                                      refine lz_top (y := 141) (by decide) ?_
                                                                      refine lv_iconst (v := 0) hx hb dX12_sheet_86 (by decide) ?_
                                                                      refine lz_astc hx hb hK hP hD hS 11 0 rfl rfl (lz_vp (x := 141) (n := 160) (by decide) (by decide)) dX12_sheet_87 (fun H locs hP hD hS => ?_)
                                                                      refine lv_iinc (v := 22) (lv' := [(4, .int 22), (0, .ref h0), (1, .int 3), (2, .int (-1)), (3, .int x2)]) hx hb dX12_sheet_88 hl (k := 0) rfl (by decide) (by decide) rfl (fun ls hl => ?_)
                                                                      refine lv_goto (tgt := 68) hx hb dX12_sheet_91 (by decide) ?_
                                                                      refine lv_iload hx hb dX12_sheet_68 (lv_at hl 0 rfl) ?_
                                                                      refine lv_bipush (v := 40) hx hb dX12_sheet_70 (by decide) ?_
                                                                      refine lv_icmp_ge (tgt := 94) hx hb dX12_sheet_72 (by decide) (fun c1034 => ?_) (fun c1034 => ?_)
                                                                      · exact absurd c1034 (by decide)
                                                                      · refine lv_aload_n hx hb dX12_sheet_75 rfl (lv_at hl 1 rfl) ?_
                                                                        refine va_get (D := D) (ci := 12) (v := .ref h11) (C := RX12) (T := TX12) (N := 24) hx hb hts hin12 hown hK hP 0 rfl rfl 18 (by decide) (hts (.fieldLink RX12 44 "MissedPointsModel" "items" "[I") (by decide +kernel)) (fun _ h9 => h9) rfl dX12_sheet_76 ?_
                                                                        refine lv_bipush (v := 40) hx hb dX12_sheet_79 (by decide) ?_
                                                                        refine lv_iload_n hx hb dX12_sheet_81 rfl (lv_at hl 2 rfl) ?_
                                                                        refine lv_imul hx hb dX12_sheet_82 ?_
                                                                        refine lz_top (y := 120) (by decide) ?_
                                                                        refine lv_iload hx hb dX12_sheet_83 (lv_at hl 0 rfl) ?_
                                                                        refine lv_iadd hx hb dX12_sheet_85 ?_
                                                                        refine lz_top (y := 142) (by decide) ?_
                                                                        refine lv_iconst (v := 0) hx hb dX12_sheet_86 (by decide) ?_
                                                                        refine lz_astc hx hb hK hP hD hS 11 0 rfl rfl (lz_vp (x := 142) (n := 160) (by decide) (by decide)) dX12_sheet_87 (fun H locs hP hD hS => ?_)
                                                                        refine lv_iinc (v := 23) (lv' := [(4, .int 23), (0, .ref h0), (1, .int 3), (2, .int (-1)), (3, .int x2)]) hx hb dX12_sheet_88 hl (k := 0) rfl (by decide) (by decide) rfl (fun ls hl => ?_)
                                                                        refine lv_goto (tgt := 68) hx hb dX12_sheet_91 (by decide) ?_
                                                                        refine lv_iload hx hb dX12_sheet_68 (lv_at hl 0 rfl) ?_
                                                                        refine lv_bipush (v := 40) hx hb dX12_sheet_70 (by decide) ?_
                                                                        refine lv_icmp_ge (tgt := 94) hx hb dX12_sheet_72 (by decide) (fun c1035 => ?_) (fun c1035 => ?_)
                                                                        · exact absurd c1035 (by decide)
                                                                        · refine lv_aload_n hx hb dX12_sheet_75 rfl (lv_at hl 1 rfl) ?_
                                                                          refine va_get (D := D) (ci := 12) (v := .ref h11) (C := RX12) (T := TX12) (N := 24) hx hb hts hin12 hown hK hP 0 rfl rfl 18 (by decide) (hts (.fieldLink RX12 44 "MissedPointsModel" "items" "[I") (by decide +kernel)) (fun _ h9 => h9) rfl dX12_sheet_76 ?_
                                                                          refine lv_bipush (v := 40) hx hb dX12_sheet_79 (by decide) ?_
                                                                          refine lv_iload_n hx hb dX12_sheet_81 rfl (lv_at hl 2 rfl) ?_
                                                                          refine lv_imul hx hb dX12_sheet_82 ?_
                                                                          refine lz_top (y := 120) (by decide) ?_
                                                                          refine lv_iload hx hb dX12_sheet_83 (lv_at hl 0 rfl) ?_
                                                                          refine lv_iadd hx hb dX12_sheet_85 ?_
                                                                          refine lz_top (y := 143) (by decide) ?_
                                                                          refine lv_iconst (v := 0) hx hb dX12_sheet_86 (by decide) ?_
                                                                          refine lz_astc hx hb hK hP hD hS 11 0 rfl rfl (lz_vp (x := 143) (n := 160) (by decide) (by decide)) dX12_sheet_87 (fun H locs hP hD hS => ?_)
                                                                          refine lv_iinc (v := 24) (lv' := [(4, .int 24), (0, .ref h0), (1, .int 3), (2, .int (-1)), (3, .int x2)]) hx hb dX12_sheet_88 hl (k := 0) rfl (by decide) (by decide) rfl (fun ls hl => ?_)
                                                                          refine lv_goto (tgt := 68) hx hb dX12_sheet_91 (by decide) ?_
                                                                          refine lv_iload hx hb dX12_sheet_68 (lv_at hl 0 rfl) ?_
                                                                          refine lv_bipush (v := 40) hx hb dX12_sheet_70 (by decide) ?_
                                                                          refine lv_icmp_ge (tgt := 94) hx hb dX12_sheet_72 (by decide) (fun c1036 => ?_) (fun c1036 => ?_)
                                                                          · exact absurd c1036 (by decide)
                                                                          · refine lv_aload_n hx hb dX12_sheet_75 rfl (lv_at hl 1 rfl) ?_
                                                                            refine va_get (D := D) (ci := 12) (v := .ref h11) (C := RX12) (T := TX12) (N := 24) hx hb hts hin12 hown hK hP 0 rfl rfl 18 (by decide) (hts (.fieldLink RX12 44 "MissedPointsModel" "items" "[I") (by decide +kernel)) (fun _ h9 => h9) rfl dX12_sheet_76 ?_
                                                                            refine lv_bipush (v := 40) hx hb dX12_sheet_79 (by decide) ?_
                                                                            refine lv_iload_n hx hb dX12_sheet_81 rfl (lv_at hl 2 rfl) ?_
                                                                            refine lv_imul hx hb dX12_sheet_82 ?_
                                                                            refine lz_top (y := 120) (by decide) ?_
                                                                            refine lv_iload hx hb dX12_sheet_83 (lv_at hl 0 rfl) ?_
                                                                            refine lv_iadd hx hb dX12_sheet_85 ?_
                                                                            refine lz_top (y := 144) (by decide) ?_
                                                                            refine lv_iconst (v := 0) hx hb dX12_sheet_86 (by decide) ?_
                                                                            refine lz_astc hx hb hK hP hD hS 11 0 rfl rfl (lz_vp (x := 144) (n := 160) (by decide) (by decide)) dX12_sheet_87 (fun H locs hP hD hS => ?_)
                                                                            refine lv_iinc (v := 25) (lv' := [(4, .int 25), (0, .ref h0), (1, .int 3), (2, .int (-1)), (3, .int x2)]) hx hb dX12_sheet_88 hl (k := 0) rfl (by decide) (by decide) rfl (fun ls hl => ?_)
                                                                            refine lv_goto (tgt := 68) hx hb dX12_sheet_91 (by decide) ?_
                                                                            refine lv_iload hx hb dX12_sheet_68 (lv_at hl 0 rfl) ?_
                                                                            refine lv_bipush (v := 40) hx hb dX12_sheet_70 (by decide) ?_
                                                                            refine lv_icmp_ge (tgt := 94) hx hb dX12_sheet_72 (by decide) (fun c1037 => ?_) (fun c1037 => ?_)
                                                                            · exact absurd c1037 (by decide)
                                                                            · refine lv_aload_n hx hb dX12_sheet_75 rfl (lv_at hl 1 rfl) ?_
                                                                              refine va_get (D := D) (ci := 12) (v := .ref h11) (C := RX12) (T := TX12) (N := 24) hx hb hts hin12 hown hK hP 0 rfl rfl 18 (by decide) (hts (.fieldLink RX12 44 "MissedPointsModel" "items" "[I") (by decide +kernel)) (fun _ h9 => h9) rfl dX12_sheet_76 ?_
                                                                              refine lv_bipush (v := 40) hx hb dX12_sheet_79 (by decide) ?_
                                                                              refine lv_iload_n hx hb dX12_sheet_81 rfl (lv_at hl 2 rfl) ?_
                                                                              refine lv_imul hx hb dX12_sheet_82 ?_
                                                                              refine lz_top (y := 120) (by decide) ?_
                                                                              refine lv_iload hx hb dX12_sheet_83 (lv_at hl 0 rfl) ?_
                                                                              refine lv_iadd hx hb dX12_sheet_85 ?_
                                                                              refine lz_top (y := 145) (by decide) ?_
                                                                              refine lv_iconst (v := 0) hx hb dX12_sheet_86 (by decide) ?_
                                                                              refine lz_astc hx hb hK hP hD hS 11 0 rfl rfl (lz_vp (x := 145) (n := 160) (by decide) (by decide)) dX12_sheet_87 (fun H locs hP hD hS => ?_)
                                                                              refine lv_iinc (v := 26) (lv' := [(4, .int 26), (0, .ref h0), (1, .int 3), (2, .int (-1)), (3, .int x2)]) hx hb dX12_sheet_88 hl (k := 0) rfl (by decide) (by decide) rfl (fun ls hl => ?_)
                                                                              refine lv_goto (tgt := 68) hx hb dX12_sheet_91 (by decide) ?_
                                                                              refine lv_iload hx hb dX12_sheet_68 (lv_at hl 0 rfl) ?_
                                                                              refine lv_bipush (v := 40) hx hb dX12_sheet_70 (by decide) ?_
                                                                              refine lv_icmp_ge (tgt := 94) hx hb dX12_sheet_72 (by decide) (fun c1038 => ?_) (fun c1038 => ?_)
                                                                              · exact absurd c1038 (by decide)
                                                                              · refine lv_aload_n hx hb dX12_sheet_75 rfl (lv_at hl 1 rfl) ?_
                                                                                refine va_get (D := D) (ci := 12) (v := .ref h11) (C := RX12) (T := TX12) (N := 24) hx hb hts hin12 hown hK hP 0 rfl rfl 18 (by decide) (hts (.fieldLink RX12 44 "MissedPointsModel" "items" "[I") (by decide +kernel)) (fun _ h9 => h9) rfl dX12_sheet_76 ?_
                                                                                refine lv_bipush (v := 40) hx hb dX12_sheet_79 (by decide) ?_
                                                                                refine lv_iload_n hx hb dX12_sheet_81 rfl (lv_at hl 2 rfl) ?_
                                                                                refine lv_imul hx hb dX12_sheet_82 ?_
                                                                                refine lz_top (y := 120) (by decide) ?_
                                                                                refine lv_iload hx hb dX12_sheet_83 (lv_at hl 0 rfl) ?_
                                                                                refine lv_iadd hx hb dX12_sheet_85 ?_
                                                                                refine lz_top (y := 146) (by decide) ?_
                                                                                refine lv_iconst (v := 0) hx hb dX12_sheet_86 (by decide) ?_
                                                                                refine lz_astc hx hb hK hP hD hS 11 0 rfl rfl (lz_vp (x := 146) (n := 160) (by decide) (by decide)) dX12_sheet_87 (fun H locs hP hD hS => ?_)
                                                                                refine lv_iinc (v := 27) (lv' := [(4, .int 27), (0, .ref h0), (1, .int 3), (2, .int (-1)), (3, .int x2)]) hx hb dX12_sheet_88 hl (k := 0) rfl (by decide) (by decide) rfl (fun ls hl => ?_)
                                                                                refine lv_goto (tgt := 68) hx hb dX12_sheet_91 (by decide) ?_
                                                                                refine lv_iload hx hb dX12_sheet_68 (lv_at hl 0 rfl) ?_
                                                                                refine lv_bipush (v := 40) hx hb dX12_sheet_70 (by decide) ?_
                                                                                refine lv_icmp_ge (tgt := 94) hx hb dX12_sheet_72 (by decide) (fun c1039 => ?_) (fun c1039 => ?_)
                                                                                · exact absurd c1039 (by decide)
                                                                                · refine lv_aload_n hx hb dX12_sheet_75 rfl (lv_at hl 1 rfl) ?_
                                                                                  refine va_get (D := D) (ci := 12) (v := .ref h11) (C := RX12) (T := TX12) (N := 24) hx hb hts hin12 hown hK hP 0 rfl rfl 18 (by decide) (hts (.fieldLink RX12 44 "MissedPointsModel" "items" "[I") (by decide +kernel)) (fun _ h9 => h9) rfl dX12_sheet_76 ?_
                                                                                  refine lv_bipush (v := 40) hx hb dX12_sheet_79 (by decide) ?_
                                                                                  refine lv_iload_n hx hb dX12_sheet_81 rfl (lv_at hl 2 rfl) ?_
                                                                                  refine lv_imul hx hb dX12_sheet_82 ?_
                                                                                  refine lz_top (y := 120) (by decide) ?_
                                                                                  refine lv_iload hx hb dX12_sheet_83 (lv_at hl 0 rfl) ?_
                                                                                  refine lv_iadd hx hb dX12_sheet_85 ?_
                                                                                  refine lz_top (y := 147) (by decide) ?_
                                                                                  refine lv_iconst (v := 0) hx hb dX12_sheet_86 (by decide) ?_
                                                                                  refine lz_astc hx hb hK hP hD hS 11 0 rfl rfl (lz_vp (x := 147) (n := 160) (by decide) (by decide)) dX12_sheet_87 (fun H locs hP hD hS => ?_)
                                                                                  refine lv_iinc (v := 28) (lv' := [(4, .int 28), (0, .ref h0), (1, .int 3), (2, .int (-1)), (3, .int x2)]) hx hb dX12_sheet_88 hl (k := 0) rfl (by decide) (by decide) rfl (fun ls hl => ?_)
                                                                                  refine lv_goto (tgt := 68) hx hb dX12_sheet_91 (by decide) ?_
                                                                                  refine lv_iload hx hb dX12_sheet_68 (lv_at hl 0 rfl) ?_
                                                                                  refine lv_bipush (v := 40) hx hb dX12_sheet_70 (by decide) ?_
                                                                                  refine lv_icmp_ge (tgt := 94) hx hb dX12_sheet_72 (by decide) (fun c1040 => ?_) (fun c1040 => ?_)
                                                                                  · exact absurd c1040 (by decide)
                                                                                  · refine lv_aload_n hx hb dX12_sheet_75 rfl (lv_at hl 1 rfl) ?_
                                                                                    refine va_get (D := D) (ci := 12) (v := .ref h11) (C := RX12) (T := TX12) (N := 24) hx hb hts hin12 hown hK hP 0 rfl rfl 18 (by decide) (hts (.fieldLink RX12 44 "MissedPointsModel" "items" "[I") (by decide +kernel)) (fun _ h9 => h9) rfl dX12_sheet_76 ?_
                                                                                    refine lv_bipush (v := 40) hx hb dX12_sheet_79 (by decide) ?_
                                                                                    refine lv_iload_n hx hb dX12_sheet_81 rfl (lv_at hl 2 rfl) ?_
                                                                                    refine lv_imul hx hb dX12_sheet_82 ?_
                                                                                    refine lz_top (y := 120) (by decide) ?_
                                                                                    refine lv_iload hx hb dX12_sheet_83 (lv_at hl 0 rfl) ?_
                                                                                    refine lv_iadd hx hb dX12_sheet_85 ?_
                                                                                    refine lz_top (y := 148) (by decide) ?_
                                                                                    refine lv_iconst (v := 0) hx hb dX12_sheet_86 (by decide) ?_
                                                                                    refine lz_astc hx hb hK hP hD hS 11 0 rfl rfl (lz_vp (x := 148) (n := 160) (by decide) (by decide)) dX12_sheet_87 (fun H locs hP hD hS => ?_)
                                                                                    refine lv_iinc (v := 29) (lv' := [(4, .int 29), (0, .ref h0), (1, .int 3), (2, .int (-1)), (3, .int x2)]) hx hb dX12_sheet_88 hl (k := 0) rfl (by decide) (by decide) rfl (fun ls hl => ?_)
                                                                                    refine lv_goto (tgt := 68) hx hb dX12_sheet_91 (by decide) ?_
                                                                                    refine lv_iload hx hb dX12_sheet_68 (lv_at hl 0 rfl) ?_
                                                                                    refine lv_bipush (v := 40) hx hb dX12_sheet_70 (by decide) ?_
                                                                                    refine lv_icmp_ge (tgt := 94) hx hb dX12_sheet_72 (by decide) (fun c1041 => ?_) (fun c1041 => ?_)
                                                                                    · exact absurd c1041 (by decide)
                                                                                    · refine lv_aload_n hx hb dX12_sheet_75 rfl (lv_at hl 1 rfl) ?_
                                                                                      refine va_get (D := D) (ci := 12) (v := .ref h11) (C := RX12) (T := TX12) (N := 24) hx hb hts hin12 hown hK hP 0 rfl rfl 18 (by decide) (hts (.fieldLink RX12 44 "MissedPointsModel" "items" "[I") (by decide +kernel)) (fun _ h9 => h9) rfl dX12_sheet_76 ?_
                                                                                      refine lv_bipush (v := 40) hx hb dX12_sheet_79 (by decide) ?_
                                                                                      refine lv_iload_n hx hb dX12_sheet_81 rfl (lv_at hl 2 rfl) ?_
                                                                                      refine lv_imul hx hb dX12_sheet_82 ?_
                                                                                      refine lz_top (y := 120) (by decide) ?_
                                                                                      refine lv_iload hx hb dX12_sheet_83 (lv_at hl 0 rfl) ?_
                                                                                      refine lv_iadd hx hb dX12_sheet_85 ?_
                                                                                      refine lz_top (y := 149) (by decide) ?_
                                                                                      refine lv_iconst (v := 0) hx hb dX12_sheet_86 (by decide) ?_
                                                                                      refine lz_astc hx hb hK hP hD hS 11 0 rfl rfl (lz_vp (x := 149) (n := 160) (by decide) (by decide)) dX12_sheet_87 (fun H locs hP hD hS => ?_)
                                                                                      refine lv_iinc (v := 30) (lv' := [(4, .int 30), (0, .ref h0), (1, .int 3), (2, .int (-1)), (3, .int x2)]) hx hb dX12_sheet_88 hl (k := 0) rfl (by decide) (by decide) rfl (fun ls hl => ?_)
                                                                                      refine lv_goto (tgt := 68) hx hb dX12_sheet_91 (by decide) ?_
                                                                                      refine lv_iload hx hb dX12_sheet_68 (lv_at hl 0 rfl) ?_
                                                                                      refine lv_bipush (v := 40) hx hb dX12_sheet_70 (by decide) ?_
                                                                                      refine lv_icmp_ge (tgt := 94) hx hb dX12_sheet_72 (by decide) (fun c1042 => ?_) (fun c1042 => ?_)
                                                                                      · exact absurd c1042 (by decide)
                                                                                      · refine lv_aload_n hx hb dX12_sheet_75 rfl (lv_at hl 1 rfl) ?_
                                                                                        refine va_get (D := D) (ci := 12) (v := .ref h11) (C := RX12) (T := TX12) (N := 24) hx hb hts hin12 hown hK hP 0 rfl rfl 18 (by decide) (hts (.fieldLink RX12 44 "MissedPointsModel" "items" "[I") (by decide +kernel)) (fun _ h9 => h9) rfl dX12_sheet_76 ?_
                                                                                        refine lv_bipush (v := 40) hx hb dX12_sheet_79 (by decide) ?_
                                                                                        refine lv_iload_n hx hb dX12_sheet_81 rfl (lv_at hl 2 rfl) ?_
                                                                                        refine lv_imul hx hb dX12_sheet_82 ?_
                                                                                        refine lz_top (y := 120) (by decide) ?_
                                                                                        refine lv_iload hx hb dX12_sheet_83 (lv_at hl 0 rfl) ?_
                                                                                        refine lv_iadd hx hb dX12_sheet_85 ?_
                                                                                        refine lz_top (y := 150) (by decide) ?_
                                                                                        refine lv_iconst (v := 0) hx hb dX12_sheet_86 (by decide) ?_
                                                                                        refine lz_astc hx hb hK hP hD hS 11 0 rfl rfl (lz_vp (x := 150) (n := 160) (by decide) (by decide)) dX12_sheet_87 (fun H locs hP hD hS => ?_)
                                                                                        refine lv_iinc (v := 31) (lv' := [(4, .int 31), (0, .ref h0), (1, .int 3), (2, .int (-1)), (3, .int x2)]) hx hb dX12_sheet_88 hl (k := 0) rfl (by decide) (by decide) rfl (fun ls hl => ?_)
                                                                                        refine lv_goto (tgt := 68) hx hb dX12_sheet_91 (by decide) ?_
                                                                                        refine lv_iload hx hb dX12_sheet_68 (lv_at hl 0 rfl) ?_
                                                                                        refine lv_bipush (v := 40) hx hb dX12_sheet_70 (by decide) ?_
                                                                                        refine lv_icmp_ge (tgt := 94) hx hb dX12_sheet_72 (by decide) (fun c1043 => ?_) (fun c1043 => ?_)
                                                                                        · exact absurd c1043 (by decide)
                                                                                        · refine lv_aload_n hx hb dX12_sheet_75 rfl (lv_at hl 1 rfl) ?_
                                                                                          refine va_get (D := D) (ci := 12) (v := .ref h11) (C := RX12) (T := TX12) (N := 24) hx hb hts hin12 hown hK hP 0 rfl rfl 18 (by decide) (hts (.fieldLink RX12 44 "MissedPointsModel" "items" "[I") (by decide +kernel)) (fun _ h9 => h9) rfl dX12_sheet_76 ?_
                                                                                          refine lv_bipush (v := 40) hx hb dX12_sheet_79 (by decide) ?_
                                                                                          refine lv_iload_n hx hb dX12_sheet_81 rfl (lv_at hl 2 rfl) ?_
                                                                                          refine lv_imul hx hb dX12_sheet_82 ?_
                                                                                          refine lz_top (y := 120) (by decide) ?_
                                                                                          refine lv_iload hx hb dX12_sheet_83 (lv_at hl 0 rfl) ?_
                                                                                          refine lv_iadd hx hb dX12_sheet_85 ?_
                                                                                          refine lz_top (y := 151) (by decide) ?_
                                                                                          refine lv_iconst (v := 0) hx hb dX12_sheet_86 (by decide) ?_
                                                                                          refine lz_astc hx hb hK hP hD hS 11 0 rfl rfl (lz_vp (x := 151) (n := 160) (by decide) (by decide)) dX12_sheet_87 (fun H locs hP hD hS => ?_)
                                                                                          refine lv_iinc (v := 32) (lv' := [(4, .int 32), (0, .ref h0), (1, .int 3), (2, .int (-1)), (3, .int x2)]) hx hb dX12_sheet_88 hl (k := 0) rfl (by decide) (by decide) rfl (fun ls hl => ?_)
                                                                                          refine lv_goto (tgt := 68) hx hb dX12_sheet_91 (by decide) ?_
                                                                                          refine lv_iload hx hb dX12_sheet_68 (lv_at hl 0 rfl) ?_
                                                                                          refine lv_bipush (v := 40) hx hb dX12_sheet_70 (by decide) ?_
                                                                                          refine lv_icmp_ge (tgt := 94) hx hb dX12_sheet_72 (by decide) (fun c1044 => ?_) (fun c1044 => ?_)
                                                                                          · exact absurd c1044 (by decide)
                                                                                          · refine lv_aload_n hx hb dX12_sheet_75 rfl (lv_at hl 1 rfl) ?_
                                                                                            refine va_get (D := D) (ci := 12) (v := .ref h11) (C := RX12) (T := TX12) (N := 24) hx hb hts hin12 hown hK hP 0 rfl rfl 18 (by decide) (hts (.fieldLink RX12 44 "MissedPointsModel" "items" "[I") (by decide +kernel)) (fun _ h9 => h9) rfl dX12_sheet_76 ?_
                                                                                            refine lv_bipush (v := 40) hx hb dX12_sheet_79 (by decide) ?_
                                                                                            refine lv_iload_n hx hb dX12_sheet_81 rfl (lv_at hl 2 rfl) ?_
                                                                                            refine lv_imul hx hb dX12_sheet_82 ?_
                                                                                            refine lz_top (y := 120) (by decide) ?_
                                                                                            refine lv_iload hx hb dX12_sheet_83 (lv_at hl 0 rfl) ?_
                                                                                            refine lv_iadd hx hb dX12_sheet_85 ?_
                                                                                            refine lz_top (y := 152) (by decide) ?_
                                                                                            refine lv_iconst (v := 0) hx hb dX12_sheet_86 (by decide) ?_
                                                                                            refine lz_astc hx hb hK hP hD hS 11 0 rfl rfl (lz_vp (x := 152) (n := 160) (by decide) (by decide)) dX12_sheet_87 (fun H locs hP hD hS => ?_)
                                                                                            refine lv_iinc (v := 33) (lv' := [(4, .int 33), (0, .ref h0), (1, .int 3), (2, .int (-1)), (3, .int x2)]) hx hb dX12_sheet_88 hl (k := 0) rfl (by decide) (by decide) rfl (fun ls hl => ?_)
                                                                                            refine lv_goto (tgt := 68) hx hb dX12_sheet_91 (by decide) ?_
                                                                                            refine lv_iload hx hb dX12_sheet_68 (lv_at hl 0 rfl) ?_
                                                                                            refine lv_bipush (v := 40) hx hb dX12_sheet_70 (by decide) ?_
                                                                                            refine lv_icmp_ge (tgt := 94) hx hb dX12_sheet_72 (by decide) (fun c1045 => ?_) (fun c1045 => ?_)
                                                                                            · exact absurd c1045 (by decide)
                                                                                            · refine lv_aload_n hx hb dX12_sheet_75 rfl (lv_at hl 1 rfl) ?_
                                                                                              refine va_get (D := D) (ci := 12) (v := .ref h11) (C := RX12) (T := TX12) (N := 24) hx hb hts hin12 hown hK hP 0 rfl rfl 18 (by decide) (hts (.fieldLink RX12 44 "MissedPointsModel" "items" "[I") (by decide +kernel)) (fun _ h9 => h9) rfl dX12_sheet_76 ?_
                                                                                              refine lv_bipush (v := 40) hx hb dX12_sheet_79 (by decide) ?_
                                                                                              refine lv_iload_n hx hb dX12_sheet_81 rfl (lv_at hl 2 rfl) ?_
                                                                                              refine lv_imul hx hb dX12_sheet_82 ?_
                                                                                              refine lz_top (y := 120) (by decide) ?_
                                                                                              refine lv_iload hx hb dX12_sheet_83 (lv_at hl 0 rfl) ?_
                                                                                              refine lv_iadd hx hb dX12_sheet_85 ?_
                                                                                              refine lz_top (y := 153) (by decide) ?_
                                                                                              refine lv_iconst (v := 0) hx hb dX12_sheet_86 (by decide) ?_
                                                                                              refine lz_astc hx hb hK hP hD hS 11 0 rfl rfl (lz_vp (x := 153) (n := 160) (by decide) (by decide)) dX12_sheet_87 (fun H locs hP hD hS => ?_)
                                                                                              refine lv_iinc (v := 34) (lv' := [(4, .int 34), (0, .ref h0), (1, .int 3), (2, .int (-1)), (3, .int x2)]) hx hb dX12_sheet_88 hl (k := 0) rfl (by decide) (by decide) rfl (fun ls hl => ?_)
                                                                                              refine lv_goto (tgt := 68) hx hb dX12_sheet_91 (by decide) ?_
                                                                                              refine lv_iload hx hb dX12_sheet_68 (lv_at hl 0 rfl) ?_
                                                                                              refine lv_bipush (v := 40) hx hb dX12_sheet_70 (by decide) ?_
                                                                                              refine lv_icmp_ge (tgt := 94) hx hb dX12_sheet_72 (by decide) (fun c1046 => ?_) (fun c1046 => ?_)
                                                                                              · exact absurd c1046 (by decide)
                                                                                              · refine lv_aload_n hx hb dX12_sheet_75 rfl (lv_at hl 1 rfl) ?_
                                                                                                refine va_get (D := D) (ci := 12) (v := .ref h11) (C := RX12) (T := TX12) (N := 24) hx hb hts hin12 hown hK hP 0 rfl rfl 18 (by decide) (hts (.fieldLink RX12 44 "MissedPointsModel" "items" "[I") (by decide +kernel)) (fun _ h9 => h9) rfl dX12_sheet_76 ?_
                                                                                                refine lv_bipush (v := 40) hx hb dX12_sheet_79 (by decide) ?_
                                                                                                refine lv_iload_n hx hb dX12_sheet_81 rfl (lv_at hl 2 rfl) ?_
                                                                                                refine lv_imul hx hb dX12_sheet_82 ?_
                                                                                                refine lz_top (y := 120) (by decide) ?_
                                                                                                refine lv_iload hx hb dX12_sheet_83 (lv_at hl 0 rfl) ?_
                                                                                                refine lv_iadd hx hb dX12_sheet_85 ?_
                                                                                                refine lz_top (y := 154) (by decide) ?_
                                                                                                refine lv_iconst (v := 0) hx hb dX12_sheet_86 (by decide) ?_
                                                                                                refine lz_astc hx hb hK hP hD hS 11 0 rfl rfl (lz_vp (x := 154) (n := 160) (by decide) (by decide)) dX12_sheet_87 (fun H locs hP hD hS => ?_)
                                                                                                refine lv_iinc (v := 35) (lv' := [(4, .int 35), (0, .ref h0), (1, .int 3), (2, .int (-1)), (3, .int x2)]) hx hb dX12_sheet_88 hl (k := 0) rfl (by decide) (by decide) rfl (fun ls hl => ?_)
                                                                                                refine lv_goto (tgt := 68) hx hb dX12_sheet_91 (by decide) ?_
                                                                                                refine lv_iload hx hb dX12_sheet_68 (lv_at hl 0 rfl) ?_
                                                                                                refine lv_bipush (v := 40) hx hb dX12_sheet_70 (by decide) ?_
                                                                                                refine lv_icmp_ge (tgt := 94) hx hb dX12_sheet_72 (by decide) (fun c1047 => ?_) (fun c1047 => ?_)
                                                                                                · exact absurd c1047 (by decide)
                                                                                                · refine lv_aload_n hx hb dX12_sheet_75 rfl (lv_at hl 1 rfl) ?_
                                                                                                  refine va_get (D := D) (ci := 12) (v := .ref h11) (C := RX12) (T := TX12) (N := 24) hx hb hts hin12 hown hK hP 0 rfl rfl 18 (by decide) (hts (.fieldLink RX12 44 "MissedPointsModel" "items" "[I") (by decide +kernel)) (fun _ h9 => h9) rfl dX12_sheet_76 ?_
                                                                                                  refine lv_bipush (v := 40) hx hb dX12_sheet_79 (by decide) ?_
                                                                                                  refine lv_iload_n hx hb dX12_sheet_81 rfl (lv_at hl 2 rfl) ?_
                                                                                                  refine lv_imul hx hb dX12_sheet_82 ?_
                                                                                                  refine lz_top (y := 120) (by decide) ?_
                                                                                                  refine lv_iload hx hb dX12_sheet_83 (lv_at hl 0 rfl) ?_
                                                                                                  refine lv_iadd hx hb dX12_sheet_85 ?_
                                                                                                  refine lz_top (y := 155) (by decide) ?_
                                                                                                  refine lv_iconst (v := 0) hx hb dX12_sheet_86 (by decide) ?_
                                                                                                  refine lz_astc hx hb hK hP hD hS 11 0 rfl rfl (lz_vp (x := 155) (n := 160) (by decide) (by decide)) dX12_sheet_87 (fun H locs hP hD hS => ?_)
                                                                                                  refine lv_iinc (v := 36) (lv' := [(4, .int 36), (0, .ref h0), (1, .int 3), (2, .int (-1)), (3, .int x2)]) hx hb dX12_sheet_88 hl (k := 0) rfl (by decide) (by decide) rfl (fun ls hl => ?_)
                                                                                                  refine lv_goto (tgt := 68) hx hb dX12_sheet_91 (by decide) ?_
                                                                                                  refine lv_iload hx hb dX12_sheet_68 (lv_at hl 0 rfl) ?_
                                                                                                  refine lv_bipush (v := 40) hx hb dX12_sheet_70 (by decide) ?_
                                                                                                  refine lv_icmp_ge (tgt := 94) hx hb dX12_sheet_72 (by decide) (fun c1048 => ?_) (fun c1048 => ?_)
                                                                                                  · exact absurd c1048 (by decide)
                                                                                                  · refine lv_aload_n hx hb dX12_sheet_75 rfl (lv_at hl 1 rfl) ?_
                                                                                                    refine va_get (D := D) (ci := 12) (v := .ref h11) (C := RX12) (T := TX12) (N := 24) hx hb hts hin12 hown hK hP 0 rfl rfl 18 (by decide) (hts (.fieldLink RX12 44 "MissedPointsModel" "items" "[I") (by decide +kernel)) (fun _ h9 => h9) rfl dX12_sheet_76 ?_
                                                                                                    refine lv_bipush (v := 40) hx hb dX12_sheet_79 (by decide) ?_
                                                                                                    refine lv_iload_n hx hb dX12_sheet_81 rfl (lv_at hl 2 rfl) ?_
                                                                                                    refine lv_imul hx hb dX12_sheet_82 ?_
                                                                                                    refine lz_top (y := 120) (by decide) ?_
                                                                                                    refine lv_iload hx hb dX12_sheet_83 (lv_at hl 0 rfl) ?_
                                                                                                    refine lv_iadd hx hb dX12_sheet_85 ?_
                                                                                                    refine lz_top (y := 156) (by decide) ?_
                                                                                                    refine lv_iconst (v := 0) hx hb dX12_sheet_86 (by decide) ?_
                                                                                                    refine lz_astc hx hb hK hP hD hS 11 0 rfl rfl (lz_vp (x := 156) (n := 160) (by decide) (by decide)) dX12_sheet_87 (fun H locs hP hD hS => ?_)
                                                                                                    refine lv_iinc (v := 37) (lv' := [(4, .int 37), (0, .ref h0), (1, .int 3), (2, .int (-1)), (3, .int x2)]) hx hb dX12_sheet_88 hl (k := 0) rfl (by decide) (by decide) rfl (fun ls hl => ?_)
                                                                                                    refine lv_goto (tgt := 68) hx hb dX12_sheet_91 (by decide) ?_
                                                                                                    refine lv_iload hx hb dX12_sheet_68 (lv_at hl 0 rfl) ?_
                                                                                                    refine lv_bipush (v := 40) hx hb dX12_sheet_70 (by decide) ?_
                                                                                                    refine lv_icmp_ge (tgt := 94) hx hb dX12_sheet_72 (by decide) (fun c1049 => ?_) (fun c1049 => ?_)
                                                                                                    · exact absurd c1049 (by decide)
                                                                                                    · refine lv_aload_n hx hb dX12_sheet_75 rfl (lv_at hl 1 rfl) ?_
                                                                                                      refine va_get (D := D) (ci := 12) (v := .ref h11) (C := RX12) (T := TX12) (N := 24) hx hb hts hin12 hown hK hP 0 rfl rfl 18 (by decide) (hts (.fieldLink RX12 44 "MissedPointsModel" "items" "[I") (by decide +kernel)) (fun _ h9 => h9) rfl dX12_sheet_76 ?_
                                                                                                      refine lv_bipush (v := 40) hx hb dX12_sheet_79 (by decide) ?_
                                                                                                      refine lv_iload_n hx hb dX12_sheet_81 rfl (lv_at hl 2 rfl) ?_
                                                                                                      refine lv_imul hx hb dX12_sheet_82 ?_
                                                                                                      refine lz_top (y := 120) (by decide) ?_
                                                                                                      refine lv_iload hx hb dX12_sheet_83 (lv_at hl 0 rfl) ?_
                                                                                                      refine lv_iadd hx hb dX12_sheet_85 ?_
                                                                                                      refine lz_top (y := 157) (by decide) ?_
                                                                                                      refine lv_iconst (v := 0) hx hb dX12_sheet_86 (by decide) ?_
                                                                                                      refine lz_astc hx hb hK hP hD hS 11 0 rfl rfl (lz_vp (x := 157) (n := 160) (by decide) (by decide)) dX12_sheet_87 (fun H locs hP hD hS => ?_)
                                                                                                      refine lv_iinc (v := 38) (lv' := [(4, .int 38), (0, .ref h0), (1, .int 3), (2, .int (-1)), (3, .int x2)]) hx hb dX12_sheet_88 hl (k := 0) rfl (by decide) (by decide) rfl (fun ls hl => ?_)
                                                                                                      refine lv_goto (tgt := 68) hx hb dX12_sheet_91 (by decide) ?_
                                                                                                      refine lv_iload hx hb dX12_sheet_68 (lv_at hl 0 rfl) ?_
                                                                                                      refine lv_bipush (v := 40) hx hb dX12_sheet_70 (by decide) ?_
                                                                                                      refine lv_icmp_ge (tgt := 94) hx hb dX12_sheet_72 (by decide) (fun c1050 => ?_) (fun c1050 => ?_)
                                                                                                      · exact absurd c1050 (by decide)
                                                                                                      · refine lv_aload_n hx hb dX12_sheet_75 rfl (lv_at hl 1 rfl) ?_
                                                                                                        refine va_get (D := D) (ci := 12) (v := .ref h11) (C := RX12) (T := TX12) (N := 24) hx hb hts hin12 hown hK hP 0 rfl rfl 18 (by decide) (hts (.fieldLink RX12 44 "MissedPointsModel" "items" "[I") (by decide +kernel)) (fun _ h9 => h9) rfl dX12_sheet_76 ?_
                                                                                                        refine lv_bipush (v := 40) hx hb dX12_sheet_79 (by decide) ?_
                                                                                                        refine lv_iload_n hx hb dX12_sheet_81 rfl (lv_at hl 2 rfl) ?_
                                                                                                        refine lv_imul hx hb dX12_sheet_82 ?_
                                                                                                        refine lz_top (y := 120) (by decide) ?_
                                                                                                        refine lv_iload hx hb dX12_sheet_83 (lv_at hl 0 rfl) ?_
                                                                                                        refine lv_iadd hx hb dX12_sheet_85 ?_
                                                                                                        refine lz_top (y := 158) (by decide) ?_
                                                                                                        refine lv_iconst (v := 0) hx hb dX12_sheet_86 (by decide) ?_
                                                                                                        refine lz_astc hx hb hK hP hD hS 11 0 rfl rfl (lz_vp (x := 158) (n := 160) (by decide) (by decide)) dX12_sheet_87 (fun H locs hP hD hS => ?_)
                                                                                                        refine lv_iinc (v := 39) (lv' := [(4, .int 39), (0, .ref h0), (1, .int 3), (2, .int (-1)), (3, .int x2)]) hx hb dX12_sheet_88 hl (k := 0) rfl (by decide) (by decide) rfl (fun ls hl => ?_)
                                                                                                        refine lv_goto (tgt := 68) hx hb dX12_sheet_91 (by decide) ?_
                                                                                                        refine lv_iload hx hb dX12_sheet_68 (lv_at hl 0 rfl) ?_
                                                                                                        refine lv_bipush (v := 40) hx hb dX12_sheet_70 (by decide) ?_
                                                                                                        refine lv_icmp_ge (tgt := 94) hx hb dX12_sheet_72 (by decide) (fun c1051 => ?_) (fun c1051 => ?_)
                                                                                                        · exact absurd c1051 (by decide)
                                                                                                        · refine lv_aload_n hx hb dX12_sheet_75 rfl (lv_at hl 1 rfl) ?_
                                                                                                          refine va_get (D := D) (ci := 12) (v := .ref h11) (C := RX12) (T := TX12) (N := 24) hx hb hts hin12 hown hK hP 0 rfl rfl 18 (by decide) (hts (.fieldLink RX12 44 "MissedPointsModel" "items" "[I") (by decide +kernel)) (fun _ h9 => h9) rfl dX12_sheet_76 ?_
                                                                                                          refine lv_bipush (v := 40) hx hb dX12_sheet_79 (by decide) ?_
                                                                                                          refine lv_iload_n hx hb dX12_sheet_81 rfl (lv_at hl 2 rfl) ?_
                                                                                                          refine lv_imul hx hb dX12_sheet_82 ?_
                                                                                                          refine lz_top (y := 120) (by decide) ?_
                                                                                                          refine lv_iload hx hb dX12_sheet_83 (lv_at hl 0 rfl) ?_
                                                                                                          refine lv_iadd hx hb dX12_sheet_85 ?_
                                                                                                          refine lz_top (y := 159) (by decide) ?_
                                                                                                          refine lv_iconst (v := 0) hx hb dX12_sheet_86 (by decide) ?_
                                                                                                          refine lz_astc hx hb hK hP hD hS 11 0 rfl rfl (lz_vp (x := 159) (n := 160) (by decide) (by decide)) dX12_sheet_87 (fun H locs hP hD hS => ?_)
                                                                                                          refine lv_iinc (v := 40) (lv' := [(4, .int 40), (0, .ref h0), (1, .int 3), (2, .int (-1)), (3, .int x2)]) hx hb dX12_sheet_88 hl (k := 0) rfl (by decide) (by decide) rfl (fun ls hl => ?_)
                                                                                                          refine lv_goto (tgt := 68) hx hb dX12_sheet_91 (by decide) ?_
                                                                                                          refine lv_iload hx hb dX12_sheet_68 (lv_at hl 0 rfl) ?_
                                                                                                          refine lv_bipush (v := 40) hx hb dX12_sheet_70 (by decide) ?_
                                                                                                          refine lv_icmp_ge (tgt := 94) hx hb dX12_sheet_72 (by decide) (fun c1052 => ?_) (fun c1052 => ?_)
                                                                                                          · refine lv_iconst (v := 1) hx hb dX12_sheet_94 (by decide) ?_
                                                                                                            have hP9 := hP.sub (ws' := []) [] rfl
                                                                                                            have hD9 := hD.sub (ws' := []) [] (by decide) rfl
                                                                                                            subst hAe
                                                                                                            exact W.iret (v := 1) hx hb hr (fun t ht hW => ⟨⟨_, (), rfl, by rw [if_neg k867, if_neg k869, if_neg k875, if_neg k877, if_pos rfl], by rw [ht]; exact hP9, hD9⟩, hS.F ht⟩) hS.2.2 dX12_sheet_95
                                                                                                          · exact absurd c1052 (by decide)
                · exact absurd c881 (by decide)
              · refine lv_iload_n hx hb dX12_sheet_21 rfl (lv_at hl 3 rfl) ?_
                refine lv_bipush (v := 40) hx hb dX12_sheet_22 (by decide) ?_
                refine lv_icmp_le (tgt := 30) hx hb dX12_sheet_24 (by decide) (fun c1053 => ?_) (fun c1053 => ?_)
                · refine lv_iload_n hx hb dX12_sheet_30 rfl (lv_at hl 2 rfl) ?_
                  refine lv_iconst (v := (-1)) hx hb dX12_sheet_31 (by decide) ?_
                  refine lv_icmp_eq (tgt := 42) hx hb dX12_sheet_32 (by decide) (fun c1054 => ?_) (fun c1054 => ?_)
                  · exact absurd c1054 c880
                  · refine lv_iload_n hx hb dX12_sheet_35 rfl (lv_at hl 3 rfl) ?_
                    refine lv_if_ge (tgt := 42) hx hb dX12_sheet_36 (by decide) (fun c1055 => ?_) (fun c1055 => ?_)
                    · by_cases k1056 : x0 = 0
                      · subst k1056
                        refine lv_aload_n hx hb dX12_sheet_42 rfl (lv_at hl 0 rfl) ?_
                        refine va_get (D := D) (ci := 12) (v := .ref h9) (C := RX12) (T := TX12) (N := 24) hx hb hts hin12 hown hK hP 0 rfl rfl 16 (by decide) (hts (.fieldLink RX12 38 "MissedPointsModel" "sort" "[I") (by decide +kernel)) (fun _ h9 => h9) rfl dX12_sheet_43 ?_
                        refine lv_iload_n hx hb dX12_sheet_46 rfl (lv_at hl 1 rfl) ?_
                        refine lv_iload_n hx hb dX12_sheet_47 rfl (lv_at hl 2 rfl) ?_
                        refine va_iast hx hb hK hP hD hS 9 0 rfl rfl (lz_vp (x := 0) (n := 4) (by decide) (by decide)) dX12_sheet_48 (fun H locs hP hD hS => ?_)
                        have hP : va_P D cls [(h0, .inr (12, [.int 0, .int 1, .ref h1, .ref h2, .ref h3, .ref h4, .ref h5, .ref h6, .ref h7, .ref h8, .int 0, .int 0, .int 0, .int 0, .int 0, .int 0, .ref h9, .ref h10, .ref h11, .ref h12, .ref h13, .ref h14, .ref h15, .int 0])), (h1, .inl (cI, 12, .inl (fun _ => 0))), (h2, .inl (cI, 4096, .inl (fun _ => 0))), (h3, .inl (cI, 4096, .inl (fun _ => 0))), (h4, .inl (cI, 28672, .inl (fun _ => 0))), (h5, .inl (cI, 12, .inl (fun _ => 0))), (h6, .inl (cI, 12, .inl (fun _ => 0))), (h7, .inl (cI, 12, .inl (fun _ => 0))), (h8, .inl (cI, 120, .inl (fun _ => 0))), (h9, .inl (cI, 4, .inl (upd (fun _ => -1) 0 x1))), (h10, .inl (cI, 4, .inl (fun _ => 0))), (h11, .inl (cI, 160, .inl (fun _ => 0))), (h12, .inl (cI, 4, .inl (fun _ => -1))), (h13, .inl (cI, 4, .inl (fun _ => 0))), (h14, .inl (cI, 4, .inl (fun _ => 0))), (h15, .inl (cI, 28, .inl (fun _ => 0)))] H := hP
                        have hD : va_D A [(h0, .inr (12, [.int 0, .int 1, .ref h1, .ref h2, .ref h3, .ref h4, .ref h5, .ref h6, .ref h7, .ref h8, .int 0, .int 0, .int 0, .int 0, .int 0, .int 0, .ref h9, .ref h10, .ref h11, .ref h12, .ref h13, .ref h14, .ref h15, .int 0])), (h1, .inl (cI, 12, .inl (fun _ => 0))), (h2, .inl (cI, 4096, .inl (fun _ => 0))), (h3, .inl (cI, 4096, .inl (fun _ => 0))), (h4, .inl (cI, 28672, .inl (fun _ => 0))), (h5, .inl (cI, 12, .inl (fun _ => 0))), (h6, .inl (cI, 12, .inl (fun _ => 0))), (h7, .inl (cI, 12, .inl (fun _ => 0))), (h8, .inl (cI, 120, .inl (fun _ => 0))), (h9, .inl (cI, 4, .inl (upd (fun _ => -1) 0 x1))), (h10, .inl (cI, 4, .inl (fun _ => 0))), (h11, .inl (cI, 160, .inl (fun _ => 0))), (h12, .inl (cI, 4, .inl (fun _ => -1))), (h13, .inl (cI, 4, .inl (fun _ => 0))), (h14, .inl (cI, 4, .inl (fun _ => 0))), (h15, .inl (cI, 28, .inl (fun _ => 0)))] := hD
                        refine lv_aload_n hx hb dX12_sheet_49 rfl (lv_at hl 0 rfl) ?_
                        refine va_get (D := D) (ci := 12) (v := .ref h10) (C := RX12) (T := TX12) (N := 24) hx hb hts hin12 hown hK hP 0 rfl rfl 17 (by decide) (hts (.fieldLink RX12 41 "MissedPointsModel" "size" "[I") (by decide +kernel)) (fun _ h9 => h9) rfl dX12_sheet_50 ?_
                        refine lv_iload_n hx hb dX12_sheet_53 rfl (lv_at hl 1 rfl) ?_
                        refine lv_iload_n hx hb dX12_sheet_54 rfl (lv_at hl 2 rfl) ?_
                        refine lv_iconst (v := (-1)) hx hb dX12_sheet_55 (by decide) ?_
                        refine lv_icmp_ne (tgt := 63) hx hb dX12_sheet_56 (by decide) (fun c1057 => ?_) (fun c1057 => ?_)
                        · refine lv_iload_n hx hb dX12_sheet_63 rfl (lv_at hl 3 rfl) ?_
                          refine va_iast hx hb hK hP hD hS 10 0 rfl rfl (lz_vp (x := 0) (n := 4) (by decide) (by decide)) dX12_sheet_64 (fun H locs hP hD hS => ?_)
                          have hP : va_P D cls [(h0, .inr (12, [.int 0, .int 1, .ref h1, .ref h2, .ref h3, .ref h4, .ref h5, .ref h6, .ref h7, .ref h8, .int 0, .int 0, .int 0, .int 0, .int 0, .int 0, .ref h9, .ref h10, .ref h11, .ref h12, .ref h13, .ref h14, .ref h15, .int 0])), (h1, .inl (cI, 12, .inl (fun _ => 0))), (h2, .inl (cI, 4096, .inl (fun _ => 0))), (h3, .inl (cI, 4096, .inl (fun _ => 0))), (h4, .inl (cI, 28672, .inl (fun _ => 0))), (h5, .inl (cI, 12, .inl (fun _ => 0))), (h6, .inl (cI, 12, .inl (fun _ => 0))), (h7, .inl (cI, 12, .inl (fun _ => 0))), (h8, .inl (cI, 120, .inl (fun _ => 0))), (h9, .inl (cI, 4, .inl (upd (fun _ => -1) 0 x1))), (h10, .inl (cI, 4, .inl (upd (fun _ => 0) 0 x2))), (h11, .inl (cI, 160, .inl (fun _ => 0))), (h12, .inl (cI, 4, .inl (fun _ => -1))), (h13, .inl (cI, 4, .inl (fun _ => 0))), (h14, .inl (cI, 4, .inl (fun _ => 0))), (h15, .inl (cI, 28, .inl (fun _ => 0)))] H := hP
                          have hD : va_D A [(h0, .inr (12, [.int 0, .int 1, .ref h1, .ref h2, .ref h3, .ref h4, .ref h5, .ref h6, .ref h7, .ref h8, .int 0, .int 0, .int 0, .int 0, .int 0, .int 0, .ref h9, .ref h10, .ref h11, .ref h12, .ref h13, .ref h14, .ref h15, .int 0])), (h1, .inl (cI, 12, .inl (fun _ => 0))), (h2, .inl (cI, 4096, .inl (fun _ => 0))), (h3, .inl (cI, 4096, .inl (fun _ => 0))), (h4, .inl (cI, 28672, .inl (fun _ => 0))), (h5, .inl (cI, 12, .inl (fun _ => 0))), (h6, .inl (cI, 12, .inl (fun _ => 0))), (h7, .inl (cI, 12, .inl (fun _ => 0))), (h8, .inl (cI, 120, .inl (fun _ => 0))), (h9, .inl (cI, 4, .inl (upd (fun _ => -1) 0 x1))), (h10, .inl (cI, 4, .inl (upd (fun _ => 0) 0 x2))), (h11, .inl (cI, 160, .inl (fun _ => 0))), (h12, .inl (cI, 4, .inl (fun _ => -1))), (h13, .inl (cI, 4, .inl (fun _ => 0))), (h14, .inl (cI, 4, .inl (fun _ => 0))), (h15, .inl (cI, 28, .inl (fun _ => 0)))] := hD
                          refine lv_iconst (v := 0) hx hb dX12_sheet_65 (by decide) ?_
                          refine lv_istore (lv' := [(4, .int 0), (0, .ref h0), (1, .int 0), (2, .int x1), (3, .int x2)]) hx hb dX12_sheet_66 hl (by decide) rfl (fun ls hl => ?_)
                          refine lv_iload hx hb dX12_sheet_68 (lv_at hl 0 rfl) ?_
                          refine lv_bipush (v := 40) hx hb dX12_sheet_70 (by decide) ?_
                          refine lv_icmp_ge (tgt := 94) hx hb dX12_sheet_72 (by decide) (fun c1058 => ?_) (fun c1058 => ?_)
                          · exact absurd c1058 (by decide)
                          · refine lv_aload_n hx hb dX12_sheet_75 rfl (lv_at hl 1 rfl) ?_
                            refine va_get (D := D) (ci := 12) (v := .ref h11) (C := RX12) (T := TX12) (N := 24) hx hb hts hin12 hown hK hP 0 rfl rfl 18 (by decide) (hts (.fieldLink RX12 44 "MissedPointsModel" "items" "[I") (by decide +kernel)) (fun _ h9 => h9) rfl dX12_sheet_76 ?_
                            refine lv_bipush (v := 40) hx hb dX12_sheet_79 (by decide) ?_
                            refine lv_iload_n hx hb dX12_sheet_81 rfl (lv_at hl 2 rfl) ?_
                            refine lv_imul hx hb dX12_sheet_82 ?_
                            refine lz_top (y := 0) (by decide) ?_
                            refine lv_iload hx hb dX12_sheet_83 (lv_at hl 0 rfl) ?_
                            refine lv_iadd hx hb dX12_sheet_85 ?_
                            refine lz_top (y := 0) (by decide) ?_
                            refine lv_iconst (v := 0) hx hb dX12_sheet_86 (by decide) ?_
                            refine lz_astc hx hb hK hP hD hS 11 0 rfl rfl (lz_vp (x := 0) (n := 160) (by decide) (by decide)) dX12_sheet_87 (fun H locs hP hD hS => ?_)
                            refine lv_iinc (v := 1) (lv' := [(4, .int 1), (0, .ref h0), (1, .int 0), (2, .int x1), (3, .int x2)]) hx hb dX12_sheet_88 hl (k := 0) rfl (by decide) (by decide) rfl (fun ls hl => ?_)
                            refine lv_goto (tgt := 68) hx hb dX12_sheet_91 (by decide) ?_
                            refine lv_iload hx hb dX12_sheet_68 (lv_at hl 0 rfl) ?_
                            refine lv_bipush (v := 40) hx hb dX12_sheet_70 (by decide) ?_
                            refine lv_icmp_ge (tgt := 94) hx hb dX12_sheet_72 (by decide) (fun c1059 => ?_) (fun c1059 => ?_)
                            · exact absurd c1059 (by decide)
                            · refine lv_aload_n hx hb dX12_sheet_75 rfl (lv_at hl 1 rfl) ?_
                              refine va_get (D := D) (ci := 12) (v := .ref h11) (C := RX12) (T := TX12) (N := 24) hx hb hts hin12 hown hK hP 0 rfl rfl 18 (by decide) (hts (.fieldLink RX12 44 "MissedPointsModel" "items" "[I") (by decide +kernel)) (fun _ h9 => h9) rfl dX12_sheet_76 ?_
                              refine lv_bipush (v := 40) hx hb dX12_sheet_79 (by decide) ?_
                              refine lv_iload_n hx hb dX12_sheet_81 rfl (lv_at hl 2 rfl) ?_
                              refine lv_imul hx hb dX12_sheet_82 ?_
                              refine lz_top (y := 0) (by decide) ?_
                              refine lv_iload hx hb dX12_sheet_83 (lv_at hl 0 rfl) ?_
                              refine lv_iadd hx hb dX12_sheet_85 ?_
                              refine lz_top (y := 1) (by decide) ?_
                              refine lv_iconst (v := 0) hx hb dX12_sheet_86 (by decide) ?_
                              refine lz_astc hx hb hK hP hD hS 11 0 rfl rfl (lz_vp (x := 1) (n := 160) (by decide) (by decide)) dX12_sheet_87 (fun H locs hP hD hS => ?_)
                              refine lv_iinc (v := 2) (lv' := [(4, .int 2), (0, .ref h0), (1, .int 0), (2, .int x1), (3, .int x2)]) hx hb dX12_sheet_88 hl (k := 0) rfl (by decide) (by decide) rfl (fun ls hl => ?_)
                              refine lv_goto (tgt := 68) hx hb dX12_sheet_91 (by decide) ?_
                              refine lv_iload hx hb dX12_sheet_68 (lv_at hl 0 rfl) ?_
                              refine lv_bipush (v := 40) hx hb dX12_sheet_70 (by decide) ?_
                              refine lv_icmp_ge (tgt := 94) hx hb dX12_sheet_72 (by decide) (fun c1060 => ?_) (fun c1060 => ?_)
                              · exact absurd c1060 (by decide)
                              · refine lv_aload_n hx hb dX12_sheet_75 rfl (lv_at hl 1 rfl) ?_
                                refine va_get (D := D) (ci := 12) (v := .ref h11) (C := RX12) (T := TX12) (N := 24) hx hb hts hin12 hown hK hP 0 rfl rfl 18 (by decide) (hts (.fieldLink RX12 44 "MissedPointsModel" "items" "[I") (by decide +kernel)) (fun _ h9 => h9) rfl dX12_sheet_76 ?_
                                refine lv_bipush (v := 40) hx hb dX12_sheet_79 (by decide) ?_
                                refine lv_iload_n hx hb dX12_sheet_81 rfl (lv_at hl 2 rfl) ?_
                                refine lv_imul hx hb dX12_sheet_82 ?_
                                refine lz_top (y := 0) (by decide) ?_
                                refine lv_iload hx hb dX12_sheet_83 (lv_at hl 0 rfl) ?_
                                refine lv_iadd hx hb dX12_sheet_85 ?_
                                refine lz_top (y := 2) (by decide) ?_
                                refine lv_iconst (v := 0) hx hb dX12_sheet_86 (by decide) ?_
                                refine lz_astc hx hb hK hP hD hS 11 0 rfl rfl (lz_vp (x := 2) (n := 160) (by decide) (by decide)) dX12_sheet_87 (fun H locs hP hD hS => ?_)
                                refine lv_iinc (v := 3) (lv' := [(4, .int 3), (0, .ref h0), (1, .int 0), (2, .int x1), (3, .int x2)]) hx hb dX12_sheet_88 hl (k := 0) rfl (by decide) (by decide) rfl (fun ls hl => ?_)
                                refine lv_goto (tgt := 68) hx hb dX12_sheet_91 (by decide) ?_
                                refine lv_iload hx hb dX12_sheet_68 (lv_at hl 0 rfl) ?_
                                refine lv_bipush (v := 40) hx hb dX12_sheet_70 (by decide) ?_
                                refine lv_icmp_ge (tgt := 94) hx hb dX12_sheet_72 (by decide) (fun c1061 => ?_) (fun c1061 => ?_)
                                · exact absurd c1061 (by decide)
                                · refine lv_aload_n hx hb dX12_sheet_75 rfl (lv_at hl 1 rfl) ?_
                                  refine va_get (D := D) (ci := 12) (v := .ref h11) (C := RX12) (T := TX12) (N := 24) hx hb hts hin12 hown hK hP 0 rfl rfl 18 (by decide) (hts (.fieldLink RX12 44 "MissedPointsModel" "items" "[I") (by decide +kernel)) (fun _ h9 => h9) rfl dX12_sheet_76 ?_
                                  refine lv_bipush (v := 40) hx hb dX12_sheet_79 (by decide) ?_
                                  refine lv_iload_n hx hb dX12_sheet_81 rfl (lv_at hl 2 rfl) ?_
                                  refine lv_imul hx hb dX12_sheet_82 ?_
                                  refine lz_top (y := 0) (by decide) ?_
                                  refine lv_iload hx hb dX12_sheet_83 (lv_at hl 0 rfl) ?_
                                  refine lv_iadd hx hb dX12_sheet_85 ?_
                                  refine lz_top (y := 3) (by decide) ?_
                                  refine lv_iconst (v := 0) hx hb dX12_sheet_86 (by decide) ?_
                                  refine lz_astc hx hb hK hP hD hS 11 0 rfl rfl (lz_vp (x := 3) (n := 160) (by decide) (by decide)) dX12_sheet_87 (fun H locs hP hD hS => ?_)
                                  refine lv_iinc (v := 4) (lv' := [(4, .int 4), (0, .ref h0), (1, .int 0), (2, .int x1), (3, .int x2)]) hx hb dX12_sheet_88 hl (k := 0) rfl (by decide) (by decide) rfl (fun ls hl => ?_)
                                  refine lv_goto (tgt := 68) hx hb dX12_sheet_91 (by decide) ?_
                                  refine lv_iload hx hb dX12_sheet_68 (lv_at hl 0 rfl) ?_
                                  refine lv_bipush (v := 40) hx hb dX12_sheet_70 (by decide) ?_
                                  refine lv_icmp_ge (tgt := 94) hx hb dX12_sheet_72 (by decide) (fun c1062 => ?_) (fun c1062 => ?_)
                                  · exact absurd c1062 (by decide)
                                  · refine lv_aload_n hx hb dX12_sheet_75 rfl (lv_at hl 1 rfl) ?_
                                    refine va_get (D := D) (ci := 12) (v := .ref h11) (C := RX12) (T := TX12) (N := 24) hx hb hts hin12 hown hK hP 0 rfl rfl 18 (by decide) (hts (.fieldLink RX12 44 "MissedPointsModel" "items" "[I") (by decide +kernel)) (fun _ h9 => h9) rfl dX12_sheet_76 ?_
                                    refine lv_bipush (v := 40) hx hb dX12_sheet_79 (by decide) ?_
                                    refine lv_iload_n hx hb dX12_sheet_81 rfl (lv_at hl 2 rfl) ?_
                                    refine lv_imul hx hb dX12_sheet_82 ?_
                                    refine lz_top (y := 0) (by decide) ?_
                                    refine lv_iload hx hb dX12_sheet_83 (lv_at hl 0 rfl) ?_
                                    refine lv_iadd hx hb dX12_sheet_85 ?_
                                    refine lz_top (y := 4) (by decide) ?_
                                    refine lv_iconst (v := 0) hx hb dX12_sheet_86 (by decide) ?_
                                    refine lz_astc hx hb hK hP hD hS 11 0 rfl rfl (lz_vp (x := 4) (n := 160) (by decide) (by decide)) dX12_sheet_87 (fun H locs hP hD hS => ?_)
                                    refine lv_iinc (v := 5) (lv' := [(4, .int 5), (0, .ref h0), (1, .int 0), (2, .int x1), (3, .int x2)]) hx hb dX12_sheet_88 hl (k := 0) rfl (by decide) (by decide) rfl (fun ls hl => ?_)
                                    refine lv_goto (tgt := 68) hx hb dX12_sheet_91 (by decide) ?_
                                    refine lv_iload hx hb dX12_sheet_68 (lv_at hl 0 rfl) ?_
                                    refine lv_bipush (v := 40) hx hb dX12_sheet_70 (by decide) ?_
                                    refine lv_icmp_ge (tgt := 94) hx hb dX12_sheet_72 (by decide) (fun c1063 => ?_) (fun c1063 => ?_)
                                    · exact absurd c1063 (by decide)
                                    · refine lv_aload_n hx hb dX12_sheet_75 rfl (lv_at hl 1 rfl) ?_
                                      refine va_get (D := D) (ci := 12) (v := .ref h11) (C := RX12) (T := TX12) (N := 24) hx hb hts hin12 hown hK hP 0 rfl rfl 18 (by decide) (hts (.fieldLink RX12 44 "MissedPointsModel" "items" "[I") (by decide +kernel)) (fun _ h9 => h9) rfl dX12_sheet_76 ?_
                                      refine lv_bipush (v := 40) hx hb dX12_sheet_79 (by decide) ?_
                                      refine lv_iload_n hx hb dX12_sheet_81 rfl (lv_at hl 2 rfl) ?_
                                      refine lv_imul hx hb dX12_sheet_82 ?_
                                      refine lz_top (y := 0) (by decide) ?_
                                      refine lv_iload hx hb dX12_sheet_83 (lv_at hl 0 rfl) ?_
                                      refine lv_iadd hx hb dX12_sheet_85 ?_
                                      refine lz_top (y := 5) (by decide) ?_
                                      refine lv_iconst (v := 0) hx hb dX12_sheet_86 (by decide) ?_
                                      refine lz_astc hx hb hK hP hD hS 11 0 rfl rfl (lz_vp (x := 5) (n := 160) (by decide) (by decide)) dX12_sheet_87 (fun H locs hP hD hS => ?_)
                                      refine lv_iinc (v := 6) (lv' := [(4, .int 6), (0, .ref h0), (1, .int 0), (2, .int x1), (3, .int x2)]) hx hb dX12_sheet_88 hl (k := 0) rfl (by decide) (by decide) rfl (fun ls hl => ?_)
                                      refine lv_goto (tgt := 68) hx hb dX12_sheet_91 (by decide) ?_
                                      refine lv_iload hx hb dX12_sheet_68 (lv_at hl 0 rfl) ?_
                                      refine lv_bipush (v := 40) hx hb dX12_sheet_70 (by decide) ?_
                                      refine lv_icmp_ge (tgt := 94) hx hb dX12_sheet_72 (by decide) (fun c1064 => ?_) (fun c1064 => ?_)
                                      · exact absurd c1064 (by decide)
                                      · refine lv_aload_n hx hb dX12_sheet_75 rfl (lv_at hl 1 rfl) ?_
                                        refine va_get (D := D) (ci := 12) (v := .ref h11) (C := RX12) (T := TX12) (N := 24) hx hb hts hin12 hown hK hP 0 rfl rfl 18 (by decide) (hts (.fieldLink RX12 44 "MissedPointsModel" "items" "[I") (by decide +kernel)) (fun _ h9 => h9) rfl dX12_sheet_76 ?_
                                        refine lv_bipush (v := 40) hx hb dX12_sheet_79 (by decide) ?_
                                        refine lv_iload_n hx hb dX12_sheet_81 rfl (lv_at hl 2 rfl) ?_
                                        refine lv_imul hx hb dX12_sheet_82 ?_
                                        refine lz_top (y := 0) (by decide) ?_
                                        refine lv_iload hx hb dX12_sheet_83 (lv_at hl 0 rfl) ?_
                                        refine lv_iadd hx hb dX12_sheet_85 ?_
                                        refine lz_top (y := 6) (by decide) ?_
                                        refine lv_iconst (v := 0) hx hb dX12_sheet_86 (by decide) ?_
                                        refine lz_astc hx hb hK hP hD hS 11 0 rfl rfl (lz_vp (x := 6) (n := 160) (by decide) (by decide)) dX12_sheet_87 (fun H locs hP hD hS => ?_)
                                        refine lv_iinc (v := 7) (lv' := [(4, .int 7), (0, .ref h0), (1, .int 0), (2, .int x1), (3, .int x2)]) hx hb dX12_sheet_88 hl (k := 0) rfl (by decide) (by decide) rfl (fun ls hl => ?_)
                                        refine lv_goto (tgt := 68) hx hb dX12_sheet_91 (by decide) ?_
                                        refine lv_iload hx hb dX12_sheet_68 (lv_at hl 0 rfl) ?_
                                        refine lv_bipush (v := 40) hx hb dX12_sheet_70 (by decide) ?_
                                        refine lv_icmp_ge (tgt := 94) hx hb dX12_sheet_72 (by decide) (fun c1065 => ?_) (fun c1065 => ?_)
                                        · exact absurd c1065 (by decide)
                                        · refine lv_aload_n hx hb dX12_sheet_75 rfl (lv_at hl 1 rfl) ?_
                                          refine va_get (D := D) (ci := 12) (v := .ref h11) (C := RX12) (T := TX12) (N := 24) hx hb hts hin12 hown hK hP 0 rfl rfl 18 (by decide) (hts (.fieldLink RX12 44 "MissedPointsModel" "items" "[I") (by decide +kernel)) (fun _ h9 => h9) rfl dX12_sheet_76 ?_
                                          refine lv_bipush (v := 40) hx hb dX12_sheet_79 (by decide) ?_
                                          refine lv_iload_n hx hb dX12_sheet_81 rfl (lv_at hl 2 rfl) ?_
                                          refine lv_imul hx hb dX12_sheet_82 ?_
                                          refine lz_top (y := 0) (by decide) ?_
                                          refine lv_iload hx hb dX12_sheet_83 (lv_at hl 0 rfl) ?_
                                          refine lv_iadd hx hb dX12_sheet_85 ?_
                                          refine lz_top (y := 7) (by decide) ?_
                                          refine lv_iconst (v := 0) hx hb dX12_sheet_86 (by decide) ?_
                                          refine lz_astc hx hb hK hP hD hS 11 0 rfl rfl (lz_vp (x := 7) (n := 160) (by decide) (by decide)) dX12_sheet_87 (fun H locs hP hD hS => ?_)
                                          refine lv_iinc (v := 8) (lv' := [(4, .int 8), (0, .ref h0), (1, .int 0), (2, .int x1), (3, .int x2)]) hx hb dX12_sheet_88 hl (k := 0) rfl (by decide) (by decide) rfl (fun ls hl => ?_)
                                          refine lv_goto (tgt := 68) hx hb dX12_sheet_91 (by decide) ?_
                                          refine lv_iload hx hb dX12_sheet_68 (lv_at hl 0 rfl) ?_
                                          refine lv_bipush (v := 40) hx hb dX12_sheet_70 (by decide) ?_
                                          refine lv_icmp_ge (tgt := 94) hx hb dX12_sheet_72 (by decide) (fun c1066 => ?_) (fun c1066 => ?_)
                                          · exact absurd c1066 (by decide)
                                          · refine lv_aload_n hx hb dX12_sheet_75 rfl (lv_at hl 1 rfl) ?_
                                            refine va_get (D := D) (ci := 12) (v := .ref h11) (C := RX12) (T := TX12) (N := 24) hx hb hts hin12 hown hK hP 0 rfl rfl 18 (by decide) (hts (.fieldLink RX12 44 "MissedPointsModel" "items" "[I") (by decide +kernel)) (fun _ h9 => h9) rfl dX12_sheet_76 ?_
                                            refine lv_bipush (v := 40) hx hb dX12_sheet_79 (by decide) ?_
                                            refine lv_iload_n hx hb dX12_sheet_81 rfl (lv_at hl 2 rfl) ?_
                                            refine lv_imul hx hb dX12_sheet_82 ?_
                                            refine lz_top (y := 0) (by decide) ?_
                                            refine lv_iload hx hb dX12_sheet_83 (lv_at hl 0 rfl) ?_
                                            refine lv_iadd hx hb dX12_sheet_85 ?_
                                            refine lz_top (y := 8) (by decide) ?_
                                            refine lv_iconst (v := 0) hx hb dX12_sheet_86 (by decide) ?_
                                            refine lz_astc hx hb hK hP hD hS 11 0 rfl rfl (lz_vp (x := 8) (n := 160) (by decide) (by decide)) dX12_sheet_87 (fun H locs hP hD hS => ?_)
                                            refine lv_iinc (v := 9) (lv' := [(4, .int 9), (0, .ref h0), (1, .int 0), (2, .int x1), (3, .int x2)]) hx hb dX12_sheet_88 hl (k := 0) rfl (by decide) (by decide) rfl (fun ls hl => ?_)
                                            refine lv_goto (tgt := 68) hx hb dX12_sheet_91 (by decide) ?_
                                            refine lv_iload hx hb dX12_sheet_68 (lv_at hl 0 rfl) ?_
                                            refine lv_bipush (v := 40) hx hb dX12_sheet_70 (by decide) ?_
                                            refine lv_icmp_ge (tgt := 94) hx hb dX12_sheet_72 (by decide) (fun c1067 => ?_) (fun c1067 => ?_)
                                            · exact absurd c1067 (by decide)
                                            · refine lv_aload_n hx hb dX12_sheet_75 rfl (lv_at hl 1 rfl) ?_
                                              refine va_get (D := D) (ci := 12) (v := .ref h11) (C := RX12) (T := TX12) (N := 24) hx hb hts hin12 hown hK hP 0 rfl rfl 18 (by decide) (hts (.fieldLink RX12 44 "MissedPointsModel" "items" "[I") (by decide +kernel)) (fun _ h9 => h9) rfl dX12_sheet_76 ?_
                                              refine lv_bipush (v := 40) hx hb dX12_sheet_79 (by decide) ?_
                                              refine lv_iload_n hx hb dX12_sheet_81 rfl (lv_at hl 2 rfl) ?_
                                              refine lv_imul hx hb dX12_sheet_82 ?_
                                              refine lz_top (y := 0) (by decide) ?_
                                              refine lv_iload hx hb dX12_sheet_83 (lv_at hl 0 rfl) ?_
                                              refine lv_iadd hx hb dX12_sheet_85 ?_
                                              refine lz_top (y := 9) (by decide) ?_
                                              refine lv_iconst (v := 0) hx hb dX12_sheet_86 (by decide) ?_
                                              refine lz_astc hx hb hK hP hD hS 11 0 rfl rfl (lz_vp (x := 9) (n := 160) (by decide) (by decide)) dX12_sheet_87 (fun H locs hP hD hS => ?_)
                                              refine lv_iinc (v := 10) (lv' := [(4, .int 10), (0, .ref h0), (1, .int 0), (2, .int x1), (3, .int x2)]) hx hb dX12_sheet_88 hl (k := 0) rfl (by decide) (by decide) rfl (fun ls hl => ?_)
                                              refine lv_goto (tgt := 68) hx hb dX12_sheet_91 (by decide) ?_
                                              refine lv_iload hx hb dX12_sheet_68 (lv_at hl 0 rfl) ?_
                                              refine lv_bipush (v := 40) hx hb dX12_sheet_70 (by decide) ?_
                                              refine lv_icmp_ge (tgt := 94) hx hb dX12_sheet_72 (by decide) (fun c1068 => ?_) (fun c1068 => ?_)
                                              · exact absurd c1068 (by decide)
                                              · refine lv_aload_n hx hb dX12_sheet_75 rfl (lv_at hl 1 rfl) ?_
                                                refine va_get (D := D) (ci := 12) (v := .ref h11) (C := RX12) (T := TX12) (N := 24) hx hb hts hin12 hown hK hP 0 rfl rfl 18 (by decide) (hts (.fieldLink RX12 44 "MissedPointsModel" "items" "[I") (by decide +kernel)) (fun _ h9 => h9) rfl dX12_sheet_76 ?_
                                                refine lv_bipush (v := 40) hx hb dX12_sheet_79 (by decide) ?_
                                                refine lv_iload_n hx hb dX12_sheet_81 rfl (lv_at hl 2 rfl) ?_
                                                refine lv_imul hx hb dX12_sheet_82 ?_
                                                refine lz_top (y := 0) (by decide) ?_
                                                refine lv_iload hx hb dX12_sheet_83 (lv_at hl 0 rfl) ?_
                                                refine lv_iadd hx hb dX12_sheet_85 ?_
                                                refine lz_top (y := 10) (by decide) ?_
                                                refine lv_iconst (v := 0) hx hb dX12_sheet_86 (by decide) ?_
                                                refine lz_astc hx hb hK hP hD hS 11 0 rfl rfl (lz_vp (x := 10) (n := 160) (by decide) (by decide)) dX12_sheet_87 (fun H locs hP hD hS => ?_)
                                                refine lv_iinc (v := 11) (lv' := [(4, .int 11), (0, .ref h0), (1, .int 0), (2, .int x1), (3, .int x2)]) hx hb dX12_sheet_88 hl (k := 0) rfl (by decide) (by decide) rfl (fun ls hl => ?_)
                                                refine lv_goto (tgt := 68) hx hb dX12_sheet_91 (by decide) ?_
                                                refine lv_iload hx hb dX12_sheet_68 (lv_at hl 0 rfl) ?_
                                                refine lv_bipush (v := 40) hx hb dX12_sheet_70 (by decide) ?_
                                                refine lv_icmp_ge (tgt := 94) hx hb dX12_sheet_72 (by decide) (fun c1069 => ?_) (fun c1069 => ?_)
                                                · exact absurd c1069 (by decide)
                                                · refine lv_aload_n hx hb dX12_sheet_75 rfl (lv_at hl 1 rfl) ?_
                                                  refine va_get (D := D) (ci := 12) (v := .ref h11) (C := RX12) (T := TX12) (N := 24) hx hb hts hin12 hown hK hP 0 rfl rfl 18 (by decide) (hts (.fieldLink RX12 44 "MissedPointsModel" "items" "[I") (by decide +kernel)) (fun _ h9 => h9) rfl dX12_sheet_76 ?_
                                                  refine lv_bipush (v := 40) hx hb dX12_sheet_79 (by decide) ?_
                                                  refine lv_iload_n hx hb dX12_sheet_81 rfl (lv_at hl 2 rfl) ?_
                                                  refine lv_imul hx hb dX12_sheet_82 ?_
                                                  refine lz_top (y := 0) (by decide) ?_
                                                  refine lv_iload hx hb dX12_sheet_83 (lv_at hl 0 rfl) ?_
                                                  refine lv_iadd hx hb dX12_sheet_85 ?_
                                                  refine lz_top (y := 11) (by decide) ?_
                                                  refine lv_iconst (v := 0) hx hb dX12_sheet_86 (by decide) ?_
                                                  refine lz_astc hx hb hK hP hD hS 11 0 rfl rfl (lz_vp (x := 11) (n := 160) (by decide) (by decide)) dX12_sheet_87 (fun H locs hP hD hS => ?_)
                                                  refine lv_iinc (v := 12) (lv' := [(4, .int 12), (0, .ref h0), (1, .int 0), (2, .int x1), (3, .int x2)]) hx hb dX12_sheet_88 hl (k := 0) rfl (by decide) (by decide) rfl (fun ls hl => ?_)
                                                  refine lv_goto (tgt := 68) hx hb dX12_sheet_91 (by decide) ?_
                                                  refine lv_iload hx hb dX12_sheet_68 (lv_at hl 0 rfl) ?_
                                                  refine lv_bipush (v := 40) hx hb dX12_sheet_70 (by decide) ?_
                                                  refine lv_icmp_ge (tgt := 94) hx hb dX12_sheet_72 (by decide) (fun c1070 => ?_) (fun c1070 => ?_)
                                                  · exact absurd c1070 (by decide)
                                                  · refine lv_aload_n hx hb dX12_sheet_75 rfl (lv_at hl 1 rfl) ?_
                                                    refine va_get (D := D) (ci := 12) (v := .ref h11) (C := RX12) (T := TX12) (N := 24) hx hb hts hin12 hown hK hP 0 rfl rfl 18 (by decide) (hts (.fieldLink RX12 44 "MissedPointsModel" "items" "[I") (by decide +kernel)) (fun _ h9 => h9) rfl dX12_sheet_76 ?_
                                                    refine lv_bipush (v := 40) hx hb dX12_sheet_79 (by decide) ?_
                                                    refine lv_iload_n hx hb dX12_sheet_81 rfl (lv_at hl 2 rfl) ?_
                                                    refine lv_imul hx hb dX12_sheet_82 ?_
                                                    refine lz_top (y := 0) (by decide) ?_
                                                    refine lv_iload hx hb dX12_sheet_83 (lv_at hl 0 rfl) ?_
                                                    refine lv_iadd hx hb dX12_sheet_85 ?_
                                                    refine lz_top (y := 12) (by decide) ?_
                                                    refine lv_iconst (v := 0) hx hb dX12_sheet_86 (by decide) ?_
                                                    refine lz_astc hx hb hK hP hD hS 11 0 rfl rfl (lz_vp (x := 12) (n := 160) (by decide) (by decide)) dX12_sheet_87 (fun H locs hP hD hS => ?_)
                                                    refine lv_iinc (v := 13) (lv' := [(4, .int 13), (0, .ref h0), (1, .int 0), (2, .int x1), (3, .int x2)]) hx hb dX12_sheet_88 hl (k := 0) rfl (by decide) (by decide) rfl (fun ls hl => ?_)
                                                    refine lv_goto (tgt := 68) hx hb dX12_sheet_91 (by decide) ?_
                                                    refine lv_iload hx hb dX12_sheet_68 (lv_at hl 0 rfl) ?_
                                                    refine lv_bipush (v := 40) hx hb dX12_sheet_70 (by decide) ?_
                                                    refine lv_icmp_ge (tgt := 94) hx hb dX12_sheet_72 (by decide) (fun c1071 => ?_) (fun c1071 => ?_)
                                                    · exact absurd c1071 (by decide)
                                                    · refine lv_aload_n hx hb dX12_sheet_75 rfl (lv_at hl 1 rfl) ?_
                                                      refine va_get (D := D) (ci := 12) (v := .ref h11) (C := RX12) (T := TX12) (N := 24) hx hb hts hin12 hown hK hP 0 rfl rfl 18 (by decide) (hts (.fieldLink RX12 44 "MissedPointsModel" "items" "[I") (by decide +kernel)) (fun _ h9 => h9) rfl dX12_sheet_76 ?_
                                                      refine lv_bipush (v := 40) hx hb dX12_sheet_79 (by decide) ?_
                                                      refine lv_iload_n hx hb dX12_sheet_81 rfl (lv_at hl 2 rfl) ?_
                                                      refine lv_imul hx hb dX12_sheet_82 ?_
                                                      refine lz_top (y := 0) (by decide) ?_
                                                      refine lv_iload hx hb dX12_sheet_83 (lv_at hl 0 rfl) ?_
                                                      refine lv_iadd hx hb dX12_sheet_85 ?_
                                                      refine lz_top (y := 13) (by decide) ?_
                                                      refine lv_iconst (v := 0) hx hb dX12_sheet_86 (by decide) ?_
                                                      refine lz_astc hx hb hK hP hD hS 11 0 rfl rfl (lz_vp (x := 13) (n := 160) (by decide) (by decide)) dX12_sheet_87 (fun H locs hP hD hS => ?_)
                                                      refine lv_iinc (v := 14) (lv' := [(4, .int 14), (0, .ref h0), (1, .int 0), (2, .int x1), (3, .int x2)]) hx hb dX12_sheet_88 hl (k := 0) rfl (by decide) (by decide) rfl (fun ls hl => ?_)
                                                      refine lv_goto (tgt := 68) hx hb dX12_sheet_91 (by decide) ?_
                                                      refine lv_iload hx hb dX12_sheet_68 (lv_at hl 0 rfl) ?_
                                                      refine lv_bipush (v := 40) hx hb dX12_sheet_70 (by decide) ?_
                                                      refine lv_icmp_ge (tgt := 94) hx hb dX12_sheet_72 (by decide) (fun c1072 => ?_) (fun c1072 => ?_)
                                                      · exact absurd c1072 (by decide)
                                                      · refine lv_aload_n hx hb dX12_sheet_75 rfl (lv_at hl 1 rfl) ?_
                                                        refine va_get (D := D) (ci := 12) (v := .ref h11) (C := RX12) (T := TX12) (N := 24) hx hb hts hin12 hown hK hP 0 rfl rfl 18 (by decide) (hts (.fieldLink RX12 44 "MissedPointsModel" "items" "[I") (by decide +kernel)) (fun _ h9 => h9) rfl dX12_sheet_76 ?_
                                                        refine lv_bipush (v := 40) hx hb dX12_sheet_79 (by decide) ?_
                                                        refine lv_iload_n hx hb dX12_sheet_81 rfl (lv_at hl 2 rfl) ?_
                                                        refine lv_imul hx hb dX12_sheet_82 ?_
                                                        refine lz_top (y := 0) (by decide) ?_
                                                        refine lv_iload hx hb dX12_sheet_83 (lv_at hl 0 rfl) ?_
                                                        refine lv_iadd hx hb dX12_sheet_85 ?_
                                                        refine lz_top (y := 14) (by decide) ?_
                                                        refine lv_iconst (v := 0) hx hb dX12_sheet_86 (by decide) ?_
                                                        refine lz_astc hx hb hK hP hD hS 11 0 rfl rfl (lz_vp (x := 14) (n := 160) (by decide) (by decide)) dX12_sheet_87 (fun H locs hP hD hS => ?_)
                                                        refine lv_iinc (v := 15) (lv' := [(4, .int 15), (0, .ref h0), (1, .int 0), (2, .int x1), (3, .int x2)]) hx hb dX12_sheet_88 hl (k := 0) rfl (by decide) (by decide) rfl (fun ls hl => ?_)
                                                        refine lv_goto (tgt := 68) hx hb dX12_sheet_91 (by decide) ?_
                                                        refine lv_iload hx hb dX12_sheet_68 (lv_at hl 0 rfl) ?_
                                                        refine lv_bipush (v := 40) hx hb dX12_sheet_70 (by decide) ?_
                                                        refine lv_icmp_ge (tgt := 94) hx hb dX12_sheet_72 (by decide) (fun c1073 => ?_) (fun c1073 => ?_)
                                                        · exact absurd c1073 (by decide)
                                                        · refine lv_aload_n hx hb dX12_sheet_75 rfl (lv_at hl 1 rfl) ?_
                                                          refine va_get (D := D) (ci := 12) (v := .ref h11) (C := RX12) (T := TX12) (N := 24) hx hb hts hin12 hown hK hP 0 rfl rfl 18 (by decide) (hts (.fieldLink RX12 44 "MissedPointsModel" "items" "[I") (by decide +kernel)) (fun _ h9 => h9) rfl dX12_sheet_76 ?_
                                                          refine lv_bipush (v := 40) hx hb dX12_sheet_79 (by decide) ?_
                                                          refine lv_iload_n hx hb dX12_sheet_81 rfl (lv_at hl 2 rfl) ?_
                                                          refine lv_imul hx hb dX12_sheet_82 ?_
                                                          refine lz_top (y := 0) (by decide) ?_
                                                          refine lv_iload hx hb dX12_sheet_83 (lv_at hl 0 rfl) ?_
                                                          refine lv_iadd hx hb dX12_sheet_85 ?_
                                                          refine lz_top (y := 15) (by decide) ?_
                                                          refine lv_iconst (v := 0) hx hb dX12_sheet_86 (by decide) ?_
                                                          refine lz_astc hx hb hK hP hD hS 11 0 rfl rfl (lz_vp (x := 15) (n := 160) (by decide) (by decide)) dX12_sheet_87 (fun H locs hP hD hS => ?_)
                                                          refine lv_iinc (v := 16) (lv' := [(4, .int 16), (0, .ref h0), (1, .int 0), (2, .int x1), (3, .int x2)]) hx hb dX12_sheet_88 hl (k := 0) rfl (by decide) (by decide) rfl (fun ls hl => ?_)
                                                          refine lv_goto (tgt := 68) hx hb dX12_sheet_91 (by decide) ?_
                                                          refine lv_iload hx hb dX12_sheet_68 (lv_at hl 0 rfl) ?_
                                                          refine lv_bipush (v := 40) hx hb dX12_sheet_70 (by decide) ?_
                                                          refine lv_icmp_ge (tgt := 94) hx hb dX12_sheet_72 (by decide) (fun c1074 => ?_) (fun c1074 => ?_)
                                                          · exact absurd c1074 (by decide)
                                                          · refine lv_aload_n hx hb dX12_sheet_75 rfl (lv_at hl 1 rfl) ?_
                                                            refine va_get (D := D) (ci := 12) (v := .ref h11) (C := RX12) (T := TX12) (N := 24) hx hb hts hin12 hown hK hP 0 rfl rfl 18 (by decide) (hts (.fieldLink RX12 44 "MissedPointsModel" "items" "[I") (by decide +kernel)) (fun _ h9 => h9) rfl dX12_sheet_76 ?_
                                                            refine lv_bipush (v := 40) hx hb dX12_sheet_79 (by decide) ?_
                                                            refine lv_iload_n hx hb dX12_sheet_81 rfl (lv_at hl 2 rfl) ?_
                                                            refine lv_imul hx hb dX12_sheet_82 ?_
                                                            refine lz_top (y := 0) (by decide) ?_
                                                            refine lv_iload hx hb dX12_sheet_83 (lv_at hl 0 rfl) ?_
                                                            refine lv_iadd hx hb dX12_sheet_85 ?_
                                                            refine lz_top (y := 16) (by decide) ?_
                                                            refine lv_iconst (v := 0) hx hb dX12_sheet_86 (by decide) ?_
                                                            refine lz_astc hx hb hK hP hD hS 11 0 rfl rfl (lz_vp (x := 16) (n := 160) (by decide) (by decide)) dX12_sheet_87 (fun H locs hP hD hS => ?_)
                                                            refine lv_iinc (v := 17) (lv' := [(4, .int 17), (0, .ref h0), (1, .int 0), (2, .int x1), (3, .int x2)]) hx hb dX12_sheet_88 hl (k := 0) rfl (by decide) (by decide) rfl (fun ls hl => ?_)
                                                            refine lv_goto (tgt := 68) hx hb dX12_sheet_91 (by decide) ?_
                                                            refine lv_iload hx hb dX12_sheet_68 (lv_at hl 0 rfl) ?_
                                                            refine lv_bipush (v := 40) hx hb dX12_sheet_70 (by decide) ?_
                                                            refine lv_icmp_ge (tgt := 94) hx hb dX12_sheet_72 (by decide) (fun c1075 => ?_) (fun c1075 => ?_)
                                                            · exact absurd c1075 (by decide)
                                                            · refine lv_aload_n hx hb dX12_sheet_75 rfl (lv_at hl 1 rfl) ?_
                                                              refine va_get (D := D) (ci := 12) (v := .ref h11) (C := RX12) (T := TX12) (N := 24) hx hb hts hin12 hown hK hP 0 rfl rfl 18 (by decide) (hts (.fieldLink RX12 44 "MissedPointsModel" "items" "[I") (by decide +kernel)) (fun _ h9 => h9) rfl dX12_sheet_76 ?_
                                                              refine lv_bipush (v := 40) hx hb dX12_sheet_79 (by decide) ?_
                                                              refine lv_iload_n hx hb dX12_sheet_81 rfl (lv_at hl 2 rfl) ?_
                                                              refine lv_imul hx hb dX12_sheet_82 ?_
                                                              refine lz_top (y := 0) (by decide) ?_
                                                              refine lv_iload hx hb dX12_sheet_83 (lv_at hl 0 rfl) ?_
                                                              refine lv_iadd hx hb dX12_sheet_85 ?_
                                                              refine lz_top (y := 17) (by decide) ?_
                                                              refine lv_iconst (v := 0) hx hb dX12_sheet_86 (by decide) ?_
                                                              refine lz_astc hx hb hK hP hD hS 11 0 rfl rfl (lz_vp (x := 17) (n := 160) (by decide) (by decide)) dX12_sheet_87 (fun H locs hP hD hS => ?_)
                                                              refine lv_iinc (v := 18) (lv' := [(4, .int 18), (0, .ref h0), (1, .int 0), (2, .int x1), (3, .int x2)]) hx hb dX12_sheet_88 hl (k := 0) rfl (by decide) (by decide) rfl (fun ls hl => ?_)
                                                              refine lv_goto (tgt := 68) hx hb dX12_sheet_91 (by decide) ?_
                                                              refine lv_iload hx hb dX12_sheet_68 (lv_at hl 0 rfl) ?_
                                                              refine lv_bipush (v := 40) hx hb dX12_sheet_70 (by decide) ?_
                                                              refine lv_icmp_ge (tgt := 94) hx hb dX12_sheet_72 (by decide) (fun c1076 => ?_) (fun c1076 => ?_)
                                                              · exact absurd c1076 (by decide)
                                                              · refine lv_aload_n hx hb dX12_sheet_75 rfl (lv_at hl 1 rfl) ?_
                                                                refine va_get (D := D) (ci := 12) (v := .ref h11) (C := RX12) (T := TX12) (N := 24) hx hb hts hin12 hown hK hP 0 rfl rfl 18 (by decide) (hts (.fieldLink RX12 44 "MissedPointsModel" "items" "[I") (by decide +kernel)) (fun _ h9 => h9) rfl dX12_sheet_76 ?_
                                                                refine lv_bipush (v := 40) hx hb dX12_sheet_79 (by decide) ?_
                                                                refine lv_iload_n hx hb dX12_sheet_81 rfl (lv_at hl 2 rfl) ?_
                                                                refine lv_imul hx hb dX12_sheet_82 ?_
                                                                refine lz_top (y := 0) (by decide) ?_
                                                                refine lv_iload hx hb dX12_sheet_83 (lv_at hl 0 rfl) ?_
                                                                refine lv_iadd hx hb dX12_sheet_85 ?_
                                                                refine lz_top (y := 18) (by decide) ?_
                                                                refine lv_iconst (v := 0) hx hb dX12_sheet_86 (by decide) ?_
                                                                refine lz_astc hx hb hK hP hD hS 11 0 rfl rfl (lz_vp (x := 18) (n := 160) (by decide) (by decide)) dX12_sheet_87 (fun H locs hP hD hS => ?_)
                                                                refine lv_iinc (v := 19) (lv' := [(4, .int 19), (0, .ref h0), (1, .int 0), (2, .int x1), (3, .int x2)]) hx hb dX12_sheet_88 hl (k := 0) rfl (by decide) (by decide) rfl (fun ls hl => ?_)
                                                                refine lv_goto (tgt := 68) hx hb dX12_sheet_91 (by decide) ?_
                                                                refine lv_iload hx hb dX12_sheet_68 (lv_at hl 0 rfl) ?_
                                                                refine lv_bipush (v := 40) hx hb dX12_sheet_70 (by decide) ?_
                                                                refine lv_icmp_ge (tgt := 94) hx hb dX12_sheet_72 (by decide) (fun c1077 => ?_) (fun c1077 => ?_)
                                                                · exact absurd c1077 (by decide)
                                                                · refine lv_aload_n hx hb dX12_sheet_75 rfl (lv_at hl 1 rfl) ?_
                                                                  refine va_get (D := D) (ci := 12) (v := .ref h11) (C := RX12) (T := TX12) (N := 24) hx hb hts hin12 hown hK hP 0 rfl rfl 18 (by decide) (hts (.fieldLink RX12 44 "MissedPointsModel" "items" "[I") (by decide +kernel)) (fun _ h9 => h9) rfl dX12_sheet_76 ?_
                                                                  refine lv_bipush (v := 40) hx hb dX12_sheet_79 (by decide) ?_
                                                                  refine lv_iload_n hx hb dX12_sheet_81 rfl (lv_at hl 2 rfl) ?_
                                                                  refine lv_imul hx hb dX12_sheet_82 ?_
                                                                  refine lz_top (y := 0) (by decide) ?_
                                                                  refine lv_iload hx hb dX12_sheet_83 (lv_at hl 0 rfl) ?_
                                                                  refine lv_iadd hx hb dX12_sheet_85 ?_
                                                                  refine lz_top (y := 19) (by decide) ?_
                                                                  refine lv_iconst (v := 0) hx hb dX12_sheet_86 (by decide) ?_
                                                                  refine lz_astc hx hb hK hP hD hS 11 0 rfl rfl (lz_vp (x := 19) (n := 160) (by decide) (by decide)) dX12_sheet_87 (fun H locs hP hD hS => ?_)
                                                                  refine lv_iinc (v := 20) (lv' := [(4, .int 20), (0, .ref h0), (1, .int 0), (2, .int x1), (3, .int x2)]) hx hb dX12_sheet_88 hl (k := 0) rfl (by decide) (by decide) rfl (fun ls hl => ?_)
                                                                  refine lv_goto (tgt := 68) hx hb dX12_sheet_91 (by decide) ?_
                                                                  refine lv_iload hx hb dX12_sheet_68 (lv_at hl 0 rfl) ?_
                                                                  refine lv_bipush (v := 40) hx hb dX12_sheet_70 (by decide) ?_
                                                                  refine lv_icmp_ge (tgt := 94) hx hb dX12_sheet_72 (by decide) (fun c1078 => ?_) (fun c1078 => ?_)
                                                                  · exact absurd c1078 (by decide)
                                                                  · refine lv_aload_n hx hb dX12_sheet_75 rfl (lv_at hl 1 rfl) ?_
                                                                    refine va_get (D := D) (ci := 12) (v := .ref h11) (C := RX12) (T := TX12) (N := 24) hx hb hts hin12 hown hK hP 0 rfl rfl 18 (by decide) (hts (.fieldLink RX12 44 "MissedPointsModel" "items" "[I") (by decide +kernel)) (fun _ h9 => h9) rfl dX12_sheet_76 ?_
                                                                    refine lv_bipush (v := 40) hx hb dX12_sheet_79 (by decide) ?_
                                                                    refine lv_iload_n hx hb dX12_sheet_81 rfl (lv_at hl 2 rfl) ?_
                                                                    refine lv_imul hx hb dX12_sheet_82 ?_
                                                                    refine lz_top (y := 0) (by decide) ?_
                                                                    refine lv_iload hx hb dX12_sheet_83 (lv_at hl 0 rfl) ?_
                                                                    refine lv_iadd hx hb dX12_sheet_85 ?_
                                                                    refine lz_top (y := 20) (by decide) ?_
                                                                    refine lv_iconst (v := 0) hx hb dX12_sheet_86 (by decide) ?_
                                                                    refine lz_astc hx hb hK hP hD hS 11 0 rfl rfl (lz_vp (x := 20) (n := 160) (by decide) (by decide)) dX12_sheet_87 (fun H locs hP hD hS => ?_)
                                                                    refine lv_iinc (v := 21) (lv' := [(4, .int 21), (0, .ref h0), (1, .int 0), (2, .int x1), (3, .int x2)]) hx hb dX12_sheet_88 hl (k := 0) rfl (by decide) (by decide) rfl (fun ls hl => ?_)
                                                                    refine lv_goto (tgt := 68) hx hb dX12_sheet_91 (by decide) ?_
                                                                    refine lv_iload hx hb dX12_sheet_68 (lv_at hl 0 rfl) ?_
                                                                    refine lv_bipush (v := 40) hx hb dX12_sheet_70 (by decide) ?_
                                                                    refine lv_icmp_ge (tgt := 94) hx hb dX12_sheet_72 (by decide) (fun c1079 => ?_) (fun c1079 => ?_)
                                                                    · exact absurd c1079 (by decide)
                                                                    · refine lv_aload_n hx hb dX12_sheet_75 rfl (lv_at hl 1 rfl) ?_
                                                                      refine va_get (D := D) (ci := 12) (v := .ref h11) (C := RX12) (T := TX12) (N := 24) hx hb hts hin12 hown hK hP 0 rfl rfl 18 (by decide) (hts (.fieldLink RX12 44 "MissedPointsModel" "items" "[I") (by decide +kernel)) (fun _ h9 => h9) rfl dX12_sheet_76 ?_
                                                                      refine lv_bipush (v := 40) hx hb dX12_sheet_79 (by decide) ?_
                                                                      refine lv_iload_n hx hb dX12_sheet_81 rfl (lv_at hl 2 rfl) ?_
                                                                      refine lv_imul hx hb dX12_sheet_82 ?_
                                                                      refine lz_top (y := 0) (by decide) ?_
                                                                      refine lv_iload hx hb dX12_sheet_83 (lv_at hl 0 rfl) ?_
                                                                      refine lv_iadd hx hb dX12_sheet_85 ?_
                                                                      refine lz_top (y := 21) (by decide) ?_
                                                                      refine lv_iconst (v := 0) hx hb dX12_sheet_86 (by decide) ?_
                                                                      refine lz_astc hx hb hK hP hD hS 11 0 rfl rfl (lz_vp (x := 21) (n := 160) (by decide) (by decide)) dX12_sheet_87 (fun H locs hP hD hS => ?_)
                                                                      refine lv_iinc (v := 22) (lv' := [(4, .int 22), (0, .ref h0), (1, .int 0), (2, .int x1), (3, .int x2)]) hx hb dX12_sheet_88 hl (k := 0) rfl (by decide) (by decide) rfl (fun ls hl => ?_)
                                                                      refine lv_goto (tgt := 68) hx hb dX12_sheet_91 (by decide) ?_
                                                                      refine lv_iload hx hb dX12_sheet_68 (lv_at hl 0 rfl) ?_
                                                                      refine lv_bipush (v := 40) hx hb dX12_sheet_70 (by decide) ?_
                                                                      refine lv_icmp_ge (tgt := 94) hx hb dX12_sheet_72 (by decide) (fun c1080 => ?_) (fun c1080 => ?_)
                                                                      · exact absurd c1080 (by decide)
                                                                      · refine lv_aload_n hx hb dX12_sheet_75 rfl (lv_at hl 1 rfl) ?_
                                                                        refine va_get (D := D) (ci := 12) (v := .ref h11) (C := RX12) (T := TX12) (N := 24) hx hb hts hin12 hown hK hP 0 rfl rfl 18 (by decide) (hts (.fieldLink RX12 44 "MissedPointsModel" "items" "[I") (by decide +kernel)) (fun _ h9 => h9) rfl dX12_sheet_76 ?_
                                                                        refine lv_bipush (v := 40) hx hb dX12_sheet_79 (by decide) ?_
                                                                        refine lv_iload_n hx hb dX12_sheet_81 rfl (lv_at hl 2 rfl) ?_
                                                                        refine lv_imul hx hb dX12_sheet_82 ?_
                                                                        refine lz_top (y := 0) (by decide) ?_
                                                                        refine lv_iload hx hb dX12_sheet_83 (lv_at hl 0 rfl) ?_
                                                                        refine lv_iadd hx hb dX12_sheet_85 ?_
                                                                        refine lz_top (y := 22) (by decide) ?_
                                                                        refine lv_iconst (v := 0) hx hb dX12_sheet_86 (by decide) ?_
                                                                        refine lz_astc hx hb hK hP hD hS 11 0 rfl rfl (lz_vp (x := 22) (n := 160) (by decide) (by decide)) dX12_sheet_87 (fun H locs hP hD hS => ?_)
                                                                        refine lv_iinc (v := 23) (lv' := [(4, .int 23), (0, .ref h0), (1, .int 0), (2, .int x1), (3, .int x2)]) hx hb dX12_sheet_88 hl (k := 0) rfl (by decide) (by decide) rfl (fun ls hl => ?_)
                                                                        refine lv_goto (tgt := 68) hx hb dX12_sheet_91 (by decide) ?_
                                                                        refine lv_iload hx hb dX12_sheet_68 (lv_at hl 0 rfl) ?_
                                                                        refine lv_bipush (v := 40) hx hb dX12_sheet_70 (by decide) ?_
                                                                        refine lv_icmp_ge (tgt := 94) hx hb dX12_sheet_72 (by decide) (fun c1081 => ?_) (fun c1081 => ?_)
                                                                        · exact absurd c1081 (by decide)
                                                                        · refine lv_aload_n hx hb dX12_sheet_75 rfl (lv_at hl 1 rfl) ?_
                                                                          refine va_get (D := D) (ci := 12) (v := .ref h11) (C := RX12) (T := TX12) (N := 24) hx hb hts hin12 hown hK hP 0 rfl rfl 18 (by decide) (hts (.fieldLink RX12 44 "MissedPointsModel" "items" "[I") (by decide +kernel)) (fun _ h9 => h9) rfl dX12_sheet_76 ?_
                                                                          refine lv_bipush (v := 40) hx hb dX12_sheet_79 (by decide) ?_
                                                                          refine lv_iload_n hx hb dX12_sheet_81 rfl (lv_at hl 2 rfl) ?_
                                                                          refine lv_imul hx hb dX12_sheet_82 ?_
                                                                          refine lz_top (y := 0) (by decide) ?_
                                                                          refine lv_iload hx hb dX12_sheet_83 (lv_at hl 0 rfl) ?_
                                                                          refine lv_iadd hx hb dX12_sheet_85 ?_
                                                                          refine lz_top (y := 23) (by decide) ?_
                                                                          refine lv_iconst (v := 0) hx hb dX12_sheet_86 (by decide) ?_
                                                                          refine lz_astc hx hb hK hP hD hS 11 0 rfl rfl (lz_vp (x := 23) (n := 160) (by decide) (by decide)) dX12_sheet_87 (fun H locs hP hD hS => ?_)
                                                                          refine lv_iinc (v := 24) (lv' := [(4, .int 24), (0, .ref h0), (1, .int 0), (2, .int x1), (3, .int x2)]) hx hb dX12_sheet_88 hl (k := 0) rfl (by decide) (by decide) rfl (fun ls hl => ?_)
                                                                          refine lv_goto (tgt := 68) hx hb dX12_sheet_91 (by decide) ?_
                                                                          refine lv_iload hx hb dX12_sheet_68 (lv_at hl 0 rfl) ?_
                                                                          refine lv_bipush (v := 40) hx hb dX12_sheet_70 (by decide) ?_
                                                                          refine lv_icmp_ge (tgt := 94) hx hb dX12_sheet_72 (by decide) (fun c1082 => ?_) (fun c1082 => ?_)
                                                                          · exact absurd c1082 (by decide)
                                                                          · refine lv_aload_n hx hb dX12_sheet_75 rfl (lv_at hl 1 rfl) ?_
                                                                            refine va_get (D := D) (ci := 12) (v := .ref h11) (C := RX12) (T := TX12) (N := 24) hx hb hts hin12 hown hK hP 0 rfl rfl 18 (by decide) (hts (.fieldLink RX12 44 "MissedPointsModel" "items" "[I") (by decide +kernel)) (fun _ h9 => h9) rfl dX12_sheet_76 ?_
                                                                            refine lv_bipush (v := 40) hx hb dX12_sheet_79 (by decide) ?_
                                                                            refine lv_iload_n hx hb dX12_sheet_81 rfl (lv_at hl 2 rfl) ?_
                                                                            refine lv_imul hx hb dX12_sheet_82 ?_
                                                                            refine lz_top (y := 0) (by decide) ?_
                                                                            refine lv_iload hx hb dX12_sheet_83 (lv_at hl 0 rfl) ?_
                                                                            refine lv_iadd hx hb dX12_sheet_85 ?_
                                                                            refine lz_top (y := 24) (by decide) ?_
                                                                            refine lv_iconst (v := 0) hx hb dX12_sheet_86 (by decide) ?_
                                                                            refine lz_astc hx hb hK hP hD hS 11 0 rfl rfl (lz_vp (x := 24) (n := 160) (by decide) (by decide)) dX12_sheet_87 (fun H locs hP hD hS => ?_)
                                                                            refine lv_iinc (v := 25) (lv' := [(4, .int 25), (0, .ref h0), (1, .int 0), (2, .int x1), (3, .int x2)]) hx hb dX12_sheet_88 hl (k := 0) rfl (by decide) (by decide) rfl (fun ls hl => ?_)
                                                                            refine lv_goto (tgt := 68) hx hb dX12_sheet_91 (by decide) ?_
                                                                            refine lv_iload hx hb dX12_sheet_68 (lv_at hl 0 rfl) ?_
                                                                            refine lv_bipush (v := 40) hx hb dX12_sheet_70 (by decide) ?_
                                                                            refine lv_icmp_ge (tgt := 94) hx hb dX12_sheet_72 (by decide) (fun c1083 => ?_) (fun c1083 => ?_)
                                                                            · exact absurd c1083 (by decide)
                                                                            · refine lv_aload_n hx hb dX12_sheet_75 rfl (lv_at hl 1 rfl) ?_
                                                                              refine va_get (D := D) (ci := 12) (v := .ref h11) (C := RX12) (T := TX12) (N := 24) hx hb hts hin12 hown hK hP 0 rfl rfl 18 (by decide) (hts (.fieldLink RX12 44 "MissedPointsModel" "items" "[I") (by decide +kernel)) (fun _ h9 => h9) rfl dX12_sheet_76 ?_
                                                                              refine lv_bipush (v := 40) hx hb dX12_sheet_79 (by decide) ?_
                                                                              refine lv_iload_n hx hb dX12_sheet_81 rfl (lv_at hl 2 rfl) ?_
                                                                              refine lv_imul hx hb dX12_sheet_82 ?_
                                                                              refine lz_top (y := 0) (by decide) ?_
                                                                              refine lv_iload hx hb dX12_sheet_83 (lv_at hl 0 rfl) ?_
                                                                              refine lv_iadd hx hb dX12_sheet_85 ?_
                                                                              refine lz_top (y := 25) (by decide) ?_
                                                                              refine lv_iconst (v := 0) hx hb dX12_sheet_86 (by decide) ?_
                                                                              refine lz_astc hx hb hK hP hD hS 11 0 rfl rfl (lz_vp (x := 25) (n := 160) (by decide) (by decide)) dX12_sheet_87 (fun H locs hP hD hS => ?_)
                                                                              refine lv_iinc (v := 26) (lv' := [(4, .int 26), (0, .ref h0), (1, .int 0), (2, .int x1), (3, .int x2)]) hx hb dX12_sheet_88 hl (k := 0) rfl (by decide) (by decide) rfl (fun ls hl => ?_)
                                                                              refine lv_goto (tgt := 68) hx hb dX12_sheet_91 (by decide) ?_
                                                                              refine lv_iload hx hb dX12_sheet_68 (lv_at hl 0 rfl) ?_
                                                                              refine lv_bipush (v := 40) hx hb dX12_sheet_70 (by decide) ?_
                                                                              refine lv_icmp_ge (tgt := 94) hx hb dX12_sheet_72 (by decide) (fun c1084 => ?_) (fun c1084 => ?_)
                                                                              · exact absurd c1084 (by decide)
                                                                              · refine lv_aload_n hx hb dX12_sheet_75 rfl (lv_at hl 1 rfl) ?_
                                                                                refine va_get (D := D) (ci := 12) (v := .ref h11) (C := RX12) (T := TX12) (N := 24) hx hb hts hin12 hown hK hP 0 rfl rfl 18 (by decide) (hts (.fieldLink RX12 44 "MissedPointsModel" "items" "[I") (by decide +kernel)) (fun _ h9 => h9) rfl dX12_sheet_76 ?_
                                                                                refine lv_bipush (v := 40) hx hb dX12_sheet_79 (by decide) ?_
                                                                                refine lv_iload_n hx hb dX12_sheet_81 rfl (lv_at hl 2 rfl) ?_
                                                                                refine lv_imul hx hb dX12_sheet_82 ?_
                                                                                refine lz_top (y := 0) (by decide) ?_
                                                                                refine lv_iload hx hb dX12_sheet_83 (lv_at hl 0 rfl) ?_
                                                                                refine lv_iadd hx hb dX12_sheet_85 ?_
                                                                                refine lz_top (y := 26) (by decide) ?_
                                                                                refine lv_iconst (v := 0) hx hb dX12_sheet_86 (by decide) ?_
                                                                                refine lz_astc hx hb hK hP hD hS 11 0 rfl rfl (lz_vp (x := 26) (n := 160) (by decide) (by decide)) dX12_sheet_87 (fun H locs hP hD hS => ?_)
                                                                                refine lv_iinc (v := 27) (lv' := [(4, .int 27), (0, .ref h0), (1, .int 0), (2, .int x1), (3, .int x2)]) hx hb dX12_sheet_88 hl (k := 0) rfl (by decide) (by decide) rfl (fun ls hl => ?_)
                                                                                refine lv_goto (tgt := 68) hx hb dX12_sheet_91 (by decide) ?_
                                                                                refine lv_iload hx hb dX12_sheet_68 (lv_at hl 0 rfl) ?_
                                                                                refine lv_bipush (v := 40) hx hb dX12_sheet_70 (by decide) ?_
                                                                                refine lv_icmp_ge (tgt := 94) hx hb dX12_sheet_72 (by decide) (fun c1085 => ?_) (fun c1085 => ?_)
                                                                                · exact absurd c1085 (by decide)
                                                                                · refine lv_aload_n hx hb dX12_sheet_75 rfl (lv_at hl 1 rfl) ?_
                                                                                  refine va_get (D := D) (ci := 12) (v := .ref h11) (C := RX12) (T := TX12) (N := 24) hx hb hts hin12 hown hK hP 0 rfl rfl 18 (by decide) (hts (.fieldLink RX12 44 "MissedPointsModel" "items" "[I") (by decide +kernel)) (fun _ h9 => h9) rfl dX12_sheet_76 ?_
                                                                                  refine lv_bipush (v := 40) hx hb dX12_sheet_79 (by decide) ?_
                                                                                  refine lv_iload_n hx hb dX12_sheet_81 rfl (lv_at hl 2 rfl) ?_
                                                                                  refine lv_imul hx hb dX12_sheet_82 ?_
                                                                                  refine lz_top (y := 0) (by decide) ?_
                                                                                  refine lv_iload hx hb dX12_sheet_83 (lv_at hl 0 rfl) ?_
                                                                                  refine lv_iadd hx hb dX12_sheet_85 ?_
                                                                                  refine lz_top (y := 27) (by decide) ?_
                                                                                  refine lv_iconst (v := 0) hx hb dX12_sheet_86 (by decide) ?_
                                                                                  refine lz_astc hx hb hK hP hD hS 11 0 rfl rfl (lz_vp (x := 27) (n := 160) (by decide) (by decide)) dX12_sheet_87 (fun H locs hP hD hS => ?_)
                                                                                  refine lv_iinc (v := 28) (lv' := [(4, .int 28), (0, .ref h0), (1, .int 0), (2, .int x1), (3, .int x2)]) hx hb dX12_sheet_88 hl (k := 0) rfl (by decide) (by decide) rfl (fun ls hl => ?_)
                                                                                  refine lv_goto (tgt := 68) hx hb dX12_sheet_91 (by decide) ?_
                                                                                  refine lv_iload hx hb dX12_sheet_68 (lv_at hl 0 rfl) ?_
                                                                                  refine lv_bipush (v := 40) hx hb dX12_sheet_70 (by decide) ?_
                                                                                  refine lv_icmp_ge (tgt := 94) hx hb dX12_sheet_72 (by decide) (fun c1086 => ?_) (fun c1086 => ?_)
                                                                                  · exact absurd c1086 (by decide)
                                                                                  · refine lv_aload_n hx hb dX12_sheet_75 rfl (lv_at hl 1 rfl) ?_
                                                                                    refine va_get (D := D) (ci := 12) (v := .ref h11) (C := RX12) (T := TX12) (N := 24) hx hb hts hin12 hown hK hP 0 rfl rfl 18 (by decide) (hts (.fieldLink RX12 44 "MissedPointsModel" "items" "[I") (by decide +kernel)) (fun _ h9 => h9) rfl dX12_sheet_76 ?_
                                                                                    refine lv_bipush (v := 40) hx hb dX12_sheet_79 (by decide) ?_
                                                                                    refine lv_iload_n hx hb dX12_sheet_81 rfl (lv_at hl 2 rfl) ?_
                                                                                    refine lv_imul hx hb dX12_sheet_82 ?_
                                                                                    refine lz_top (y := 0) (by decide) ?_
                                                                                    refine lv_iload hx hb dX12_sheet_83 (lv_at hl 0 rfl) ?_
                                                                                    refine lv_iadd hx hb dX12_sheet_85 ?_
                                                                                    refine lz_top (y := 28) (by decide) ?_
                                                                                    refine lv_iconst (v := 0) hx hb dX12_sheet_86 (by decide) ?_
                                                                                    refine lz_astc hx hb hK hP hD hS 11 0 rfl rfl (lz_vp (x := 28) (n := 160) (by decide) (by decide)) dX12_sheet_87 (fun H locs hP hD hS => ?_)
                                                                                    refine lv_iinc (v := 29) (lv' := [(4, .int 29), (0, .ref h0), (1, .int 0), (2, .int x1), (3, .int x2)]) hx hb dX12_sheet_88 hl (k := 0) rfl (by decide) (by decide) rfl (fun ls hl => ?_)
                                                                                    refine lv_goto (tgt := 68) hx hb dX12_sheet_91 (by decide) ?_
                                                                                    refine lv_iload hx hb dX12_sheet_68 (lv_at hl 0 rfl) ?_
                                                                                    refine lv_bipush (v := 40) hx hb dX12_sheet_70 (by decide) ?_
                                                                                    refine lv_icmp_ge (tgt := 94) hx hb dX12_sheet_72 (by decide) (fun c1087 => ?_) (fun c1087 => ?_)
                                                                                    · exact absurd c1087 (by decide)
                                                                                    · refine lv_aload_n hx hb dX12_sheet_75 rfl (lv_at hl 1 rfl) ?_
                                                                                      refine va_get (D := D) (ci := 12) (v := .ref h11) (C := RX12) (T := TX12) (N := 24) hx hb hts hin12 hown hK hP 0 rfl rfl 18 (by decide) (hts (.fieldLink RX12 44 "MissedPointsModel" "items" "[I") (by decide +kernel)) (fun _ h9 => h9) rfl dX12_sheet_76 ?_
                                                                                      refine lv_bipush (v := 40) hx hb dX12_sheet_79 (by decide) ?_
                                                                                      refine lv_iload_n hx hb dX12_sheet_81 rfl (lv_at hl 2 rfl) ?_
                                                                                      refine lv_imul hx hb dX12_sheet_82 ?_
                                                                                      refine lz_top (y := 0) (by decide) ?_
                                                                                      refine lv_iload hx hb dX12_sheet_83 (lv_at hl 0 rfl) ?_
                                                                                      refine lv_iadd hx hb dX12_sheet_85 ?_
                                                                                      refine lz_top (y := 29) (by decide) ?_
                                                                                      refine lv_iconst (v := 0) hx hb dX12_sheet_86 (by decide) ?_
                                                                                      refine lz_astc hx hb hK hP hD hS 11 0 rfl rfl (lz_vp (x := 29) (n := 160) (by decide) (by decide)) dX12_sheet_87 (fun H locs hP hD hS => ?_)
                                                                                      refine lv_iinc (v := 30) (lv' := [(4, .int 30), (0, .ref h0), (1, .int 0), (2, .int x1), (3, .int x2)]) hx hb dX12_sheet_88 hl (k := 0) rfl (by decide) (by decide) rfl (fun ls hl => ?_)
                                                                                      refine lv_goto (tgt := 68) hx hb dX12_sheet_91 (by decide) ?_
                                                                                      refine lv_iload hx hb dX12_sheet_68 (lv_at hl 0 rfl) ?_
                                                                                      refine lv_bipush (v := 40) hx hb dX12_sheet_70 (by decide) ?_
                                                                                      refine lv_icmp_ge (tgt := 94) hx hb dX12_sheet_72 (by decide) (fun c1088 => ?_) (fun c1088 => ?_)
                                                                                      · exact absurd c1088 (by decide)
                                                                                      · refine lv_aload_n hx hb dX12_sheet_75 rfl (lv_at hl 1 rfl) ?_
                                                                                        refine va_get (D := D) (ci := 12) (v := .ref h11) (C := RX12) (T := TX12) (N := 24) hx hb hts hin12 hown hK hP 0 rfl rfl 18 (by decide) (hts (.fieldLink RX12 44 "MissedPointsModel" "items" "[I") (by decide +kernel)) (fun _ h9 => h9) rfl dX12_sheet_76 ?_
                                                                                        refine lv_bipush (v := 40) hx hb dX12_sheet_79 (by decide) ?_
                                                                                        refine lv_iload_n hx hb dX12_sheet_81 rfl (lv_at hl 2 rfl) ?_
                                                                                        refine lv_imul hx hb dX12_sheet_82 ?_
                                                                                        refine lz_top (y := 0) (by decide) ?_
                                                                                        refine lv_iload hx hb dX12_sheet_83 (lv_at hl 0 rfl) ?_
                                                                                        refine lv_iadd hx hb dX12_sheet_85 ?_
                                                                                        refine lz_top (y := 30) (by decide) ?_
                                                                                        refine lv_iconst (v := 0) hx hb dX12_sheet_86 (by decide) ?_
                                                                                        refine lz_astc hx hb hK hP hD hS 11 0 rfl rfl (lz_vp (x := 30) (n := 160) (by decide) (by decide)) dX12_sheet_87 (fun H locs hP hD hS => ?_)
                                                                                        refine lv_iinc (v := 31) (lv' := [(4, .int 31), (0, .ref h0), (1, .int 0), (2, .int x1), (3, .int x2)]) hx hb dX12_sheet_88 hl (k := 0) rfl (by decide) (by decide) rfl (fun ls hl => ?_)
                                                                                        refine lv_goto (tgt := 68) hx hb dX12_sheet_91 (by decide) ?_
                                                                                        refine lv_iload hx hb dX12_sheet_68 (lv_at hl 0 rfl) ?_
                                                                                        refine lv_bipush (v := 40) hx hb dX12_sheet_70 (by decide) ?_
                                                                                        refine lv_icmp_ge (tgt := 94) hx hb dX12_sheet_72 (by decide) (fun c1089 => ?_) (fun c1089 => ?_)
                                                                                        · exact absurd c1089 (by decide)
                                                                                        · refine lv_aload_n hx hb dX12_sheet_75 rfl (lv_at hl 1 rfl) ?_
                                                                                          refine va_get (D := D) (ci := 12) (v := .ref h11) (C := RX12) (T := TX12) (N := 24) hx hb hts hin12 hown hK hP 0 rfl rfl 18 (by decide) (hts (.fieldLink RX12 44 "MissedPointsModel" "items" "[I") (by decide +kernel)) (fun _ h9 => h9) rfl dX12_sheet_76 ?_
                                                                                          refine lv_bipush (v := 40) hx hb dX12_sheet_79 (by decide) ?_
                                                                                          refine lv_iload_n hx hb dX12_sheet_81 rfl (lv_at hl 2 rfl) ?_
                                                                                          refine lv_imul hx hb dX12_sheet_82 ?_
                                                                                          refine lz_top (y := 0) (by decide) ?_
                                                                                          refine lv_iload hx hb dX12_sheet_83 (lv_at hl 0 rfl) ?_
                                                                                          refine lv_iadd hx hb dX12_sheet_85 ?_
                                                                                          refine lz_top (y := 31) (by decide) ?_
                                                                                          refine lv_iconst (v := 0) hx hb dX12_sheet_86 (by decide) ?_
                                                                                          refine lz_astc hx hb hK hP hD hS 11 0 rfl rfl (lz_vp (x := 31) (n := 160) (by decide) (by decide)) dX12_sheet_87 (fun H locs hP hD hS => ?_)
                                                                                          refine lv_iinc (v := 32) (lv' := [(4, .int 32), (0, .ref h0), (1, .int 0), (2, .int x1), (3, .int x2)]) hx hb dX12_sheet_88 hl (k := 0) rfl (by decide) (by decide) rfl (fun ls hl => ?_)
                                                                                          refine lv_goto (tgt := 68) hx hb dX12_sheet_91 (by decide) ?_
                                                                                          refine lv_iload hx hb dX12_sheet_68 (lv_at hl 0 rfl) ?_
                                                                                          refine lv_bipush (v := 40) hx hb dX12_sheet_70 (by decide) ?_
                                                                                          refine lv_icmp_ge (tgt := 94) hx hb dX12_sheet_72 (by decide) (fun c1090 => ?_) (fun c1090 => ?_)
                                                                                          · exact absurd c1090 (by decide)
                                                                                          · refine lv_aload_n hx hb dX12_sheet_75 rfl (lv_at hl 1 rfl) ?_
                                                                                            refine va_get (D := D) (ci := 12) (v := .ref h11) (C := RX12) (T := TX12) (N := 24) hx hb hts hin12 hown hK hP 0 rfl rfl 18 (by decide) (hts (.fieldLink RX12 44 "MissedPointsModel" "items" "[I") (by decide +kernel)) (fun _ h9 => h9) rfl dX12_sheet_76 ?_
                                                                                            refine lv_bipush (v := 40) hx hb dX12_sheet_79 (by decide) ?_
                                                                                            refine lv_iload_n hx hb dX12_sheet_81 rfl (lv_at hl 2 rfl) ?_
                                                                                            refine lv_imul hx hb dX12_sheet_82 ?_
                                                                                            refine lz_top (y := 0) (by decide) ?_
                                                                                            refine lv_iload hx hb dX12_sheet_83 (lv_at hl 0 rfl) ?_
                                                                                            refine lv_iadd hx hb dX12_sheet_85 ?_
                                                                                            refine lz_top (y := 32) (by decide) ?_
                                                                                            refine lv_iconst (v := 0) hx hb dX12_sheet_86 (by decide) ?_
                                                                                            refine lz_astc hx hb hK hP hD hS 11 0 rfl rfl (lz_vp (x := 32) (n := 160) (by decide) (by decide)) dX12_sheet_87 (fun H locs hP hD hS => ?_)
                                                                                            refine lv_iinc (v := 33) (lv' := [(4, .int 33), (0, .ref h0), (1, .int 0), (2, .int x1), (3, .int x2)]) hx hb dX12_sheet_88 hl (k := 0) rfl (by decide) (by decide) rfl (fun ls hl => ?_)
                                                                                            refine lv_goto (tgt := 68) hx hb dX12_sheet_91 (by decide) ?_
                                                                                            refine lv_iload hx hb dX12_sheet_68 (lv_at hl 0 rfl) ?_
                                                                                            refine lv_bipush (v := 40) hx hb dX12_sheet_70 (by decide) ?_
                                                                                            refine lv_icmp_ge (tgt := 94) hx hb dX12_sheet_72 (by decide) (fun c1091 => ?_) (fun c1091 => ?_)
                                                                                            · exact absurd c1091 (by decide)
                                                                                            · refine lv_aload_n hx hb dX12_sheet_75 rfl (lv_at hl 1 rfl) ?_
                                                                                              refine va_get (D := D) (ci := 12) (v := .ref h11) (C := RX12) (T := TX12) (N := 24) hx hb hts hin12 hown hK hP 0 rfl rfl 18 (by decide) (hts (.fieldLink RX12 44 "MissedPointsModel" "items" "[I") (by decide +kernel)) (fun _ h9 => h9) rfl dX12_sheet_76 ?_
                                                                                              refine lv_bipush (v := 40) hx hb dX12_sheet_79 (by decide) ?_
                                                                                              refine lv_iload_n hx hb dX12_sheet_81 rfl (lv_at hl 2 rfl) ?_
                                                                                              refine lv_imul hx hb dX12_sheet_82 ?_
                                                                                              refine lz_top (y := 0) (by decide) ?_
                                                                                              refine lv_iload hx hb dX12_sheet_83 (lv_at hl 0 rfl) ?_
                                                                                              refine lv_iadd hx hb dX12_sheet_85 ?_
                                                                                              refine lz_top (y := 33) (by decide) ?_
                                                                                              refine lv_iconst (v := 0) hx hb dX12_sheet_86 (by decide) ?_
                                                                                              refine lz_astc hx hb hK hP hD hS 11 0 rfl rfl (lz_vp (x := 33) (n := 160) (by decide) (by decide)) dX12_sheet_87 (fun H locs hP hD hS => ?_)
                                                                                              refine lv_iinc (v := 34) (lv' := [(4, .int 34), (0, .ref h0), (1, .int 0), (2, .int x1), (3, .int x2)]) hx hb dX12_sheet_88 hl (k := 0) rfl (by decide) (by decide) rfl (fun ls hl => ?_)
                                                                                              refine lv_goto (tgt := 68) hx hb dX12_sheet_91 (by decide) ?_
                                                                                              refine lv_iload hx hb dX12_sheet_68 (lv_at hl 0 rfl) ?_
                                                                                              refine lv_bipush (v := 40) hx hb dX12_sheet_70 (by decide) ?_
                                                                                              refine lv_icmp_ge (tgt := 94) hx hb dX12_sheet_72 (by decide) (fun c1092 => ?_) (fun c1092 => ?_)
                                                                                              · exact absurd c1092 (by decide)
                                                                                              · refine lv_aload_n hx hb dX12_sheet_75 rfl (lv_at hl 1 rfl) ?_
                                                                                                refine va_get (D := D) (ci := 12) (v := .ref h11) (C := RX12) (T := TX12) (N := 24) hx hb hts hin12 hown hK hP 0 rfl rfl 18 (by decide) (hts (.fieldLink RX12 44 "MissedPointsModel" "items" "[I") (by decide +kernel)) (fun _ h9 => h9) rfl dX12_sheet_76 ?_
                                                                                                refine lv_bipush (v := 40) hx hb dX12_sheet_79 (by decide) ?_
                                                                                                refine lv_iload_n hx hb dX12_sheet_81 rfl (lv_at hl 2 rfl) ?_
                                                                                                refine lv_imul hx hb dX12_sheet_82 ?_
                                                                                                refine lz_top (y := 0) (by decide) ?_
                                                                                                refine lv_iload hx hb dX12_sheet_83 (lv_at hl 0 rfl) ?_
                                                                                                refine lv_iadd hx hb dX12_sheet_85 ?_
                                                                                                refine lz_top (y := 34) (by decide) ?_
                                                                                                refine lv_iconst (v := 0) hx hb dX12_sheet_86 (by decide) ?_
                                                                                                refine lz_astc hx hb hK hP hD hS 11 0 rfl rfl (lz_vp (x := 34) (n := 160) (by decide) (by decide)) dX12_sheet_87 (fun H locs hP hD hS => ?_)
                                                                                                refine lv_iinc (v := 35) (lv' := [(4, .int 35), (0, .ref h0), (1, .int 0), (2, .int x1), (3, .int x2)]) hx hb dX12_sheet_88 hl (k := 0) rfl (by decide) (by decide) rfl (fun ls hl => ?_)
                                                                                                refine lv_goto (tgt := 68) hx hb dX12_sheet_91 (by decide) ?_
                                                                                                refine lv_iload hx hb dX12_sheet_68 (lv_at hl 0 rfl) ?_
                                                                                                refine lv_bipush (v := 40) hx hb dX12_sheet_70 (by decide) ?_
                                                                                                refine lv_icmp_ge (tgt := 94) hx hb dX12_sheet_72 (by decide) (fun c1093 => ?_) (fun c1093 => ?_)
                                                                                                · exact absurd c1093 (by decide)
                                                                                                · refine lv_aload_n hx hb dX12_sheet_75 rfl (lv_at hl 1 rfl) ?_
                                                                                                  refine va_get (D := D) (ci := 12) (v := .ref h11) (C := RX12) (T := TX12) (N := 24) hx hb hts hin12 hown hK hP 0 rfl rfl 18 (by decide) (hts (.fieldLink RX12 44 "MissedPointsModel" "items" "[I") (by decide +kernel)) (fun _ h9 => h9) rfl dX12_sheet_76 ?_
                                                                                                  refine lv_bipush (v := 40) hx hb dX12_sheet_79 (by decide) ?_
                                                                                                  refine lv_iload_n hx hb dX12_sheet_81 rfl (lv_at hl 2 rfl) ?_
                                                                                                  refine lv_imul hx hb dX12_sheet_82 ?_
                                                                                                  refine lz_top (y := 0) (by decide) ?_
                                                                                                  refine lv_iload hx hb dX12_sheet_83 (lv_at hl 0 rfl) ?_
                                                                                                  refine lv_iadd hx hb dX12_sheet_85 ?_
                                                                                                  refine lz_top (y := 35) (by decide) ?_
                                                                                                  refine lv_iconst (v := 0) hx hb dX12_sheet_86 (by decide) ?_
                                                                                                  refine lz_astc hx hb hK hP hD hS 11 0 rfl rfl (lz_vp (x := 35) (n := 160) (by decide) (by decide)) dX12_sheet_87 (fun H locs hP hD hS => ?_)
                                                                                                  refine lv_iinc (v := 36) (lv' := [(4, .int 36), (0, .ref h0), (1, .int 0), (2, .int x1), (3, .int x2)]) hx hb dX12_sheet_88 hl (k := 0) rfl (by decide) (by decide) rfl (fun ls hl => ?_)
                                                                                                  refine lv_goto (tgt := 68) hx hb dX12_sheet_91 (by decide) ?_
                                                                                                  refine lv_iload hx hb dX12_sheet_68 (lv_at hl 0 rfl) ?_
                                                                                                  refine lv_bipush (v := 40) hx hb dX12_sheet_70 (by decide) ?_
                                                                                                  refine lv_icmp_ge (tgt := 94) hx hb dX12_sheet_72 (by decide) (fun c1094 => ?_) (fun c1094 => ?_)
                                                                                                  · exact absurd c1094 (by decide)
                                                                                                  · refine lv_aload_n hx hb dX12_sheet_75 rfl (lv_at hl 1 rfl) ?_
                                                                                                    refine va_get (D := D) (ci := 12) (v := .ref h11) (C := RX12) (T := TX12) (N := 24) hx hb hts hin12 hown hK hP 0 rfl rfl 18 (by decide) (hts (.fieldLink RX12 44 "MissedPointsModel" "items" "[I") (by decide +kernel)) (fun _ h9 => h9) rfl dX12_sheet_76 ?_
                                                                                                    refine lv_bipush (v := 40) hx hb dX12_sheet_79 (by decide) ?_
                                                                                                    refine lv_iload_n hx hb dX12_sheet_81 rfl (lv_at hl 2 rfl) ?_
                                                                                                    refine lv_imul hx hb dX12_sheet_82 ?_
                                                                                                    refine lz_top (y := 0) (by decide) ?_
                                                                                                    refine lv_iload hx hb dX12_sheet_83 (lv_at hl 0 rfl) ?_
                                                                                                    refine lv_iadd hx hb dX12_sheet_85 ?_
                                                                                                    refine lz_top (y := 36) (by decide) ?_
                                                                                                    refine lv_iconst (v := 0) hx hb dX12_sheet_86 (by decide) ?_
                                                                                                    refine lz_astc hx hb hK hP hD hS 11 0 rfl rfl (lz_vp (x := 36) (n := 160) (by decide) (by decide)) dX12_sheet_87 (fun H locs hP hD hS => ?_)
                                                                                                    refine lv_iinc (v := 37) (lv' := [(4, .int 37), (0, .ref h0), (1, .int 0), (2, .int x1), (3, .int x2)]) hx hb dX12_sheet_88 hl (k := 0) rfl (by decide) (by decide) rfl (fun ls hl => ?_)
                                                                                                    refine lv_goto (tgt := 68) hx hb dX12_sheet_91 (by decide) ?_
                                                                                                    refine lv_iload hx hb dX12_sheet_68 (lv_at hl 0 rfl) ?_
                                                                                                    refine lv_bipush (v := 40) hx hb dX12_sheet_70 (by decide) ?_
                                                                                                    refine lv_icmp_ge (tgt := 94) hx hb dX12_sheet_72 (by decide) (fun c1095 => ?_) (fun c1095 => ?_)
                                                                                                    · exact absurd c1095 (by decide)
                                                                                                    · refine lv_aload_n hx hb dX12_sheet_75 rfl (lv_at hl 1 rfl) ?_
                                                                                                      refine va_get (D := D) (ci := 12) (v := .ref h11) (C := RX12) (T := TX12) (N := 24) hx hb hts hin12 hown hK hP 0 rfl rfl 18 (by decide) (hts (.fieldLink RX12 44 "MissedPointsModel" "items" "[I") (by decide +kernel)) (fun _ h9 => h9) rfl dX12_sheet_76 ?_
                                                                                                      refine lv_bipush (v := 40) hx hb dX12_sheet_79 (by decide) ?_
                                                                                                      refine lv_iload_n hx hb dX12_sheet_81 rfl (lv_at hl 2 rfl) ?_
                                                                                                      refine lv_imul hx hb dX12_sheet_82 ?_
                                                                                                      refine lz_top (y := 0) (by decide) ?_
                                                                                                      refine lv_iload hx hb dX12_sheet_83 (lv_at hl 0 rfl) ?_
                                                                                                      refine lv_iadd hx hb dX12_sheet_85 ?_
                                                                                                      refine lz_top (y := 37) (by decide) ?_
                                                                                                      refine lv_iconst (v := 0) hx hb dX12_sheet_86 (by decide) ?_
                                                                                                      refine lz_astc hx hb hK hP hD hS 11 0 rfl rfl (lz_vp (x := 37) (n := 160) (by decide) (by decide)) dX12_sheet_87 (fun H locs hP hD hS => ?_)
                                                                                                      refine lv_iinc (v := 38) (lv' := [(4, .int 38), (0, .ref h0), (1, .int 0), (2, .int x1), (3, .int x2)]) hx hb dX12_sheet_88 hl (k := 0) rfl (by decide) (by decide) rfl (fun ls hl => ?_)
                                                                                                      refine lv_goto (tgt := 68) hx hb dX12_sheet_91 (by decide) ?_
                                                                                                      refine lv_iload hx hb dX12_sheet_68 (lv_at hl 0 rfl) ?_
                                                                                                      refine lv_bipush (v := 40) hx hb dX12_sheet_70 (by decide) ?_
                                                                                                      refine lv_icmp_ge (tgt := 94) hx hb dX12_sheet_72 (by decide) (fun c1096 => ?_) (fun c1096 => ?_)
                                                                                                      · exact absurd c1096 (by decide)
                                                                                                      · refine lv_aload_n hx hb dX12_sheet_75 rfl (lv_at hl 1 rfl) ?_
                                                                                                        refine va_get (D := D) (ci := 12) (v := .ref h11) (C := RX12) (T := TX12) (N := 24) hx hb hts hin12 hown hK hP 0 rfl rfl 18 (by decide) (hts (.fieldLink RX12 44 "MissedPointsModel" "items" "[I") (by decide +kernel)) (fun _ h9 => h9) rfl dX12_sheet_76 ?_
                                                                                                        refine lv_bipush (v := 40) hx hb dX12_sheet_79 (by decide) ?_
                                                                                                        refine lv_iload_n hx hb dX12_sheet_81 rfl (lv_at hl 2 rfl) ?_
                                                                                                        refine lv_imul hx hb dX12_sheet_82 ?_
                                                                                                        refine lz_top (y := 0) (by decide) ?_
                                                                                                        refine lv_iload hx hb dX12_sheet_83 (lv_at hl 0 rfl) ?_
                                                                                                        refine lv_iadd hx hb dX12_sheet_85 ?_
                                                                                                        refine lz_top (y := 38) (by decide) ?_
                                                                                                        refine lv_iconst (v := 0) hx hb dX12_sheet_86 (by decide) ?_
                                                                                                        refine lz_astc hx hb hK hP hD hS 11 0 rfl rfl (lz_vp (x := 38) (n := 160) (by decide) (by decide)) dX12_sheet_87 (fun H locs hP hD hS => ?_)
                                                                                                        refine lv_iinc (v := 39) (lv' := [(4, .int 39), (0, .ref h0), (1, .int 0), (2, .int x1), (3, .int x2)]) hx hb dX12_sheet_88 hl (k := 0) rfl (by decide) (by decide) rfl (fun ls hl => ?_)
                                                                                                        refine lv_goto (tgt := 68) hx hb dX12_sheet_91 (by decide) ?_
                                                                                                        refine lv_iload hx hb dX12_sheet_68 (lv_at hl 0 rfl) ?_
                                                                                                        refine lv_bipush (v := 40) hx hb dX12_sheet_70 (by decide) ?_
                                                                                                        refine lv_icmp_ge (tgt := 94) hx hb dX12_sheet_72 (by decide) (fun c1097 => ?_) (fun c1097 => ?_)
                                                                                                        · exact absurd c1097 (by decide)
                                                                                                        · refine lv_aload_n hx hb dX12_sheet_75 rfl (lv_at hl 1 rfl) ?_
                                                                                                          refine va_get (D := D) (ci := 12) (v := .ref h11) (C := RX12) (T := TX12) (N := 24) hx hb hts hin12 hown hK hP 0 rfl rfl 18 (by decide) (hts (.fieldLink RX12 44 "MissedPointsModel" "items" "[I") (by decide +kernel)) (fun _ h9 => h9) rfl dX12_sheet_76 ?_
                                                                                                          refine lv_bipush (v := 40) hx hb dX12_sheet_79 (by decide) ?_
                                                                                                          refine lv_iload_n hx hb dX12_sheet_81 rfl (lv_at hl 2 rfl) ?_
                                                                                                          refine lv_imul hx hb dX12_sheet_82 ?_
                                                                                                          refine lz_top (y := 0) (by decide) ?_
                                                                                                          refine lv_iload hx hb dX12_sheet_83 (lv_at hl 0 rfl) ?_
                                                                                                          refine lv_iadd hx hb dX12_sheet_85 ?_
                                                                                                          refine lz_top (y := 39) (by decide) ?_
                                                                                                          refine lv_iconst (v := 0) hx hb dX12_sheet_86 (by decide) ?_
                                                                                                          refine lz_astc hx hb hK hP hD hS 11 0 rfl rfl (lz_vp (x := 39) (n := 160) (by decide) (by decide)) dX12_sheet_87 (fun H locs hP hD hS => ?_)
                                                                                                          refine lv_iinc (v := 40) (lv' := [(4, .int 40), (0, .ref h0), (1, .int 0), (2, .int x1), (3, .int x2)]) hx hb dX12_sheet_88 hl (k := 0) rfl (by decide) (by decide) rfl (fun ls hl => ?_)
                                                                                                          refine lv_goto (tgt := 68) hx hb dX12_sheet_91 (by decide) ?_
                                                                                                          refine lv_iload hx hb dX12_sheet_68 (lv_at hl 0 rfl) ?_
                                                                                                          refine lv_bipush (v := 40) hx hb dX12_sheet_70 (by decide) ?_
                                                                                                          refine lv_icmp_ge (tgt := 94) hx hb dX12_sheet_72 (by decide) (fun c1098 => ?_) (fun c1098 => ?_)
                                                                                                          · refine lv_iconst (v := 1) hx hb dX12_sheet_94 (by decide) ?_
                                                                                                            have hP9 := hP.sub (ws' := []) [] rfl
                                                                                                            have hD9 := hD.sub (ws' := []) [] (by decide) rfl
                                                                                                            subst hAe
                                                                                                            exact W.iret (v := 1) hx hb hr (fun t ht hW => ⟨⟨_, (), rfl, by rw [if_neg k867, if_neg k869, if_neg k875, if_neg k877, if_neg c880, if_pos c1053, if_pos c1055], by rw [ht]; exact hP9, hD9⟩, hS.F ht⟩) hS.2.2 dX12_sheet_95
                                                                                                          · exact absurd c1098 (by decide)
                        · exact absurd c1057 c880
                      · by_cases k1099 : x0 = 1
                        · subst k1099
                          refine lv_aload_n hx hb dX12_sheet_42 rfl (lv_at hl 0 rfl) ?_
                          refine va_get (D := D) (ci := 12) (v := .ref h9) (C := RX12) (T := TX12) (N := 24) hx hb hts hin12 hown hK hP 0 rfl rfl 16 (by decide) (hts (.fieldLink RX12 38 "MissedPointsModel" "sort" "[I") (by decide +kernel)) (fun _ h9 => h9) rfl dX12_sheet_43 ?_
                          refine lv_iload_n hx hb dX12_sheet_46 rfl (lv_at hl 1 rfl) ?_
                          refine lv_iload_n hx hb dX12_sheet_47 rfl (lv_at hl 2 rfl) ?_
                          refine va_iast hx hb hK hP hD hS 9 0 rfl rfl (lz_vp (x := 1) (n := 4) (by decide) (by decide)) dX12_sheet_48 (fun H locs hP hD hS => ?_)
                          have hP : va_P D cls [(h0, .inr (12, [.int 0, .int 1, .ref h1, .ref h2, .ref h3, .ref h4, .ref h5, .ref h6, .ref h7, .ref h8, .int 0, .int 0, .int 0, .int 0, .int 0, .int 0, .ref h9, .ref h10, .ref h11, .ref h12, .ref h13, .ref h14, .ref h15, .int 0])), (h1, .inl (cI, 12, .inl (fun _ => 0))), (h2, .inl (cI, 4096, .inl (fun _ => 0))), (h3, .inl (cI, 4096, .inl (fun _ => 0))), (h4, .inl (cI, 28672, .inl (fun _ => 0))), (h5, .inl (cI, 12, .inl (fun _ => 0))), (h6, .inl (cI, 12, .inl (fun _ => 0))), (h7, .inl (cI, 12, .inl (fun _ => 0))), (h8, .inl (cI, 120, .inl (fun _ => 0))), (h9, .inl (cI, 4, .inl (upd (fun _ => -1) 1 x1))), (h10, .inl (cI, 4, .inl (fun _ => 0))), (h11, .inl (cI, 160, .inl (fun _ => 0))), (h12, .inl (cI, 4, .inl (fun _ => -1))), (h13, .inl (cI, 4, .inl (fun _ => 0))), (h14, .inl (cI, 4, .inl (fun _ => 0))), (h15, .inl (cI, 28, .inl (fun _ => 0)))] H := hP
                          have hD : va_D A [(h0, .inr (12, [.int 0, .int 1, .ref h1, .ref h2, .ref h3, .ref h4, .ref h5, .ref h6, .ref h7, .ref h8, .int 0, .int 0, .int 0, .int 0, .int 0, .int 0, .ref h9, .ref h10, .ref h11, .ref h12, .ref h13, .ref h14, .ref h15, .int 0])), (h1, .inl (cI, 12, .inl (fun _ => 0))), (h2, .inl (cI, 4096, .inl (fun _ => 0))), (h3, .inl (cI, 4096, .inl (fun _ => 0))), (h4, .inl (cI, 28672, .inl (fun _ => 0))), (h5, .inl (cI, 12, .inl (fun _ => 0))), (h6, .inl (cI, 12, .inl (fun _ => 0))), (h7, .inl (cI, 12, .inl (fun _ => 0))), (h8, .inl (cI, 120, .inl (fun _ => 0))), (h9, .inl (cI, 4, .inl (upd (fun _ => -1) 1 x1))), (h10, .inl (cI, 4, .inl (fun _ => 0))), (h11, .inl (cI, 160, .inl (fun _ => 0))), (h12, .inl (cI, 4, .inl (fun _ => -1))), (h13, .inl (cI, 4, .inl (fun _ => 0))), (h14, .inl (cI, 4, .inl (fun _ => 0))), (h15, .inl (cI, 28, .inl (fun _ => 0)))] := hD
                          refine lv_aload_n hx hb dX12_sheet_49 rfl (lv_at hl 0 rfl) ?_
                          refine va_get (D := D) (ci := 12) (v := .ref h10) (C := RX12) (T := TX12) (N := 24) hx hb hts hin12 hown hK hP 0 rfl rfl 17 (by decide) (hts (.fieldLink RX12 41 "MissedPointsModel" "size" "[I") (by decide +kernel)) (fun _ h9 => h9) rfl dX12_sheet_50 ?_
                          refine lv_iload_n hx hb dX12_sheet_53 rfl (lv_at hl 1 rfl) ?_
                          refine lv_iload_n hx hb dX12_sheet_54 rfl (lv_at hl 2 rfl) ?_
                          refine lv_iconst (v := (-1)) hx hb dX12_sheet_55 (by decide) ?_
                          refine lv_icmp_ne (tgt := 63) hx hb dX12_sheet_56 (by decide) (fun c1100 => ?_) (fun c1100 => ?_)
                          · refine lv_iload_n hx hb dX12_sheet_63 rfl (lv_at hl 3 rfl) ?_
                            refine va_iast hx hb hK hP hD hS 10 0 rfl rfl (lz_vp (x := 1) (n := 4) (by decide) (by decide)) dX12_sheet_64 (fun H locs hP hD hS => ?_)
                            have hP : va_P D cls [(h0, .inr (12, [.int 0, .int 1, .ref h1, .ref h2, .ref h3, .ref h4, .ref h5, .ref h6, .ref h7, .ref h8, .int 0, .int 0, .int 0, .int 0, .int 0, .int 0, .ref h9, .ref h10, .ref h11, .ref h12, .ref h13, .ref h14, .ref h15, .int 0])), (h1, .inl (cI, 12, .inl (fun _ => 0))), (h2, .inl (cI, 4096, .inl (fun _ => 0))), (h3, .inl (cI, 4096, .inl (fun _ => 0))), (h4, .inl (cI, 28672, .inl (fun _ => 0))), (h5, .inl (cI, 12, .inl (fun _ => 0))), (h6, .inl (cI, 12, .inl (fun _ => 0))), (h7, .inl (cI, 12, .inl (fun _ => 0))), (h8, .inl (cI, 120, .inl (fun _ => 0))), (h9, .inl (cI, 4, .inl (upd (fun _ => -1) 1 x1))), (h10, .inl (cI, 4, .inl (upd (fun _ => 0) 1 x2))), (h11, .inl (cI, 160, .inl (fun _ => 0))), (h12, .inl (cI, 4, .inl (fun _ => -1))), (h13, .inl (cI, 4, .inl (fun _ => 0))), (h14, .inl (cI, 4, .inl (fun _ => 0))), (h15, .inl (cI, 28, .inl (fun _ => 0)))] H := hP
                            have hD : va_D A [(h0, .inr (12, [.int 0, .int 1, .ref h1, .ref h2, .ref h3, .ref h4, .ref h5, .ref h6, .ref h7, .ref h8, .int 0, .int 0, .int 0, .int 0, .int 0, .int 0, .ref h9, .ref h10, .ref h11, .ref h12, .ref h13, .ref h14, .ref h15, .int 0])), (h1, .inl (cI, 12, .inl (fun _ => 0))), (h2, .inl (cI, 4096, .inl (fun _ => 0))), (h3, .inl (cI, 4096, .inl (fun _ => 0))), (h4, .inl (cI, 28672, .inl (fun _ => 0))), (h5, .inl (cI, 12, .inl (fun _ => 0))), (h6, .inl (cI, 12, .inl (fun _ => 0))), (h7, .inl (cI, 12, .inl (fun _ => 0))), (h8, .inl (cI, 120, .inl (fun _ => 0))), (h9, .inl (cI, 4, .inl (upd (fun _ => -1) 1 x1))), (h10, .inl (cI, 4, .inl (upd (fun _ => 0) 1 x2))), (h11, .inl (cI, 160, .inl (fun _ => 0))), (h12, .inl (cI, 4, .inl (fun _ => -1))), (h13, .inl (cI, 4, .inl (fun _ => 0))), (h14, .inl (cI, 4, .inl (fun _ => 0))), (h15, .inl (cI, 28, .inl (fun _ => 0)))] := hD
                            refine lv_iconst (v := 0) hx hb dX12_sheet_65 (by decide) ?_
                            refine lv_istore (lv' := [(4, .int 0), (0, .ref h0), (1, .int 1), (2, .int x1), (3, .int x2)]) hx hb dX12_sheet_66 hl (by decide) rfl (fun ls hl => ?_)
                            refine lv_iload hx hb dX12_sheet_68 (lv_at hl 0 rfl) ?_
                            refine lv_bipush (v := 40) hx hb dX12_sheet_70 (by decide) ?_
                            refine lv_icmp_ge (tgt := 94) hx hb dX12_sheet_72 (by decide) (fun c1101 => ?_) (fun c1101 => ?_)
                            · exact absurd c1101 (by decide)
                            · refine lv_aload_n hx hb dX12_sheet_75 rfl (lv_at hl 1 rfl) ?_
                              refine va_get (D := D) (ci := 12) (v := .ref h11) (C := RX12) (T := TX12) (N := 24) hx hb hts hin12 hown hK hP 0 rfl rfl 18 (by decide) (hts (.fieldLink RX12 44 "MissedPointsModel" "items" "[I") (by decide +kernel)) (fun _ h9 => h9) rfl dX12_sheet_76 ?_
                              refine lv_bipush (v := 40) hx hb dX12_sheet_79 (by decide) ?_
                              refine lv_iload_n hx hb dX12_sheet_81 rfl (lv_at hl 2 rfl) ?_
                              refine lv_imul hx hb dX12_sheet_82 ?_
                              refine lz_top (y := 40) (by decide) ?_
                              refine lv_iload hx hb dX12_sheet_83 (lv_at hl 0 rfl) ?_
                              refine lv_iadd hx hb dX12_sheet_85 ?_
                              refine lz_top (y := 40) (by decide) ?_
                              refine lv_iconst (v := 0) hx hb dX12_sheet_86 (by decide) ?_
                              refine lz_astc hx hb hK hP hD hS 11 0 rfl rfl (lz_vp (x := 40) (n := 160) (by decide) (by decide)) dX12_sheet_87 (fun H locs hP hD hS => ?_)
                              refine lv_iinc (v := 1) (lv' := [(4, .int 1), (0, .ref h0), (1, .int 1), (2, .int x1), (3, .int x2)]) hx hb dX12_sheet_88 hl (k := 0) rfl (by decide) (by decide) rfl (fun ls hl => ?_)
                              refine lv_goto (tgt := 68) hx hb dX12_sheet_91 (by decide) ?_
                              refine lv_iload hx hb dX12_sheet_68 (lv_at hl 0 rfl) ?_
                              refine lv_bipush (v := 40) hx hb dX12_sheet_70 (by decide) ?_
                              refine lv_icmp_ge (tgt := 94) hx hb dX12_sheet_72 (by decide) (fun c1102 => ?_) (fun c1102 => ?_)
                              · exact absurd c1102 (by decide)
                              · refine lv_aload_n hx hb dX12_sheet_75 rfl (lv_at hl 1 rfl) ?_
                                refine va_get (D := D) (ci := 12) (v := .ref h11) (C := RX12) (T := TX12) (N := 24) hx hb hts hin12 hown hK hP 0 rfl rfl 18 (by decide) (hts (.fieldLink RX12 44 "MissedPointsModel" "items" "[I") (by decide +kernel)) (fun _ h9 => h9) rfl dX12_sheet_76 ?_
                                refine lv_bipush (v := 40) hx hb dX12_sheet_79 (by decide) ?_
                                refine lv_iload_n hx hb dX12_sheet_81 rfl (lv_at hl 2 rfl) ?_
                                refine lv_imul hx hb dX12_sheet_82 ?_
                                refine lz_top (y := 40) (by decide) ?_
                                refine lv_iload hx hb dX12_sheet_83 (lv_at hl 0 rfl) ?_
                                refine lv_iadd hx hb dX12_sheet_85 ?_
                                refine lz_top (y := 41) (by decide) ?_
                                refine lv_iconst (v := 0) hx hb dX12_sheet_86 (by decide) ?_
                                refine lz_astc hx hb hK hP hD hS 11 0 rfl rfl (lz_vp (x := 41) (n := 160) (by decide) (by decide)) dX12_sheet_87 (fun H locs hP hD hS => ?_)
                                refine lv_iinc (v := 2) (lv' := [(4, .int 2), (0, .ref h0), (1, .int 1), (2, .int x1), (3, .int x2)]) hx hb dX12_sheet_88 hl (k := 0) rfl (by decide) (by decide) rfl (fun ls hl => ?_)
                                refine lv_goto (tgt := 68) hx hb dX12_sheet_91 (by decide) ?_
                                refine lv_iload hx hb dX12_sheet_68 (lv_at hl 0 rfl) ?_
                                refine lv_bipush (v := 40) hx hb dX12_sheet_70 (by decide) ?_
                                refine lv_icmp_ge (tgt := 94) hx hb dX12_sheet_72 (by decide) (fun c1103 => ?_) (fun c1103 => ?_)
                                · exact absurd c1103 (by decide)
                                · refine lv_aload_n hx hb dX12_sheet_75 rfl (lv_at hl 1 rfl) ?_
                                  refine va_get (D := D) (ci := 12) (v := .ref h11) (C := RX12) (T := TX12) (N := 24) hx hb hts hin12 hown hK hP 0 rfl rfl 18 (by decide) (hts (.fieldLink RX12 44 "MissedPointsModel" "items" "[I") (by decide +kernel)) (fun _ h9 => h9) rfl dX12_sheet_76 ?_
                                  refine lv_bipush (v := 40) hx hb dX12_sheet_79 (by decide) ?_
                                  refine lv_iload_n hx hb dX12_sheet_81 rfl (lv_at hl 2 rfl) ?_
                                  refine lv_imul hx hb dX12_sheet_82 ?_
                                  refine lz_top (y := 40) (by decide) ?_
                                  refine lv_iload hx hb dX12_sheet_83 (lv_at hl 0 rfl) ?_
                                  refine lv_iadd hx hb dX12_sheet_85 ?_
                                  refine lz_top (y := 42) (by decide) ?_
                                  refine lv_iconst (v := 0) hx hb dX12_sheet_86 (by decide) ?_
                                  refine lz_astc hx hb hK hP hD hS 11 0 rfl rfl (lz_vp (x := 42) (n := 160) (by decide) (by decide)) dX12_sheet_87 (fun H locs hP hD hS => ?_)
                                  refine lv_iinc (v := 3) (lv' := [(4, .int 3), (0, .ref h0), (1, .int 1), (2, .int x1), (3, .int x2)]) hx hb dX12_sheet_88 hl (k := 0) rfl (by decide) (by decide) rfl (fun ls hl => ?_)
                                  refine lv_goto (tgt := 68) hx hb dX12_sheet_91 (by decide) ?_
                                  refine lv_iload hx hb dX12_sheet_68 (lv_at hl 0 rfl) ?_
                                  refine lv_bipush (v := 40) hx hb dX12_sheet_70 (by decide) ?_
                                  refine lv_icmp_ge (tgt := 94) hx hb dX12_sheet_72 (by decide) (fun c1104 => ?_) (fun c1104 => ?_)
                                  · exact absurd c1104 (by decide)
                                  · refine lv_aload_n hx hb dX12_sheet_75 rfl (lv_at hl 1 rfl) ?_
                                    refine va_get (D := D) (ci := 12) (v := .ref h11) (C := RX12) (T := TX12) (N := 24) hx hb hts hin12 hown hK hP 0 rfl rfl 18 (by decide) (hts (.fieldLink RX12 44 "MissedPointsModel" "items" "[I") (by decide +kernel)) (fun _ h9 => h9) rfl dX12_sheet_76 ?_
                                    refine lv_bipush (v := 40) hx hb dX12_sheet_79 (by decide) ?_
                                    refine lv_iload_n hx hb dX12_sheet_81 rfl (lv_at hl 2 rfl) ?_
                                    refine lv_imul hx hb dX12_sheet_82 ?_
                                    refine lz_top (y := 40) (by decide) ?_
                                    refine lv_iload hx hb dX12_sheet_83 (lv_at hl 0 rfl) ?_
                                    refine lv_iadd hx hb dX12_sheet_85 ?_
                                    refine lz_top (y := 43) (by decide) ?_
                                    refine lv_iconst (v := 0) hx hb dX12_sheet_86 (by decide) ?_
                                    refine lz_astc hx hb hK hP hD hS 11 0 rfl rfl (lz_vp (x := 43) (n := 160) (by decide) (by decide)) dX12_sheet_87 (fun H locs hP hD hS => ?_)
                                    refine lv_iinc (v := 4) (lv' := [(4, .int 4), (0, .ref h0), (1, .int 1), (2, .int x1), (3, .int x2)]) hx hb dX12_sheet_88 hl (k := 0) rfl (by decide) (by decide) rfl (fun ls hl => ?_)
                                    refine lv_goto (tgt := 68) hx hb dX12_sheet_91 (by decide) ?_
                                    refine lv_iload hx hb dX12_sheet_68 (lv_at hl 0 rfl) ?_
                                    refine lv_bipush (v := 40) hx hb dX12_sheet_70 (by decide) ?_
                                    refine lv_icmp_ge (tgt := 94) hx hb dX12_sheet_72 (by decide) (fun c1105 => ?_) (fun c1105 => ?_)
                                    · exact absurd c1105 (by decide)
                                    · refine lv_aload_n hx hb dX12_sheet_75 rfl (lv_at hl 1 rfl) ?_
                                      refine va_get (D := D) (ci := 12) (v := .ref h11) (C := RX12) (T := TX12) (N := 24) hx hb hts hin12 hown hK hP 0 rfl rfl 18 (by decide) (hts (.fieldLink RX12 44 "MissedPointsModel" "items" "[I") (by decide +kernel)) (fun _ h9 => h9) rfl dX12_sheet_76 ?_
                                      refine lv_bipush (v := 40) hx hb dX12_sheet_79 (by decide) ?_
                                      refine lv_iload_n hx hb dX12_sheet_81 rfl (lv_at hl 2 rfl) ?_
                                      refine lv_imul hx hb dX12_sheet_82 ?_
                                      refine lz_top (y := 40) (by decide) ?_
                                      refine lv_iload hx hb dX12_sheet_83 (lv_at hl 0 rfl) ?_
                                      refine lv_iadd hx hb dX12_sheet_85 ?_
                                      refine lz_top (y := 44) (by decide) ?_
                                      refine lv_iconst (v := 0) hx hb dX12_sheet_86 (by decide) ?_
                                      refine lz_astc hx hb hK hP hD hS 11 0 rfl rfl (lz_vp (x := 44) (n := 160) (by decide) (by decide)) dX12_sheet_87 (fun H locs hP hD hS => ?_)
                                      refine lv_iinc (v := 5) (lv' := [(4, .int 5), (0, .ref h0), (1, .int 1), (2, .int x1), (3, .int x2)]) hx hb dX12_sheet_88 hl (k := 0) rfl (by decide) (by decide) rfl (fun ls hl => ?_)
                                      refine lv_goto (tgt := 68) hx hb dX12_sheet_91 (by decide) ?_
                                      refine lv_iload hx hb dX12_sheet_68 (lv_at hl 0 rfl) ?_
                                      refine lv_bipush (v := 40) hx hb dX12_sheet_70 (by decide) ?_
                                      refine lv_icmp_ge (tgt := 94) hx hb dX12_sheet_72 (by decide) (fun c1106 => ?_) (fun c1106 => ?_)
                                      · exact absurd c1106 (by decide)
                                      · refine lv_aload_n hx hb dX12_sheet_75 rfl (lv_at hl 1 rfl) ?_
                                        refine va_get (D := D) (ci := 12) (v := .ref h11) (C := RX12) (T := TX12) (N := 24) hx hb hts hin12 hown hK hP 0 rfl rfl 18 (by decide) (hts (.fieldLink RX12 44 "MissedPointsModel" "items" "[I") (by decide +kernel)) (fun _ h9 => h9) rfl dX12_sheet_76 ?_
                                        refine lv_bipush (v := 40) hx hb dX12_sheet_79 (by decide) ?_
                                        refine lv_iload_n hx hb dX12_sheet_81 rfl (lv_at hl 2 rfl) ?_
                                        refine lv_imul hx hb dX12_sheet_82 ?_
                                        refine lz_top (y := 40) (by decide) ?_
                                        refine lv_iload hx hb dX12_sheet_83 (lv_at hl 0 rfl) ?_
                                        refine lv_iadd hx hb dX12_sheet_85 ?_
                                        refine lz_top (y := 45) (by decide) ?_
                                        refine lv_iconst (v := 0) hx hb dX12_sheet_86 (by decide) ?_
                                        refine lz_astc hx hb hK hP hD hS 11 0 rfl rfl (lz_vp (x := 45) (n := 160) (by decide) (by decide)) dX12_sheet_87 (fun H locs hP hD hS => ?_)
                                        refine lv_iinc (v := 6) (lv' := [(4, .int 6), (0, .ref h0), (1, .int 1), (2, .int x1), (3, .int x2)]) hx hb dX12_sheet_88 hl (k := 0) rfl (by decide) (by decide) rfl (fun ls hl => ?_)
                                        refine lv_goto (tgt := 68) hx hb dX12_sheet_91 (by decide) ?_
                                        refine lv_iload hx hb dX12_sheet_68 (lv_at hl 0 rfl) ?_
                                        refine lv_bipush (v := 40) hx hb dX12_sheet_70 (by decide) ?_
                                        refine lv_icmp_ge (tgt := 94) hx hb dX12_sheet_72 (by decide) (fun c1107 => ?_) (fun c1107 => ?_)
                                        · exact absurd c1107 (by decide)
                                        · refine lv_aload_n hx hb dX12_sheet_75 rfl (lv_at hl 1 rfl) ?_
                                          refine va_get (D := D) (ci := 12) (v := .ref h11) (C := RX12) (T := TX12) (N := 24) hx hb hts hin12 hown hK hP 0 rfl rfl 18 (by decide) (hts (.fieldLink RX12 44 "MissedPointsModel" "items" "[I") (by decide +kernel)) (fun _ h9 => h9) rfl dX12_sheet_76 ?_
                                          refine lv_bipush (v := 40) hx hb dX12_sheet_79 (by decide) ?_
                                          refine lv_iload_n hx hb dX12_sheet_81 rfl (lv_at hl 2 rfl) ?_
                                          refine lv_imul hx hb dX12_sheet_82 ?_
                                          refine lz_top (y := 40) (by decide) ?_
                                          refine lv_iload hx hb dX12_sheet_83 (lv_at hl 0 rfl) ?_
                                          refine lv_iadd hx hb dX12_sheet_85 ?_
                                          refine lz_top (y := 46) (by decide) ?_
                                          refine lv_iconst (v := 0) hx hb dX12_sheet_86 (by decide) ?_
                                          refine lz_astc hx hb hK hP hD hS 11 0 rfl rfl (lz_vp (x := 46) (n := 160) (by decide) (by decide)) dX12_sheet_87 (fun H locs hP hD hS => ?_)
                                          refine lv_iinc (v := 7) (lv' := [(4, .int 7), (0, .ref h0), (1, .int 1), (2, .int x1), (3, .int x2)]) hx hb dX12_sheet_88 hl (k := 0) rfl (by decide) (by decide) rfl (fun ls hl => ?_)
                                          refine lv_goto (tgt := 68) hx hb dX12_sheet_91 (by decide) ?_
                                          refine lv_iload hx hb dX12_sheet_68 (lv_at hl 0 rfl) ?_
                                          refine lv_bipush (v := 40) hx hb dX12_sheet_70 (by decide) ?_
                                          refine lv_icmp_ge (tgt := 94) hx hb dX12_sheet_72 (by decide) (fun c1108 => ?_) (fun c1108 => ?_)
                                          · exact absurd c1108 (by decide)
                                          · refine lv_aload_n hx hb dX12_sheet_75 rfl (lv_at hl 1 rfl) ?_
                                            refine va_get (D := D) (ci := 12) (v := .ref h11) (C := RX12) (T := TX12) (N := 24) hx hb hts hin12 hown hK hP 0 rfl rfl 18 (by decide) (hts (.fieldLink RX12 44 "MissedPointsModel" "items" "[I") (by decide +kernel)) (fun _ h9 => h9) rfl dX12_sheet_76 ?_
                                            refine lv_bipush (v := 40) hx hb dX12_sheet_79 (by decide) ?_
                                            refine lv_iload_n hx hb dX12_sheet_81 rfl (lv_at hl 2 rfl) ?_
                                            refine lv_imul hx hb dX12_sheet_82 ?_
                                            refine lz_top (y := 40) (by decide) ?_
                                            refine lv_iload hx hb dX12_sheet_83 (lv_at hl 0 rfl) ?_
                                            refine lv_iadd hx hb dX12_sheet_85 ?_
                                            refine lz_top (y := 47) (by decide) ?_
                                            refine lv_iconst (v := 0) hx hb dX12_sheet_86 (by decide) ?_
                                            refine lz_astc hx hb hK hP hD hS 11 0 rfl rfl (lz_vp (x := 47) (n := 160) (by decide) (by decide)) dX12_sheet_87 (fun H locs hP hD hS => ?_)
                                            refine lv_iinc (v := 8) (lv' := [(4, .int 8), (0, .ref h0), (1, .int 1), (2, .int x1), (3, .int x2)]) hx hb dX12_sheet_88 hl (k := 0) rfl (by decide) (by decide) rfl (fun ls hl => ?_)
                                            refine lv_goto (tgt := 68) hx hb dX12_sheet_91 (by decide) ?_
                                            refine lv_iload hx hb dX12_sheet_68 (lv_at hl 0 rfl) ?_
                                            refine lv_bipush (v := 40) hx hb dX12_sheet_70 (by decide) ?_
                                            refine lv_icmp_ge (tgt := 94) hx hb dX12_sheet_72 (by decide) (fun c1109 => ?_) (fun c1109 => ?_)
                                            · exact absurd c1109 (by decide)
                                            · refine lv_aload_n hx hb dX12_sheet_75 rfl (lv_at hl 1 rfl) ?_
                                              refine va_get (D := D) (ci := 12) (v := .ref h11) (C := RX12) (T := TX12) (N := 24) hx hb hts hin12 hown hK hP 0 rfl rfl 18 (by decide) (hts (.fieldLink RX12 44 "MissedPointsModel" "items" "[I") (by decide +kernel)) (fun _ h9 => h9) rfl dX12_sheet_76 ?_
                                              refine lv_bipush (v := 40) hx hb dX12_sheet_79 (by decide) ?_
                                              refine lv_iload_n hx hb dX12_sheet_81 rfl (lv_at hl 2 rfl) ?_
                                              refine lv_imul hx hb dX12_sheet_82 ?_
                                              refine lz_top (y := 40) (by decide) ?_
                                              refine lv_iload hx hb dX12_sheet_83 (lv_at hl 0 rfl) ?_
                                              refine lv_iadd hx hb dX12_sheet_85 ?_
                                              refine lz_top (y := 48) (by decide) ?_
                                              refine lv_iconst (v := 0) hx hb dX12_sheet_86 (by decide) ?_
                                              refine lz_astc hx hb hK hP hD hS 11 0 rfl rfl (lz_vp (x := 48) (n := 160) (by decide) (by decide)) dX12_sheet_87 (fun H locs hP hD hS => ?_)
                                              refine lv_iinc (v := 9) (lv' := [(4, .int 9), (0, .ref h0), (1, .int 1), (2, .int x1), (3, .int x2)]) hx hb dX12_sheet_88 hl (k := 0) rfl (by decide) (by decide) rfl (fun ls hl => ?_)
                                              refine lv_goto (tgt := 68) hx hb dX12_sheet_91 (by decide) ?_
                                              refine lv_iload hx hb dX12_sheet_68 (lv_at hl 0 rfl) ?_
                                              refine lv_bipush (v := 40) hx hb dX12_sheet_70 (by decide) ?_
                                              refine lv_icmp_ge (tgt := 94) hx hb dX12_sheet_72 (by decide) (fun c1110 => ?_) (fun c1110 => ?_)
                                              · exact absurd c1110 (by decide)
                                              · refine lv_aload_n hx hb dX12_sheet_75 rfl (lv_at hl 1 rfl) ?_
                                                refine va_get (D := D) (ci := 12) (v := .ref h11) (C := RX12) (T := TX12) (N := 24) hx hb hts hin12 hown hK hP 0 rfl rfl 18 (by decide) (hts (.fieldLink RX12 44 "MissedPointsModel" "items" "[I") (by decide +kernel)) (fun _ h9 => h9) rfl dX12_sheet_76 ?_
                                                refine lv_bipush (v := 40) hx hb dX12_sheet_79 (by decide) ?_
                                                refine lv_iload_n hx hb dX12_sheet_81 rfl (lv_at hl 2 rfl) ?_
                                                refine lv_imul hx hb dX12_sheet_82 ?_
                                                refine lz_top (y := 40) (by decide) ?_
                                                refine lv_iload hx hb dX12_sheet_83 (lv_at hl 0 rfl) ?_
                                                refine lv_iadd hx hb dX12_sheet_85 ?_
                                                refine lz_top (y := 49) (by decide) ?_
                                                refine lv_iconst (v := 0) hx hb dX12_sheet_86 (by decide) ?_
                                                refine lz_astc hx hb hK hP hD hS 11 0 rfl rfl (lz_vp (x := 49) (n := 160) (by decide) (by decide)) dX12_sheet_87 (fun H locs hP hD hS => ?_)
                                                refine lv_iinc (v := 10) (lv' := [(4, .int 10), (0, .ref h0), (1, .int 1), (2, .int x1), (3, .int x2)]) hx hb dX12_sheet_88 hl (k := 0) rfl (by decide) (by decide) rfl (fun ls hl => ?_)
                                                refine lv_goto (tgt := 68) hx hb dX12_sheet_91 (by decide) ?_
                                                refine lv_iload hx hb dX12_sheet_68 (lv_at hl 0 rfl) ?_
                                                refine lv_bipush (v := 40) hx hb dX12_sheet_70 (by decide) ?_
                                                refine lv_icmp_ge (tgt := 94) hx hb dX12_sheet_72 (by decide) (fun c1111 => ?_) (fun c1111 => ?_)
                                                · exact absurd c1111 (by decide)
                                                · refine lv_aload_n hx hb dX12_sheet_75 rfl (lv_at hl 1 rfl) ?_
                                                  refine va_get (D := D) (ci := 12) (v := .ref h11) (C := RX12) (T := TX12) (N := 24) hx hb hts hin12 hown hK hP 0 rfl rfl 18 (by decide) (hts (.fieldLink RX12 44 "MissedPointsModel" "items" "[I") (by decide +kernel)) (fun _ h9 => h9) rfl dX12_sheet_76 ?_
                                                  refine lv_bipush (v := 40) hx hb dX12_sheet_79 (by decide) ?_
                                                  refine lv_iload_n hx hb dX12_sheet_81 rfl (lv_at hl 2 rfl) ?_
                                                  refine lv_imul hx hb dX12_sheet_82 ?_
                                                  refine lz_top (y := 40) (by decide) ?_
                                                  refine lv_iload hx hb dX12_sheet_83 (lv_at hl 0 rfl) ?_
                                                  refine lv_iadd hx hb dX12_sheet_85 ?_
                                                  refine lz_top (y := 50) (by decide) ?_
                                                  refine lv_iconst (v := 0) hx hb dX12_sheet_86 (by decide) ?_
                                                  refine lz_astc hx hb hK hP hD hS 11 0 rfl rfl (lz_vp (x := 50) (n := 160) (by decide) (by decide)) dX12_sheet_87 (fun H locs hP hD hS => ?_)
                                                  refine lv_iinc (v := 11) (lv' := [(4, .int 11), (0, .ref h0), (1, .int 1), (2, .int x1), (3, .int x2)]) hx hb dX12_sheet_88 hl (k := 0) rfl (by decide) (by decide) rfl (fun ls hl => ?_)
                                                  refine lv_goto (tgt := 68) hx hb dX12_sheet_91 (by decide) ?_
                                                  refine lv_iload hx hb dX12_sheet_68 (lv_at hl 0 rfl) ?_
                                                  refine lv_bipush (v := 40) hx hb dX12_sheet_70 (by decide) ?_
                                                  refine lv_icmp_ge (tgt := 94) hx hb dX12_sheet_72 (by decide) (fun c1112 => ?_) (fun c1112 => ?_)
                                                  · exact absurd c1112 (by decide)
                                                  · refine lv_aload_n hx hb dX12_sheet_75 rfl (lv_at hl 1 rfl) ?_
                                                    refine va_get (D := D) (ci := 12) (v := .ref h11) (C := RX12) (T := TX12) (N := 24) hx hb hts hin12 hown hK hP 0 rfl rfl 18 (by decide) (hts (.fieldLink RX12 44 "MissedPointsModel" "items" "[I") (by decide +kernel)) (fun _ h9 => h9) rfl dX12_sheet_76 ?_
                                                    refine lv_bipush (v := 40) hx hb dX12_sheet_79 (by decide) ?_
                                                    refine lv_iload_n hx hb dX12_sheet_81 rfl (lv_at hl 2 rfl) ?_
                                                    refine lv_imul hx hb dX12_sheet_82 ?_
                                                    refine lz_top (y := 40) (by decide) ?_
                                                    refine lv_iload hx hb dX12_sheet_83 (lv_at hl 0 rfl) ?_
                                                    refine lv_iadd hx hb dX12_sheet_85 ?_
                                                    refine lz_top (y := 51) (by decide) ?_
                                                    refine lv_iconst (v := 0) hx hb dX12_sheet_86 (by decide) ?_
                                                    refine lz_astc hx hb hK hP hD hS 11 0 rfl rfl (lz_vp (x := 51) (n := 160) (by decide) (by decide)) dX12_sheet_87 (fun H locs hP hD hS => ?_)
                                                    refine lv_iinc (v := 12) (lv' := [(4, .int 12), (0, .ref h0), (1, .int 1), (2, .int x1), (3, .int x2)]) hx hb dX12_sheet_88 hl (k := 0) rfl (by decide) (by decide) rfl (fun ls hl => ?_)
                                                    refine lv_goto (tgt := 68) hx hb dX12_sheet_91 (by decide) ?_
                                                    refine lv_iload hx hb dX12_sheet_68 (lv_at hl 0 rfl) ?_
                                                    refine lv_bipush (v := 40) hx hb dX12_sheet_70 (by decide) ?_
                                                    refine lv_icmp_ge (tgt := 94) hx hb dX12_sheet_72 (by decide) (fun c1113 => ?_) (fun c1113 => ?_)
                                                    · exact absurd c1113 (by decide)
                                                    · refine lv_aload_n hx hb dX12_sheet_75 rfl (lv_at hl 1 rfl) ?_
                                                      refine va_get (D := D) (ci := 12) (v := .ref h11) (C := RX12) (T := TX12) (N := 24) hx hb hts hin12 hown hK hP 0 rfl rfl 18 (by decide) (hts (.fieldLink RX12 44 "MissedPointsModel" "items" "[I") (by decide +kernel)) (fun _ h9 => h9) rfl dX12_sheet_76 ?_
                                                      refine lv_bipush (v := 40) hx hb dX12_sheet_79 (by decide) ?_
                                                      refine lv_iload_n hx hb dX12_sheet_81 rfl (lv_at hl 2 rfl) ?_
                                                      refine lv_imul hx hb dX12_sheet_82 ?_
                                                      refine lz_top (y := 40) (by decide) ?_
                                                      refine lv_iload hx hb dX12_sheet_83 (lv_at hl 0 rfl) ?_
                                                      refine lv_iadd hx hb dX12_sheet_85 ?_
                                                      refine lz_top (y := 52) (by decide) ?_
                                                      refine lv_iconst (v := 0) hx hb dX12_sheet_86 (by decide) ?_
                                                      refine lz_astc hx hb hK hP hD hS 11 0 rfl rfl (lz_vp (x := 52) (n := 160) (by decide) (by decide)) dX12_sheet_87 (fun H locs hP hD hS => ?_)
                                                      refine lv_iinc (v := 13) (lv' := [(4, .int 13), (0, .ref h0), (1, .int 1), (2, .int x1), (3, .int x2)]) hx hb dX12_sheet_88 hl (k := 0) rfl (by decide) (by decide) rfl (fun ls hl => ?_)
                                                      refine lv_goto (tgt := 68) hx hb dX12_sheet_91 (by decide) ?_
                                                      refine lv_iload hx hb dX12_sheet_68 (lv_at hl 0 rfl) ?_
                                                      refine lv_bipush (v := 40) hx hb dX12_sheet_70 (by decide) ?_
                                                      refine lv_icmp_ge (tgt := 94) hx hb dX12_sheet_72 (by decide) (fun c1114 => ?_) (fun c1114 => ?_)
                                                      · exact absurd c1114 (by decide)
                                                      · refine lv_aload_n hx hb dX12_sheet_75 rfl (lv_at hl 1 rfl) ?_
                                                        refine va_get (D := D) (ci := 12) (v := .ref h11) (C := RX12) (T := TX12) (N := 24) hx hb hts hin12 hown hK hP 0 rfl rfl 18 (by decide) (hts (.fieldLink RX12 44 "MissedPointsModel" "items" "[I") (by decide +kernel)) (fun _ h9 => h9) rfl dX12_sheet_76 ?_
                                                        refine lv_bipush (v := 40) hx hb dX12_sheet_79 (by decide) ?_
                                                        refine lv_iload_n hx hb dX12_sheet_81 rfl (lv_at hl 2 rfl) ?_
                                                        refine lv_imul hx hb dX12_sheet_82 ?_
                                                        refine lz_top (y := 40) (by decide) ?_
                                                        refine lv_iload hx hb dX12_sheet_83 (lv_at hl 0 rfl) ?_
                                                        refine lv_iadd hx hb dX12_sheet_85 ?_
                                                        refine lz_top (y := 53) (by decide) ?_
                                                        refine lv_iconst (v := 0) hx hb dX12_sheet_86 (by decide) ?_
                                                        refine lz_astc hx hb hK hP hD hS 11 0 rfl rfl (lz_vp (x := 53) (n := 160) (by decide) (by decide)) dX12_sheet_87 (fun H locs hP hD hS => ?_)
                                                        refine lv_iinc (v := 14) (lv' := [(4, .int 14), (0, .ref h0), (1, .int 1), (2, .int x1), (3, .int x2)]) hx hb dX12_sheet_88 hl (k := 0) rfl (by decide) (by decide) rfl (fun ls hl => ?_)
                                                        refine lv_goto (tgt := 68) hx hb dX12_sheet_91 (by decide) ?_
                                                        refine lv_iload hx hb dX12_sheet_68 (lv_at hl 0 rfl) ?_
                                                        refine lv_bipush (v := 40) hx hb dX12_sheet_70 (by decide) ?_
                                                        refine lv_icmp_ge (tgt := 94) hx hb dX12_sheet_72 (by decide) (fun c1115 => ?_) (fun c1115 => ?_)
                                                        · exact absurd c1115 (by decide)
                                                        · refine lv_aload_n hx hb dX12_sheet_75 rfl (lv_at hl 1 rfl) ?_
                                                          refine va_get (D := D) (ci := 12) (v := .ref h11) (C := RX12) (T := TX12) (N := 24) hx hb hts hin12 hown hK hP 0 rfl rfl 18 (by decide) (hts (.fieldLink RX12 44 "MissedPointsModel" "items" "[I") (by decide +kernel)) (fun _ h9 => h9) rfl dX12_sheet_76 ?_
                                                          refine lv_bipush (v := 40) hx hb dX12_sheet_79 (by decide) ?_
                                                          refine lv_iload_n hx hb dX12_sheet_81 rfl (lv_at hl 2 rfl) ?_
                                                          refine lv_imul hx hb dX12_sheet_82 ?_
                                                          refine lz_top (y := 40) (by decide) ?_
                                                          refine lv_iload hx hb dX12_sheet_83 (lv_at hl 0 rfl) ?_
                                                          refine lv_iadd hx hb dX12_sheet_85 ?_
                                                          refine lz_top (y := 54) (by decide) ?_
                                                          refine lv_iconst (v := 0) hx hb dX12_sheet_86 (by decide) ?_
                                                          refine lz_astc hx hb hK hP hD hS 11 0 rfl rfl (lz_vp (x := 54) (n := 160) (by decide) (by decide)) dX12_sheet_87 (fun H locs hP hD hS => ?_)
                                                          refine lv_iinc (v := 15) (lv' := [(4, .int 15), (0, .ref h0), (1, .int 1), (2, .int x1), (3, .int x2)]) hx hb dX12_sheet_88 hl (k := 0) rfl (by decide) (by decide) rfl (fun ls hl => ?_)
                                                          refine lv_goto (tgt := 68) hx hb dX12_sheet_91 (by decide) ?_
                                                          refine lv_iload hx hb dX12_sheet_68 (lv_at hl 0 rfl) ?_
                                                          refine lv_bipush (v := 40) hx hb dX12_sheet_70 (by decide) ?_
                                                          refine lv_icmp_ge (tgt := 94) hx hb dX12_sheet_72 (by decide) (fun c1116 => ?_) (fun c1116 => ?_)
                                                          · exact absurd c1116 (by decide)
                                                          · refine lv_aload_n hx hb dX12_sheet_75 rfl (lv_at hl 1 rfl) ?_
                                                            refine va_get (D := D) (ci := 12) (v := .ref h11) (C := RX12) (T := TX12) (N := 24) hx hb hts hin12 hown hK hP 0 rfl rfl 18 (by decide) (hts (.fieldLink RX12 44 "MissedPointsModel" "items" "[I") (by decide +kernel)) (fun _ h9 => h9) rfl dX12_sheet_76 ?_
                                                            refine lv_bipush (v := 40) hx hb dX12_sheet_79 (by decide) ?_
                                                            refine lv_iload_n hx hb dX12_sheet_81 rfl (lv_at hl 2 rfl) ?_
                                                            refine lv_imul hx hb dX12_sheet_82 ?_
                                                            refine lz_top (y := 40) (by decide) ?_
                                                            refine lv_iload hx hb dX12_sheet_83 (lv_at hl 0 rfl) ?_
                                                            refine lv_iadd hx hb dX12_sheet_85 ?_
                                                            refine lz_top (y := 55) (by decide) ?_
                                                            refine lv_iconst (v := 0) hx hb dX12_sheet_86 (by decide) ?_
                                                            refine lz_astc hx hb hK hP hD hS 11 0 rfl rfl (lz_vp (x := 55) (n := 160) (by decide) (by decide)) dX12_sheet_87 (fun H locs hP hD hS => ?_)
                                                            refine lv_iinc (v := 16) (lv' := [(4, .int 16), (0, .ref h0), (1, .int 1), (2, .int x1), (3, .int x2)]) hx hb dX12_sheet_88 hl (k := 0) rfl (by decide) (by decide) rfl (fun ls hl => ?_)
                                                            refine lv_goto (tgt := 68) hx hb dX12_sheet_91 (by decide) ?_
                                                            refine lv_iload hx hb dX12_sheet_68 (lv_at hl 0 rfl) ?_
                                                            refine lv_bipush (v := 40) hx hb dX12_sheet_70 (by decide) ?_
                                                            refine lv_icmp_ge (tgt := 94) hx hb dX12_sheet_72 (by decide) (fun c1117 => ?_) (fun c1117 => ?_)
                                                            · exact absurd c1117 (by decide)
                                                            · refine lv_aload_n hx hb dX12_sheet_75 rfl (lv_at hl 1 rfl) ?_
                                                              refine va_get (D := D) (ci := 12) (v := .ref h11) (C := RX12) (T := TX12) (N := 24) hx hb hts hin12 hown hK hP 0 rfl rfl 18 (by decide) (hts (.fieldLink RX12 44 "MissedPointsModel" "items" "[I") (by decide +kernel)) (fun _ h9 => h9) rfl dX12_sheet_76 ?_
                                                              refine lv_bipush (v := 40) hx hb dX12_sheet_79 (by decide) ?_
                                                              refine lv_iload_n hx hb dX12_sheet_81 rfl (lv_at hl 2 rfl) ?_
                                                              refine lv_imul hx hb dX12_sheet_82 ?_
                                                              refine lz_top (y := 40) (by decide) ?_
                                                              refine lv_iload hx hb dX12_sheet_83 (lv_at hl 0 rfl) ?_
                                                              refine lv_iadd hx hb dX12_sheet_85 ?_
                                                              refine lz_top (y := 56) (by decide) ?_
                                                              refine lv_iconst (v := 0) hx hb dX12_sheet_86 (by decide) ?_
                                                              refine lz_astc hx hb hK hP hD hS 11 0 rfl rfl (lz_vp (x := 56) (n := 160) (by decide) (by decide)) dX12_sheet_87 (fun H locs hP hD hS => ?_)
                                                              refine lv_iinc (v := 17) (lv' := [(4, .int 17), (0, .ref h0), (1, .int 1), (2, .int x1), (3, .int x2)]) hx hb dX12_sheet_88 hl (k := 0) rfl (by decide) (by decide) rfl (fun ls hl => ?_)
                                                              refine lv_goto (tgt := 68) hx hb dX12_sheet_91 (by decide) ?_
                                                              refine lv_iload hx hb dX12_sheet_68 (lv_at hl 0 rfl) ?_
                                                              refine lv_bipush (v := 40) hx hb dX12_sheet_70 (by decide) ?_
                                                              refine lv_icmp_ge (tgt := 94) hx hb dX12_sheet_72 (by decide) (fun c1118 => ?_) (fun c1118 => ?_)
                                                              · exact absurd c1118 (by decide)
                                                              · refine lv_aload_n hx hb dX12_sheet_75 rfl (lv_at hl 1 rfl) ?_
                                                                refine va_get (D := D) (ci := 12) (v := .ref h11) (C := RX12) (T := TX12) (N := 24) hx hb hts hin12 hown hK hP 0 rfl rfl 18 (by decide) (hts (.fieldLink RX12 44 "MissedPointsModel" "items" "[I") (by decide +kernel)) (fun _ h9 => h9) rfl dX12_sheet_76 ?_
                                                                refine lv_bipush (v := 40) hx hb dX12_sheet_79 (by decide) ?_
                                                                refine lv_iload_n hx hb dX12_sheet_81 rfl (lv_at hl 2 rfl) ?_
                                                                refine lv_imul hx hb dX12_sheet_82 ?_
                                                                refine lz_top (y := 40) (by decide) ?_
                                                                refine lv_iload hx hb dX12_sheet_83 (lv_at hl 0 rfl) ?_
                                                                refine lv_iadd hx hb dX12_sheet_85 ?_
                                                                refine lz_top (y := 57) (by decide) ?_
                                                                refine lv_iconst (v := 0) hx hb dX12_sheet_86 (by decide) ?_
                                                                refine lz_astc hx hb hK hP hD hS 11 0 rfl rfl (lz_vp (x := 57) (n := 160) (by decide) (by decide)) dX12_sheet_87 (fun H locs hP hD hS => ?_)
                                                                refine lv_iinc (v := 18) (lv' := [(4, .int 18), (0, .ref h0), (1, .int 1), (2, .int x1), (3, .int x2)]) hx hb dX12_sheet_88 hl (k := 0) rfl (by decide) (by decide) rfl (fun ls hl => ?_)
                                                                refine lv_goto (tgt := 68) hx hb dX12_sheet_91 (by decide) ?_
                                                                refine lv_iload hx hb dX12_sheet_68 (lv_at hl 0 rfl) ?_
                                                                refine lv_bipush (v := 40) hx hb dX12_sheet_70 (by decide) ?_
                                                                refine lv_icmp_ge (tgt := 94) hx hb dX12_sheet_72 (by decide) (fun c1119 => ?_) (fun c1119 => ?_)
                                                                · exact absurd c1119 (by decide)
                                                                · refine lv_aload_n hx hb dX12_sheet_75 rfl (lv_at hl 1 rfl) ?_
                                                                  refine va_get (D := D) (ci := 12) (v := .ref h11) (C := RX12) (T := TX12) (N := 24) hx hb hts hin12 hown hK hP 0 rfl rfl 18 (by decide) (hts (.fieldLink RX12 44 "MissedPointsModel" "items" "[I") (by decide +kernel)) (fun _ h9 => h9) rfl dX12_sheet_76 ?_
                                                                  refine lv_bipush (v := 40) hx hb dX12_sheet_79 (by decide) ?_
                                                                  refine lv_iload_n hx hb dX12_sheet_81 rfl (lv_at hl 2 rfl) ?_
                                                                  refine lv_imul hx hb dX12_sheet_82 ?_
                                                                  refine lz_top (y := 40) (by decide) ?_
                                                                  refine lv_iload hx hb dX12_sheet_83 (lv_at hl 0 rfl) ?_
                                                                  refine lv_iadd hx hb dX12_sheet_85 ?_
                                                                  refine lz_top (y := 58) (by decide) ?_
                                                                  refine lv_iconst (v := 0) hx hb dX12_sheet_86 (by decide) ?_
                                                                  refine lz_astc hx hb hK hP hD hS 11 0 rfl rfl (lz_vp (x := 58) (n := 160) (by decide) (by decide)) dX12_sheet_87 (fun H locs hP hD hS => ?_)
                                                                  refine lv_iinc (v := 19) (lv' := [(4, .int 19), (0, .ref h0), (1, .int 1), (2, .int x1), (3, .int x2)]) hx hb dX12_sheet_88 hl (k := 0) rfl (by decide) (by decide) rfl (fun ls hl => ?_)
                                                                  refine lv_goto (tgt := 68) hx hb dX12_sheet_91 (by decide) ?_
                                                                  refine lv_iload hx hb dX12_sheet_68 (lv_at hl 0 rfl) ?_
                                                                  refine lv_bipush (v := 40) hx hb dX12_sheet_70 (by decide) ?_
                                                                  refine lv_icmp_ge (tgt := 94) hx hb dX12_sheet_72 (by decide) (fun c1120 => ?_) (fun c1120 => ?_)
                                                                  · exact absurd c1120 (by decide)
                                                                  · refine lv_aload_n hx hb dX12_sheet_75 rfl (lv_at hl 1 rfl) ?_
                                                                    refine va_get (D := D) (ci := 12) (v := .ref h11) (C := RX12) (T := TX12) (N := 24) hx hb hts hin12 hown hK hP 0 rfl rfl 18 (by decide) (hts (.fieldLink RX12 44 "MissedPointsModel" "items" "[I") (by decide +kernel)) (fun _ h9 => h9) rfl dX12_sheet_76 ?_
                                                                    refine lv_bipush (v := 40) hx hb dX12_sheet_79 (by decide) ?_
                                                                    refine lv_iload_n hx hb dX12_sheet_81 rfl (lv_at hl 2 rfl) ?_
                                                                    refine lv_imul hx hb dX12_sheet_82 ?_
                                                                    refine lz_top (y := 40) (by decide) ?_
                                                                    refine lv_iload hx hb dX12_sheet_83 (lv_at hl 0 rfl) ?_
                                                                    refine lv_iadd hx hb dX12_sheet_85 ?_
                                                                    refine lz_top (y := 59) (by decide) ?_
                                                                    refine lv_iconst (v := 0) hx hb dX12_sheet_86 (by decide) ?_
                                                                    refine lz_astc hx hb hK hP hD hS 11 0 rfl rfl (lz_vp (x := 59) (n := 160) (by decide) (by decide)) dX12_sheet_87 (fun H locs hP hD hS => ?_)
                                                                    refine lv_iinc (v := 20) (lv' := [(4, .int 20), (0, .ref h0), (1, .int 1), (2, .int x1), (3, .int x2)]) hx hb dX12_sheet_88 hl (k := 0) rfl (by decide) (by decide) rfl (fun ls hl => ?_)
                                                                    refine lv_goto (tgt := 68) hx hb dX12_sheet_91 (by decide) ?_
                                                                    refine lv_iload hx hb dX12_sheet_68 (lv_at hl 0 rfl) ?_
                                                                    refine lv_bipush (v := 40) hx hb dX12_sheet_70 (by decide) ?_
                                                                    refine lv_icmp_ge (tgt := 94) hx hb dX12_sheet_72 (by decide) (fun c1121 => ?_) (fun c1121 => ?_)
                                                                    · exact absurd c1121 (by decide)
                                                                    · refine lv_aload_n hx hb dX12_sheet_75 rfl (lv_at hl 1 rfl) ?_
                                                                      refine va_get (D := D) (ci := 12) (v := .ref h11) (C := RX12) (T := TX12) (N := 24) hx hb hts hin12 hown hK hP 0 rfl rfl 18 (by decide) (hts (.fieldLink RX12 44 "MissedPointsModel" "items" "[I") (by decide +kernel)) (fun _ h9 => h9) rfl dX12_sheet_76 ?_
                                                                      refine lv_bipush (v := 40) hx hb dX12_sheet_79 (by decide) ?_
                                                                      refine lv_iload_n hx hb dX12_sheet_81 rfl (lv_at hl 2 rfl) ?_
                                                                      refine lv_imul hx hb dX12_sheet_82 ?_
                                                                      refine lz_top (y := 40) (by decide) ?_
                                                                      refine lv_iload hx hb dX12_sheet_83 (lv_at hl 0 rfl) ?_
                                                                      refine lv_iadd hx hb dX12_sheet_85 ?_
                                                                      refine lz_top (y := 60) (by decide) ?_
                                                                      refine lv_iconst (v := 0) hx hb dX12_sheet_86 (by decide) ?_
                                                                      refine lz_astc hx hb hK hP hD hS 11 0 rfl rfl (lz_vp (x := 60) (n := 160) (by decide) (by decide)) dX12_sheet_87 (fun H locs hP hD hS => ?_)
                                                                      refine lv_iinc (v := 21) (lv' := [(4, .int 21), (0, .ref h0), (1, .int 1), (2, .int x1), (3, .int x2)]) hx hb dX12_sheet_88 hl (k := 0) rfl (by decide) (by decide) rfl (fun ls hl => ?_)
                                                                      refine lv_goto (tgt := 68) hx hb dX12_sheet_91 (by decide) ?_
                                                                      refine lv_iload hx hb dX12_sheet_68 (lv_at hl 0 rfl) ?_
                                                                      refine lv_bipush (v := 40) hx hb dX12_sheet_70 (by decide) ?_
                                                                      refine lv_icmp_ge (tgt := 94) hx hb dX12_sheet_72 (by decide) (fun c1122 => ?_) (fun c1122 => ?_)
                                                                      · exact absurd c1122 (by decide)
                                                                      · refine lv_aload_n hx hb dX12_sheet_75 rfl (lv_at hl 1 rfl) ?_
                                                                        refine va_get (D := D) (ci := 12) (v := .ref h11) (C := RX12) (T := TX12) (N := 24) hx hb hts hin12 hown hK hP 0 rfl rfl 18 (by decide) (hts (.fieldLink RX12 44 "MissedPointsModel" "items" "[I") (by decide +kernel)) (fun _ h9 => h9) rfl dX12_sheet_76 ?_
                                                                        refine lv_bipush (v := 40) hx hb dX12_sheet_79 (by decide) ?_
                                                                        refine lv_iload_n hx hb dX12_sheet_81 rfl (lv_at hl 2 rfl) ?_
                                                                        refine lv_imul hx hb dX12_sheet_82 ?_
                                                                        refine lz_top (y := 40) (by decide) ?_
                                                                        refine lv_iload hx hb dX12_sheet_83 (lv_at hl 0 rfl) ?_
                                                                        refine lv_iadd hx hb dX12_sheet_85 ?_
                                                                        refine lz_top (y := 61) (by decide) ?_
                                                                        refine lv_iconst (v := 0) hx hb dX12_sheet_86 (by decide) ?_
                                                                        refine lz_astc hx hb hK hP hD hS 11 0 rfl rfl (lz_vp (x := 61) (n := 160) (by decide) (by decide)) dX12_sheet_87 (fun H locs hP hD hS => ?_)
                                                                        refine lv_iinc (v := 22) (lv' := [(4, .int 22), (0, .ref h0), (1, .int 1), (2, .int x1), (3, .int x2)]) hx hb dX12_sheet_88 hl (k := 0) rfl (by decide) (by decide) rfl (fun ls hl => ?_)
                                                                        refine lv_goto (tgt := 68) hx hb dX12_sheet_91 (by decide) ?_
                                                                        refine lv_iload hx hb dX12_sheet_68 (lv_at hl 0 rfl) ?_
                                                                        refine lv_bipush (v := 40) hx hb dX12_sheet_70 (by decide) ?_
                                                                        refine lv_icmp_ge (tgt := 94) hx hb dX12_sheet_72 (by decide) (fun c1123 => ?_) (fun c1123 => ?_)
                                                                        · exact absurd c1123 (by decide)
                                                                        · refine lv_aload_n hx hb dX12_sheet_75 rfl (lv_at hl 1 rfl) ?_
                                                                          refine va_get (D := D) (ci := 12) (v := .ref h11) (C := RX12) (T := TX12) (N := 24) hx hb hts hin12 hown hK hP 0 rfl rfl 18 (by decide) (hts (.fieldLink RX12 44 "MissedPointsModel" "items" "[I") (by decide +kernel)) (fun _ h9 => h9) rfl dX12_sheet_76 ?_
                                                                          refine lv_bipush (v := 40) hx hb dX12_sheet_79 (by decide) ?_
                                                                          refine lv_iload_n hx hb dX12_sheet_81 rfl (lv_at hl 2 rfl) ?_
                                                                          refine lv_imul hx hb dX12_sheet_82 ?_
                                                                          refine lz_top (y := 40) (by decide) ?_
                                                                          refine lv_iload hx hb dX12_sheet_83 (lv_at hl 0 rfl) ?_
                                                                          refine lv_iadd hx hb dX12_sheet_85 ?_
                                                                          refine lz_top (y := 62) (by decide) ?_
                                                                          refine lv_iconst (v := 0) hx hb dX12_sheet_86 (by decide) ?_
                                                                          refine lz_astc hx hb hK hP hD hS 11 0 rfl rfl (lz_vp (x := 62) (n := 160) (by decide) (by decide)) dX12_sheet_87 (fun H locs hP hD hS => ?_)
                                                                          refine lv_iinc (v := 23) (lv' := [(4, .int 23), (0, .ref h0), (1, .int 1), (2, .int x1), (3, .int x2)]) hx hb dX12_sheet_88 hl (k := 0) rfl (by decide) (by decide) rfl (fun ls hl => ?_)
                                                                          refine lv_goto (tgt := 68) hx hb dX12_sheet_91 (by decide) ?_
                                                                          refine lv_iload hx hb dX12_sheet_68 (lv_at hl 0 rfl) ?_
                                                                          refine lv_bipush (v := 40) hx hb dX12_sheet_70 (by decide) ?_
                                                                          refine lv_icmp_ge (tgt := 94) hx hb dX12_sheet_72 (by decide) (fun c1124 => ?_) (fun c1124 => ?_)
                                                                          · exact absurd c1124 (by decide)
                                                                          · refine lv_aload_n hx hb dX12_sheet_75 rfl (lv_at hl 1 rfl) ?_
                                                                            refine va_get (D := D) (ci := 12) (v := .ref h11) (C := RX12) (T := TX12) (N := 24) hx hb hts hin12 hown hK hP 0 rfl rfl 18 (by decide) (hts (.fieldLink RX12 44 "MissedPointsModel" "items" "[I") (by decide +kernel)) (fun _ h9 => h9) rfl dX12_sheet_76 ?_
                                                                            refine lv_bipush (v := 40) hx hb dX12_sheet_79 (by decide) ?_
                                                                            refine lv_iload_n hx hb dX12_sheet_81 rfl (lv_at hl 2 rfl) ?_
                                                                            refine lv_imul hx hb dX12_sheet_82 ?_
                                                                            refine lz_top (y := 40) (by decide) ?_
                                                                            refine lv_iload hx hb dX12_sheet_83 (lv_at hl 0 rfl) ?_
                                                                            refine lv_iadd hx hb dX12_sheet_85 ?_
                                                                            refine lz_top (y := 63) (by decide) ?_
                                                                            refine lv_iconst (v := 0) hx hb dX12_sheet_86 (by decide) ?_
                                                                            refine lz_astc hx hb hK hP hD hS 11 0 rfl rfl (lz_vp (x := 63) (n := 160) (by decide) (by decide)) dX12_sheet_87 (fun H locs hP hD hS => ?_)
                                                                            refine lv_iinc (v := 24) (lv' := [(4, .int 24), (0, .ref h0), (1, .int 1), (2, .int x1), (3, .int x2)]) hx hb dX12_sheet_88 hl (k := 0) rfl (by decide) (by decide) rfl (fun ls hl => ?_)
                                                                            refine lv_goto (tgt := 68) hx hb dX12_sheet_91 (by decide) ?_
                                                                            refine lv_iload hx hb dX12_sheet_68 (lv_at hl 0 rfl) ?_
                                                                            refine lv_bipush (v := 40) hx hb dX12_sheet_70 (by decide) ?_
                                                                            refine lv_icmp_ge (tgt := 94) hx hb dX12_sheet_72 (by decide) (fun c1125 => ?_) (fun c1125 => ?_)
                                                                            · exact absurd c1125 (by decide)
                                                                            · refine lv_aload_n hx hb dX12_sheet_75 rfl (lv_at hl 1 rfl) ?_
                                                                              refine va_get (D := D) (ci := 12) (v := .ref h11) (C := RX12) (T := TX12) (N := 24) hx hb hts hin12 hown hK hP 0 rfl rfl 18 (by decide) (hts (.fieldLink RX12 44 "MissedPointsModel" "items" "[I") (by decide +kernel)) (fun _ h9 => h9) rfl dX12_sheet_76 ?_
                                                                              refine lv_bipush (v := 40) hx hb dX12_sheet_79 (by decide) ?_
                                                                              refine lv_iload_n hx hb dX12_sheet_81 rfl (lv_at hl 2 rfl) ?_
                                                                              refine lv_imul hx hb dX12_sheet_82 ?_
                                                                              refine lz_top (y := 40) (by decide) ?_
                                                                              refine lv_iload hx hb dX12_sheet_83 (lv_at hl 0 rfl) ?_
                                                                              refine lv_iadd hx hb dX12_sheet_85 ?_
                                                                              refine lz_top (y := 64) (by decide) ?_
                                                                              refine lv_iconst (v := 0) hx hb dX12_sheet_86 (by decide) ?_
                                                                              refine lz_astc hx hb hK hP hD hS 11 0 rfl rfl (lz_vp (x := 64) (n := 160) (by decide) (by decide)) dX12_sheet_87 (fun H locs hP hD hS => ?_)
                                                                              refine lv_iinc (v := 25) (lv' := [(4, .int 25), (0, .ref h0), (1, .int 1), (2, .int x1), (3, .int x2)]) hx hb dX12_sheet_88 hl (k := 0) rfl (by decide) (by decide) rfl (fun ls hl => ?_)
                                                                              refine lv_goto (tgt := 68) hx hb dX12_sheet_91 (by decide) ?_
                                                                              refine lv_iload hx hb dX12_sheet_68 (lv_at hl 0 rfl) ?_
                                                                              refine lv_bipush (v := 40) hx hb dX12_sheet_70 (by decide) ?_
                                                                              refine lv_icmp_ge (tgt := 94) hx hb dX12_sheet_72 (by decide) (fun c1126 => ?_) (fun c1126 => ?_)
                                                                              · exact absurd c1126 (by decide)
                                                                              · refine lv_aload_n hx hb dX12_sheet_75 rfl (lv_at hl 1 rfl) ?_
                                                                                refine va_get (D := D) (ci := 12) (v := .ref h11) (C := RX12) (T := TX12) (N := 24) hx hb hts hin12 hown hK hP 0 rfl rfl 18 (by decide) (hts (.fieldLink RX12 44 "MissedPointsModel" "items" "[I") (by decide +kernel)) (fun _ h9 => h9) rfl dX12_sheet_76 ?_
                                                                                refine lv_bipush (v := 40) hx hb dX12_sheet_79 (by decide) ?_
                                                                                refine lv_iload_n hx hb dX12_sheet_81 rfl (lv_at hl 2 rfl) ?_
                                                                                refine lv_imul hx hb dX12_sheet_82 ?_
                                                                                refine lz_top (y := 40) (by decide) ?_
                                                                                refine lv_iload hx hb dX12_sheet_83 (lv_at hl 0 rfl) ?_
                                                                                refine lv_iadd hx hb dX12_sheet_85 ?_
                                                                                refine lz_top (y := 65) (by decide) ?_
                                                                                refine lv_iconst (v := 0) hx hb dX12_sheet_86 (by decide) ?_
                                                                                refine lz_astc hx hb hK hP hD hS 11 0 rfl rfl (lz_vp (x := 65) (n := 160) (by decide) (by decide)) dX12_sheet_87 (fun H locs hP hD hS => ?_)
                                                                                refine lv_iinc (v := 26) (lv' := [(4, .int 26), (0, .ref h0), (1, .int 1), (2, .int x1), (3, .int x2)]) hx hb dX12_sheet_88 hl (k := 0) rfl (by decide) (by decide) rfl (fun ls hl => ?_)
                                                                                refine lv_goto (tgt := 68) hx hb dX12_sheet_91 (by decide) ?_
                                                                                refine lv_iload hx hb dX12_sheet_68 (lv_at hl 0 rfl) ?_
                                                                                refine lv_bipush (v := 40) hx hb dX12_sheet_70 (by decide) ?_
                                                                                refine lv_icmp_ge (tgt := 94) hx hb dX12_sheet_72 (by decide) (fun c1127 => ?_) (fun c1127 => ?_)
                                                                                · exact absurd c1127 (by decide)
                                                                                · refine lv_aload_n hx hb dX12_sheet_75 rfl (lv_at hl 1 rfl) ?_
                                                                                  refine va_get (D := D) (ci := 12) (v := .ref h11) (C := RX12) (T := TX12) (N := 24) hx hb hts hin12 hown hK hP 0 rfl rfl 18 (by decide) (hts (.fieldLink RX12 44 "MissedPointsModel" "items" "[I") (by decide +kernel)) (fun _ h9 => h9) rfl dX12_sheet_76 ?_
                                                                                  refine lv_bipush (v := 40) hx hb dX12_sheet_79 (by decide) ?_
                                                                                  refine lv_iload_n hx hb dX12_sheet_81 rfl (lv_at hl 2 rfl) ?_
                                                                                  refine lv_imul hx hb dX12_sheet_82 ?_
                                                                                  refine lz_top (y := 40) (by decide) ?_
                                                                                  refine lv_iload hx hb dX12_sheet_83 (lv_at hl 0 rfl) ?_
                                                                                  refine lv_iadd hx hb dX12_sheet_85 ?_
                                                                                  refine lz_top (y := 66) (by decide) ?_
                                                                                  refine lv_iconst (v := 0) hx hb dX12_sheet_86 (by decide) ?_
                                                                                  refine lz_astc hx hb hK hP hD hS 11 0 rfl rfl (lz_vp (x := 66) (n := 160) (by decide) (by decide)) dX12_sheet_87 (fun H locs hP hD hS => ?_)
                                                                                  refine lv_iinc (v := 27) (lv' := [(4, .int 27), (0, .ref h0), (1, .int 1), (2, .int x1), (3, .int x2)]) hx hb dX12_sheet_88 hl (k := 0) rfl (by decide) (by decide) rfl (fun ls hl => ?_)
                                                                                  refine lv_goto (tgt := 68) hx hb dX12_sheet_91 (by decide) ?_
                                                                                  refine lv_iload hx hb dX12_sheet_68 (lv_at hl 0 rfl) ?_
                                                                                  refine lv_bipush (v := 40) hx hb dX12_sheet_70 (by decide) ?_
                                                                                  refine lv_icmp_ge (tgt := 94) hx hb dX12_sheet_72 (by decide) (fun c1128 => ?_) (fun c1128 => ?_)
                                                                                  · exact absurd c1128 (by decide)
                                                                                  · refine lv_aload_n hx hb dX12_sheet_75 rfl (lv_at hl 1 rfl) ?_
                                                                                    refine va_get (D := D) (ci := 12) (v := .ref h11) (C := RX12) (T := TX12) (N := 24) hx hb hts hin12 hown hK hP 0 rfl rfl 18 (by decide) (hts (.fieldLink RX12 44 "MissedPointsModel" "items" "[I") (by decide +kernel)) (fun _ h9 => h9) rfl dX12_sheet_76 ?_
                                                                                    refine lv_bipush (v := 40) hx hb dX12_sheet_79 (by decide) ?_
                                                                                    refine lv_iload_n hx hb dX12_sheet_81 rfl (lv_at hl 2 rfl) ?_
                                                                                    refine lv_imul hx hb dX12_sheet_82 ?_
                                                                                    refine lz_top (y := 40) (by decide) ?_
                                                                                    refine lv_iload hx hb dX12_sheet_83 (lv_at hl 0 rfl) ?_
                                                                                    refine lv_iadd hx hb dX12_sheet_85 ?_
                                                                                    refine lz_top (y := 67) (by decide) ?_
                                                                                    refine lv_iconst (v := 0) hx hb dX12_sheet_86 (by decide) ?_
                                                                                    refine lz_astc hx hb hK hP hD hS 11 0 rfl rfl (lz_vp (x := 67) (n := 160) (by decide) (by decide)) dX12_sheet_87 (fun H locs hP hD hS => ?_)
                                                                                    refine lv_iinc (v := 28) (lv' := [(4, .int 28), (0, .ref h0), (1, .int 1), (2, .int x1), (3, .int x2)]) hx hb dX12_sheet_88 hl (k := 0) rfl (by decide) (by decide) rfl (fun ls hl => ?_)
                                                                                    refine lv_goto (tgt := 68) hx hb dX12_sheet_91 (by decide) ?_
                                                                                    refine lv_iload hx hb dX12_sheet_68 (lv_at hl 0 rfl) ?_
                                                                                    refine lv_bipush (v := 40) hx hb dX12_sheet_70 (by decide) ?_
                                                                                    refine lv_icmp_ge (tgt := 94) hx hb dX12_sheet_72 (by decide) (fun c1129 => ?_) (fun c1129 => ?_)
                                                                                    · exact absurd c1129 (by decide)
                                                                                    · refine lv_aload_n hx hb dX12_sheet_75 rfl (lv_at hl 1 rfl) ?_
                                                                                      refine va_get (D := D) (ci := 12) (v := .ref h11) (C := RX12) (T := TX12) (N := 24) hx hb hts hin12 hown hK hP 0 rfl rfl 18 (by decide) (hts (.fieldLink RX12 44 "MissedPointsModel" "items" "[I") (by decide +kernel)) (fun _ h9 => h9) rfl dX12_sheet_76 ?_
                                                                                      refine lv_bipush (v := 40) hx hb dX12_sheet_79 (by decide) ?_
                                                                                      refine lv_iload_n hx hb dX12_sheet_81 rfl (lv_at hl 2 rfl) ?_
                                                                                      refine lv_imul hx hb dX12_sheet_82 ?_
                                                                                      refine lz_top (y := 40) (by decide) ?_
                                                                                      refine lv_iload hx hb dX12_sheet_83 (lv_at hl 0 rfl) ?_
                                                                                      refine lv_iadd hx hb dX12_sheet_85 ?_
                                                                                      refine lz_top (y := 68) (by decide) ?_
                                                                                      refine lv_iconst (v := 0) hx hb dX12_sheet_86 (by decide) ?_
                                                                                      refine lz_astc hx hb hK hP hD hS 11 0 rfl rfl (lz_vp (x := 68) (n := 160) (by decide) (by decide)) dX12_sheet_87 (fun H locs hP hD hS => ?_)
                                                                                      refine lv_iinc (v := 29) (lv' := [(4, .int 29), (0, .ref h0), (1, .int 1), (2, .int x1), (3, .int x2)]) hx hb dX12_sheet_88 hl (k := 0) rfl (by decide) (by decide) rfl (fun ls hl => ?_)
                                                                                      refine lv_goto (tgt := 68) hx hb dX12_sheet_91 (by decide) ?_
                                                                                      refine lv_iload hx hb dX12_sheet_68 (lv_at hl 0 rfl) ?_
                                                                                      refine lv_bipush (v := 40) hx hb dX12_sheet_70 (by decide) ?_
                                                                                      refine lv_icmp_ge (tgt := 94) hx hb dX12_sheet_72 (by decide) (fun c1130 => ?_) (fun c1130 => ?_)
                                                                                      · exact absurd c1130 (by decide)
                                                                                      · refine lv_aload_n hx hb dX12_sheet_75 rfl (lv_at hl 1 rfl) ?_
                                                                                        refine va_get (D := D) (ci := 12) (v := .ref h11) (C := RX12) (T := TX12) (N := 24) hx hb hts hin12 hown hK hP 0 rfl rfl 18 (by decide) (hts (.fieldLink RX12 44 "MissedPointsModel" "items" "[I") (by decide +kernel)) (fun _ h9 => h9) rfl dX12_sheet_76 ?_
                                                                                        refine lv_bipush (v := 40) hx hb dX12_sheet_79 (by decide) ?_
                                                                                        refine lv_iload_n hx hb dX12_sheet_81 rfl (lv_at hl 2 rfl) ?_
                                                                                        refine lv_imul hx hb dX12_sheet_82 ?_
                                                                                        refine lz_top (y := 40) (by decide) ?_
                                                                                        refine lv_iload hx hb dX12_sheet_83 (lv_at hl 0 rfl) ?_
                                                                                        refine lv_iadd hx hb dX12_sheet_85 ?_
                                                                                        refine lz_top (y := 69) (by decide) ?_
                                                                                        refine lv_iconst (v := 0) hx hb dX12_sheet_86 (by decide) ?_
                                                                                        refine lz_astc hx hb hK hP hD hS 11 0 rfl rfl (lz_vp (x := 69) (n := 160) (by decide) (by decide)) dX12_sheet_87 (fun H locs hP hD hS => ?_)
                                                                                        refine lv_iinc (v := 30) (lv' := [(4, .int 30), (0, .ref h0), (1, .int 1), (2, .int x1), (3, .int x2)]) hx hb dX12_sheet_88 hl (k := 0) rfl (by decide) (by decide) rfl (fun ls hl => ?_)
                                                                                        refine lv_goto (tgt := 68) hx hb dX12_sheet_91 (by decide) ?_
                                                                                        refine lv_iload hx hb dX12_sheet_68 (lv_at hl 0 rfl) ?_
                                                                                        refine lv_bipush (v := 40) hx hb dX12_sheet_70 (by decide) ?_
                                                                                        refine lv_icmp_ge (tgt := 94) hx hb dX12_sheet_72 (by decide) (fun c1131 => ?_) (fun c1131 => ?_)
                                                                                        · exact absurd c1131 (by decide)
                                                                                        · refine lv_aload_n hx hb dX12_sheet_75 rfl (lv_at hl 1 rfl) ?_
                                                                                          refine va_get (D := D) (ci := 12) (v := .ref h11) (C := RX12) (T := TX12) (N := 24) hx hb hts hin12 hown hK hP 0 rfl rfl 18 (by decide) (hts (.fieldLink RX12 44 "MissedPointsModel" "items" "[I") (by decide +kernel)) (fun _ h9 => h9) rfl dX12_sheet_76 ?_
                                                                                          refine lv_bipush (v := 40) hx hb dX12_sheet_79 (by decide) ?_
                                                                                          refine lv_iload_n hx hb dX12_sheet_81 rfl (lv_at hl 2 rfl) ?_
                                                                                          refine lv_imul hx hb dX12_sheet_82 ?_
                                                                                          refine lz_top (y := 40) (by decide) ?_
                                                                                          refine lv_iload hx hb dX12_sheet_83 (lv_at hl 0 rfl) ?_
                                                                                          refine lv_iadd hx hb dX12_sheet_85 ?_
                                                                                          refine lz_top (y := 70) (by decide) ?_
                                                                                          refine lv_iconst (v := 0) hx hb dX12_sheet_86 (by decide) ?_
                                                                                          refine lz_astc hx hb hK hP hD hS 11 0 rfl rfl (lz_vp (x := 70) (n := 160) (by decide) (by decide)) dX12_sheet_87 (fun H locs hP hD hS => ?_)
                                                                                          refine lv_iinc (v := 31) (lv' := [(4, .int 31), (0, .ref h0), (1, .int 1), (2, .int x1), (3, .int x2)]) hx hb dX12_sheet_88 hl (k := 0) rfl (by decide) (by decide) rfl (fun ls hl => ?_)
                                                                                          refine lv_goto (tgt := 68) hx hb dX12_sheet_91 (by decide) ?_
                                                                                          refine lv_iload hx hb dX12_sheet_68 (lv_at hl 0 rfl) ?_
                                                                                          refine lv_bipush (v := 40) hx hb dX12_sheet_70 (by decide) ?_
                                                                                          refine lv_icmp_ge (tgt := 94) hx hb dX12_sheet_72 (by decide) (fun c1132 => ?_) (fun c1132 => ?_)
                                                                                          · exact absurd c1132 (by decide)
                                                                                          · refine lv_aload_n hx hb dX12_sheet_75 rfl (lv_at hl 1 rfl) ?_
                                                                                            refine va_get (D := D) (ci := 12) (v := .ref h11) (C := RX12) (T := TX12) (N := 24) hx hb hts hin12 hown hK hP 0 rfl rfl 18 (by decide) (hts (.fieldLink RX12 44 "MissedPointsModel" "items" "[I") (by decide +kernel)) (fun _ h9 => h9) rfl dX12_sheet_76 ?_
                                                                                            refine lv_bipush (v := 40) hx hb dX12_sheet_79 (by decide) ?_
                                                                                            refine lv_iload_n hx hb dX12_sheet_81 rfl (lv_at hl 2 rfl) ?_
                                                                                            refine lv_imul hx hb dX12_sheet_82 ?_
                                                                                            refine lz_top (y := 40) (by decide) ?_
                                                                                            refine lv_iload hx hb dX12_sheet_83 (lv_at hl 0 rfl) ?_
                                                                                            refine lv_iadd hx hb dX12_sheet_85 ?_
                                                                                            refine lz_top (y := 71) (by decide) ?_
                                                                                            refine lv_iconst (v := 0) hx hb dX12_sheet_86 (by decide) ?_
                                                                                            refine lz_astc hx hb hK hP hD hS 11 0 rfl rfl (lz_vp (x := 71) (n := 160) (by decide) (by decide)) dX12_sheet_87 (fun H locs hP hD hS => ?_)
                                                                                            refine lv_iinc (v := 32) (lv' := [(4, .int 32), (0, .ref h0), (1, .int 1), (2, .int x1), (3, .int x2)]) hx hb dX12_sheet_88 hl (k := 0) rfl (by decide) (by decide) rfl (fun ls hl => ?_)
                                                                                            refine lv_goto (tgt := 68) hx hb dX12_sheet_91 (by decide) ?_
                                                                                            refine lv_iload hx hb dX12_sheet_68 (lv_at hl 0 rfl) ?_
                                                                                            refine lv_bipush (v := 40) hx hb dX12_sheet_70 (by decide) ?_
                                                                                            refine lv_icmp_ge (tgt := 94) hx hb dX12_sheet_72 (by decide) (fun c1133 => ?_) (fun c1133 => ?_)
                                                                                            · exact absurd c1133 (by decide)
                                                                                            · refine lv_aload_n hx hb dX12_sheet_75 rfl (lv_at hl 1 rfl) ?_
                                                                                              refine va_get (D := D) (ci := 12) (v := .ref h11) (C := RX12) (T := TX12) (N := 24) hx hb hts hin12 hown hK hP 0 rfl rfl 18 (by decide) (hts (.fieldLink RX12 44 "MissedPointsModel" "items" "[I") (by decide +kernel)) (fun _ h9 => h9) rfl dX12_sheet_76 ?_
                                                                                              refine lv_bipush (v := 40) hx hb dX12_sheet_79 (by decide) ?_
                                                                                              refine lv_iload_n hx hb dX12_sheet_81 rfl (lv_at hl 2 rfl) ?_
                                                                                              refine lv_imul hx hb dX12_sheet_82 ?_
                                                                                              refine lz_top (y := 40) (by decide) ?_
                                                                                              refine lv_iload hx hb dX12_sheet_83 (lv_at hl 0 rfl) ?_
                                                                                              refine lv_iadd hx hb dX12_sheet_85 ?_
                                                                                              refine lz_top (y := 72) (by decide) ?_
                                                                                              refine lv_iconst (v := 0) hx hb dX12_sheet_86 (by decide) ?_
                                                                                              refine lz_astc hx hb hK hP hD hS 11 0 rfl rfl (lz_vp (x := 72) (n := 160) (by decide) (by decide)) dX12_sheet_87 (fun H locs hP hD hS => ?_)
                                                                                              refine lv_iinc (v := 33) (lv' := [(4, .int 33), (0, .ref h0), (1, .int 1), (2, .int x1), (3, .int x2)]) hx hb dX12_sheet_88 hl (k := 0) rfl (by decide) (by decide) rfl (fun ls hl => ?_)
                                                                                              refine lv_goto (tgt := 68) hx hb dX12_sheet_91 (by decide) ?_
                                                                                              refine lv_iload hx hb dX12_sheet_68 (lv_at hl 0 rfl) ?_
                                                                                              refine lv_bipush (v := 40) hx hb dX12_sheet_70 (by decide) ?_
                                                                                              refine lv_icmp_ge (tgt := 94) hx hb dX12_sheet_72 (by decide) (fun c1134 => ?_) (fun c1134 => ?_)
                                                                                              · exact absurd c1134 (by decide)
                                                                                              · refine lv_aload_n hx hb dX12_sheet_75 rfl (lv_at hl 1 rfl) ?_
                                                                                                refine va_get (D := D) (ci := 12) (v := .ref h11) (C := RX12) (T := TX12) (N := 24) hx hb hts hin12 hown hK hP 0 rfl rfl 18 (by decide) (hts (.fieldLink RX12 44 "MissedPointsModel" "items" "[I") (by decide +kernel)) (fun _ h9 => h9) rfl dX12_sheet_76 ?_
                                                                                                refine lv_bipush (v := 40) hx hb dX12_sheet_79 (by decide) ?_
                                                                                                refine lv_iload_n hx hb dX12_sheet_81 rfl (lv_at hl 2 rfl) ?_
                                                                                                refine lv_imul hx hb dX12_sheet_82 ?_
                                                                                                refine lz_top (y := 40) (by decide) ?_
                                                                                                refine lv_iload hx hb dX12_sheet_83 (lv_at hl 0 rfl) ?_
                                                                                                refine lv_iadd hx hb dX12_sheet_85 ?_
                                                                                                refine lz_top (y := 73) (by decide) ?_
                                                                                                refine lv_iconst (v := 0) hx hb dX12_sheet_86 (by decide) ?_
                                                                                                refine lz_astc hx hb hK hP hD hS 11 0 rfl rfl (lz_vp (x := 73) (n := 160) (by decide) (by decide)) dX12_sheet_87 (fun H locs hP hD hS => ?_)
                                                                                                refine lv_iinc (v := 34) (lv' := [(4, .int 34), (0, .ref h0), (1, .int 1), (2, .int x1), (3, .int x2)]) hx hb dX12_sheet_88 hl (k := 0) rfl (by decide) (by decide) rfl (fun ls hl => ?_)
                                                                                                refine lv_goto (tgt := 68) hx hb dX12_sheet_91 (by decide) ?_
                                                                                                refine lv_iload hx hb dX12_sheet_68 (lv_at hl 0 rfl) ?_
                                                                                                refine lv_bipush (v := 40) hx hb dX12_sheet_70 (by decide) ?_
                                                                                                refine lv_icmp_ge (tgt := 94) hx hb dX12_sheet_72 (by decide) (fun c1135 => ?_) (fun c1135 => ?_)
                                                                                                · exact absurd c1135 (by decide)
                                                                                                · refine lv_aload_n hx hb dX12_sheet_75 rfl (lv_at hl 1 rfl) ?_
                                                                                                  refine va_get (D := D) (ci := 12) (v := .ref h11) (C := RX12) (T := TX12) (N := 24) hx hb hts hin12 hown hK hP 0 rfl rfl 18 (by decide) (hts (.fieldLink RX12 44 "MissedPointsModel" "items" "[I") (by decide +kernel)) (fun _ h9 => h9) rfl dX12_sheet_76 ?_
                                                                                                  refine lv_bipush (v := 40) hx hb dX12_sheet_79 (by decide) ?_
                                                                                                  refine lv_iload_n hx hb dX12_sheet_81 rfl (lv_at hl 2 rfl) ?_
                                                                                                  refine lv_imul hx hb dX12_sheet_82 ?_
                                                                                                  refine lz_top (y := 40) (by decide) ?_
                                                                                                  refine lv_iload hx hb dX12_sheet_83 (lv_at hl 0 rfl) ?_
                                                                                                  refine lv_iadd hx hb dX12_sheet_85 ?_
                                                                                                  refine lz_top (y := 74) (by decide) ?_
                                                                                                  refine lv_iconst (v := 0) hx hb dX12_sheet_86 (by decide) ?_
                                                                                                  refine lz_astc hx hb hK hP hD hS 11 0 rfl rfl (lz_vp (x := 74) (n := 160) (by decide) (by decide)) dX12_sheet_87 (fun H locs hP hD hS => ?_)
                                                                                                  refine lv_iinc (v := 35) (lv' := [(4, .int 35), (0, .ref h0), (1, .int 1), (2, .int x1), (3, .int x2)]) hx hb dX12_sheet_88 hl (k := 0) rfl (by decide) (by decide) rfl (fun ls hl => ?_)
                                                                                                  refine lv_goto (tgt := 68) hx hb dX12_sheet_91 (by decide) ?_
                                                                                                  refine lv_iload hx hb dX12_sheet_68 (lv_at hl 0 rfl) ?_
                                                                                                  refine lv_bipush (v := 40) hx hb dX12_sheet_70 (by decide) ?_
                                                                                                  refine lv_icmp_ge (tgt := 94) hx hb dX12_sheet_72 (by decide) (fun c1136 => ?_) (fun c1136 => ?_)
                                                                                                  · exact absurd c1136 (by decide)
                                                                                                  · refine lv_aload_n hx hb dX12_sheet_75 rfl (lv_at hl 1 rfl) ?_
                                                                                                    refine va_get (D := D) (ci := 12) (v := .ref h11) (C := RX12) (T := TX12) (N := 24) hx hb hts hin12 hown hK hP 0 rfl rfl 18 (by decide) (hts (.fieldLink RX12 44 "MissedPointsModel" "items" "[I") (by decide +kernel)) (fun _ h9 => h9) rfl dX12_sheet_76 ?_
                                                                                                    refine lv_bipush (v := 40) hx hb dX12_sheet_79 (by decide) ?_
                                                                                                    refine lv_iload_n hx hb dX12_sheet_81 rfl (lv_at hl 2 rfl) ?_
                                                                                                    refine lv_imul hx hb dX12_sheet_82 ?_
                                                                                                    refine lz_top (y := 40) (by decide) ?_
                                                                                                    refine lv_iload hx hb dX12_sheet_83 (lv_at hl 0 rfl) ?_
                                                                                                    refine lv_iadd hx hb dX12_sheet_85 ?_
                                                                                                    refine lz_top (y := 75) (by decide) ?_
                                                                                                    refine lv_iconst (v := 0) hx hb dX12_sheet_86 (by decide) ?_
                                                                                                    refine lz_astc hx hb hK hP hD hS 11 0 rfl rfl (lz_vp (x := 75) (n := 160) (by decide) (by decide)) dX12_sheet_87 (fun H locs hP hD hS => ?_)
                                                                                                    refine lv_iinc (v := 36) (lv' := [(4, .int 36), (0, .ref h0), (1, .int 1), (2, .int x1), (3, .int x2)]) hx hb dX12_sheet_88 hl (k := 0) rfl (by decide) (by decide) rfl (fun ls hl => ?_)
                                                                                                    refine lv_goto (tgt := 68) hx hb dX12_sheet_91 (by decide) ?_
                                                                                                    refine lv_iload hx hb dX12_sheet_68 (lv_at hl 0 rfl) ?_
                                                                                                    refine lv_bipush (v := 40) hx hb dX12_sheet_70 (by decide) ?_
                                                                                                    refine lv_icmp_ge (tgt := 94) hx hb dX12_sheet_72 (by decide) (fun c1137 => ?_) (fun c1137 => ?_)
                                                                                                    · exact absurd c1137 (by decide)
                                                                                                    · refine lv_aload_n hx hb dX12_sheet_75 rfl (lv_at hl 1 rfl) ?_
                                                                                                      refine va_get (D := D) (ci := 12) (v := .ref h11) (C := RX12) (T := TX12) (N := 24) hx hb hts hin12 hown hK hP 0 rfl rfl 18 (by decide) (hts (.fieldLink RX12 44 "MissedPointsModel" "items" "[I") (by decide +kernel)) (fun _ h9 => h9) rfl dX12_sheet_76 ?_
                                                                                                      refine lv_bipush (v := 40) hx hb dX12_sheet_79 (by decide) ?_
                                                                                                      refine lv_iload_n hx hb dX12_sheet_81 rfl (lv_at hl 2 rfl) ?_
                                                                                                      refine lv_imul hx hb dX12_sheet_82 ?_
                                                                                                      refine lz_top (y := 40) (by decide) ?_
                                                                                                      refine lv_iload hx hb dX12_sheet_83 (lv_at hl 0 rfl) ?_
                                                                                                      refine lv_iadd hx hb dX12_sheet_85 ?_
                                                                                                      refine lz_top (y := 76) (by decide) ?_
                                                                                                      refine lv_iconst (v := 0) hx hb dX12_sheet_86 (by decide) ?_
                                                                                                      refine lz_astc hx hb hK hP hD hS 11 0 rfl rfl (lz_vp (x := 76) (n := 160) (by decide) (by decide)) dX12_sheet_87 (fun H locs hP hD hS => ?_)
                                                                                                      refine lv_iinc (v := 37) (lv' := [(4, .int 37), (0, .ref h0), (1, .int 1), (2, .int x1), (3, .int x2)]) hx hb dX12_sheet_88 hl (k := 0) rfl (by decide) (by decide) rfl (fun ls hl => ?_)
                                                                                                      refine lv_goto (tgt := 68) hx hb dX12_sheet_91 (by decide) ?_
                                                                                                      refine lv_iload hx hb dX12_sheet_68 (lv_at hl 0 rfl) ?_
                                                                                                      refine lv_bipush (v := 40) hx hb dX12_sheet_70 (by decide) ?_
                                                                                                      refine lv_icmp_ge (tgt := 94) hx hb dX12_sheet_72 (by decide) (fun c1138 => ?_) (fun c1138 => ?_)
                                                                                                      · exact absurd c1138 (by decide)
                                                                                                      · refine lv_aload_n hx hb dX12_sheet_75 rfl (lv_at hl 1 rfl) ?_
                                                                                                        refine va_get (D := D) (ci := 12) (v := .ref h11) (C := RX12) (T := TX12) (N := 24) hx hb hts hin12 hown hK hP 0 rfl rfl 18 (by decide) (hts (.fieldLink RX12 44 "MissedPointsModel" "items" "[I") (by decide +kernel)) (fun _ h9 => h9) rfl dX12_sheet_76 ?_
                                                                                                        refine lv_bipush (v := 40) hx hb dX12_sheet_79 (by decide) ?_
                                                                                                        refine lv_iload_n hx hb dX12_sheet_81 rfl (lv_at hl 2 rfl) ?_
                                                                                                        refine lv_imul hx hb dX12_sheet_82 ?_
                                                                                                        refine lz_top (y := 40) (by decide) ?_
                                                                                                        refine lv_iload hx hb dX12_sheet_83 (lv_at hl 0 rfl) ?_
                                                                                                        refine lv_iadd hx hb dX12_sheet_85 ?_
                                                                                                        refine lz_top (y := 77) (by decide) ?_
                                                                                                        refine lv_iconst (v := 0) hx hb dX12_sheet_86 (by decide) ?_
                                                                                                        refine lz_astc hx hb hK hP hD hS 11 0 rfl rfl (lz_vp (x := 77) (n := 160) (by decide) (by decide)) dX12_sheet_87 (fun H locs hP hD hS => ?_)
                                                                                                        refine lv_iinc (v := 38) (lv' := [(4, .int 38), (0, .ref h0), (1, .int 1), (2, .int x1), (3, .int x2)]) hx hb dX12_sheet_88 hl (k := 0) rfl (by decide) (by decide) rfl (fun ls hl => ?_)
                                                                                                        refine lv_goto (tgt := 68) hx hb dX12_sheet_91 (by decide) ?_
                                                                                                        refine lv_iload hx hb dX12_sheet_68 (lv_at hl 0 rfl) ?_
                                                                                                        refine lv_bipush (v := 40) hx hb dX12_sheet_70 (by decide) ?_
                                                                                                        refine lv_icmp_ge (tgt := 94) hx hb dX12_sheet_72 (by decide) (fun c1139 => ?_) (fun c1139 => ?_)
                                                                                                        · exact absurd c1139 (by decide)
                                                                                                        · refine lv_aload_n hx hb dX12_sheet_75 rfl (lv_at hl 1 rfl) ?_
                                                                                                          refine va_get (D := D) (ci := 12) (v := .ref h11) (C := RX12) (T := TX12) (N := 24) hx hb hts hin12 hown hK hP 0 rfl rfl 18 (by decide) (hts (.fieldLink RX12 44 "MissedPointsModel" "items" "[I") (by decide +kernel)) (fun _ h9 => h9) rfl dX12_sheet_76 ?_
                                                                                                          refine lv_bipush (v := 40) hx hb dX12_sheet_79 (by decide) ?_
                                                                                                          refine lv_iload_n hx hb dX12_sheet_81 rfl (lv_at hl 2 rfl) ?_
                                                                                                          refine lv_imul hx hb dX12_sheet_82 ?_
                                                                                                          refine lz_top (y := 40) (by decide) ?_
                                                                                                          refine lv_iload hx hb dX12_sheet_83 (lv_at hl 0 rfl) ?_
                                                                                                          refine lv_iadd hx hb dX12_sheet_85 ?_
                                                                                                          refine lz_top (y := 78) (by decide) ?_
                                                                                                          refine lv_iconst (v := 0) hx hb dX12_sheet_86 (by decide) ?_
                                                                                                          refine lz_astc hx hb hK hP hD hS 11 0 rfl rfl (lz_vp (x := 78) (n := 160) (by decide) (by decide)) dX12_sheet_87 (fun H locs hP hD hS => ?_)
                                                                                                          refine lv_iinc (v := 39) (lv' := [(4, .int 39), (0, .ref h0), (1, .int 1), (2, .int x1), (3, .int x2)]) hx hb dX12_sheet_88 hl (k := 0) rfl (by decide) (by decide) rfl (fun ls hl => ?_)
                                                                                                          refine lv_goto (tgt := 68) hx hb dX12_sheet_91 (by decide) ?_
                                                                                                          refine lv_iload hx hb dX12_sheet_68 (lv_at hl 0 rfl) ?_
                                                                                                          refine lv_bipush (v := 40) hx hb dX12_sheet_70 (by decide) ?_
                                                                                                          refine lv_icmp_ge (tgt := 94) hx hb dX12_sheet_72 (by decide) (fun c1140 => ?_) (fun c1140 => ?_)
                                                                                                          · exact absurd c1140 (by decide)
                                                                                                          · refine lv_aload_n hx hb dX12_sheet_75 rfl (lv_at hl 1 rfl) ?_
                                                                                                            refine va_get (D := D) (ci := 12) (v := .ref h11) (C := RX12) (T := TX12) (N := 24) hx hb hts hin12 hown hK hP 0 rfl rfl 18 (by decide) (hts (.fieldLink RX12 44 "MissedPointsModel" "items" "[I") (by decide +kernel)) (fun _ h9 => h9) rfl dX12_sheet_76 ?_
                                                                                                            refine lv_bipush (v := 40) hx hb dX12_sheet_79 (by decide) ?_
                                                                                                            refine lv_iload_n hx hb dX12_sheet_81 rfl (lv_at hl 2 rfl) ?_
                                                                                                            refine lv_imul hx hb dX12_sheet_82 ?_
                                                                                                            refine lz_top (y := 40) (by decide) ?_
                                                                                                            refine lv_iload hx hb dX12_sheet_83 (lv_at hl 0 rfl) ?_
                                                                                                            refine lv_iadd hx hb dX12_sheet_85 ?_
                                                                                                            refine lz_top (y := 79) (by decide) ?_
                                                                                                            refine lv_iconst (v := 0) hx hb dX12_sheet_86 (by decide) ?_
                                                                                                            refine lz_astc hx hb hK hP hD hS 11 0 rfl rfl (lz_vp (x := 79) (n := 160) (by decide) (by decide)) dX12_sheet_87 (fun H locs hP hD hS => ?_)
                                                                                                            refine lv_iinc (v := 40) (lv' := [(4, .int 40), (0, .ref h0), (1, .int 1), (2, .int x1), (3, .int x2)]) hx hb dX12_sheet_88 hl (k := 0) rfl (by decide) (by decide) rfl (fun ls hl => ?_)
                                                                                                            refine lv_goto (tgt := 68) hx hb dX12_sheet_91 (by decide) ?_
                                                                                                            refine lv_iload hx hb dX12_sheet_68 (lv_at hl 0 rfl) ?_
                                                                                                            refine lv_bipush (v := 40) hx hb dX12_sheet_70 (by decide) ?_
                                                                                                            refine lv_icmp_ge (tgt := 94) hx hb dX12_sheet_72 (by decide) (fun c1141 => ?_) (fun c1141 => ?_)
                                                                                                            · refine lv_iconst (v := 1) hx hb dX12_sheet_94 (by decide) ?_
                                                                                                              have hP9 := hP.sub (ws' := []) [] rfl
                                                                                                              have hD9 := hD.sub (ws' := []) [] (by decide) rfl
                                                                                                              subst hAe
                                                                                                              exact W.iret (v := 1) hx hb hr (fun t ht hW => ⟨⟨_, (), rfl, by rw [if_neg k867, if_neg k869, if_neg k875, if_neg k877, if_neg c880, if_pos c1053, if_pos c1055], by rw [ht]; exact hP9, hD9⟩, hS.F ht⟩) hS.2.2 dX12_sheet_95
                                                                                                            · exact absurd c1141 (by decide)
                          · exact absurd c1100 c880
                        · by_cases k1142 : x0 = 2
                          · subst k1142
                            refine lv_aload_n hx hb dX12_sheet_42 rfl (lv_at hl 0 rfl) ?_
                            refine va_get (D := D) (ci := 12) (v := .ref h9) (C := RX12) (T := TX12) (N := 24) hx hb hts hin12 hown hK hP 0 rfl rfl 16 (by decide) (hts (.fieldLink RX12 38 "MissedPointsModel" "sort" "[I") (by decide +kernel)) (fun _ h9 => h9) rfl dX12_sheet_43 ?_
                            refine lv_iload_n hx hb dX12_sheet_46 rfl (lv_at hl 1 rfl) ?_
                            refine lv_iload_n hx hb dX12_sheet_47 rfl (lv_at hl 2 rfl) ?_
                            refine va_iast hx hb hK hP hD hS 9 0 rfl rfl (lz_vp (x := 2) (n := 4) (by decide) (by decide)) dX12_sheet_48 (fun H locs hP hD hS => ?_)
                            have hP : va_P D cls [(h0, .inr (12, [.int 0, .int 1, .ref h1, .ref h2, .ref h3, .ref h4, .ref h5, .ref h6, .ref h7, .ref h8, .int 0, .int 0, .int 0, .int 0, .int 0, .int 0, .ref h9, .ref h10, .ref h11, .ref h12, .ref h13, .ref h14, .ref h15, .int 0])), (h1, .inl (cI, 12, .inl (fun _ => 0))), (h2, .inl (cI, 4096, .inl (fun _ => 0))), (h3, .inl (cI, 4096, .inl (fun _ => 0))), (h4, .inl (cI, 28672, .inl (fun _ => 0))), (h5, .inl (cI, 12, .inl (fun _ => 0))), (h6, .inl (cI, 12, .inl (fun _ => 0))), (h7, .inl (cI, 12, .inl (fun _ => 0))), (h8, .inl (cI, 120, .inl (fun _ => 0))), (h9, .inl (cI, 4, .inl (upd (fun _ => -1) 2 x1))), (h10, .inl (cI, 4, .inl (fun _ => 0))), (h11, .inl (cI, 160, .inl (fun _ => 0))), (h12, .inl (cI, 4, .inl (fun _ => -1))), (h13, .inl (cI, 4, .inl (fun _ => 0))), (h14, .inl (cI, 4, .inl (fun _ => 0))), (h15, .inl (cI, 28, .inl (fun _ => 0)))] H := hP
                            have hD : va_D A [(h0, .inr (12, [.int 0, .int 1, .ref h1, .ref h2, .ref h3, .ref h4, .ref h5, .ref h6, .ref h7, .ref h8, .int 0, .int 0, .int 0, .int 0, .int 0, .int 0, .ref h9, .ref h10, .ref h11, .ref h12, .ref h13, .ref h14, .ref h15, .int 0])), (h1, .inl (cI, 12, .inl (fun _ => 0))), (h2, .inl (cI, 4096, .inl (fun _ => 0))), (h3, .inl (cI, 4096, .inl (fun _ => 0))), (h4, .inl (cI, 28672, .inl (fun _ => 0))), (h5, .inl (cI, 12, .inl (fun _ => 0))), (h6, .inl (cI, 12, .inl (fun _ => 0))), (h7, .inl (cI, 12, .inl (fun _ => 0))), (h8, .inl (cI, 120, .inl (fun _ => 0))), (h9, .inl (cI, 4, .inl (upd (fun _ => -1) 2 x1))), (h10, .inl (cI, 4, .inl (fun _ => 0))), (h11, .inl (cI, 160, .inl (fun _ => 0))), (h12, .inl (cI, 4, .inl (fun _ => -1))), (h13, .inl (cI, 4, .inl (fun _ => 0))), (h14, .inl (cI, 4, .inl (fun _ => 0))), (h15, .inl (cI, 28, .inl (fun _ => 0)))] := hD
                            refine lv_aload_n hx hb dX12_sheet_49 rfl (lv_at hl 0 rfl) ?_
                            refine va_get (D := D) (ci := 12) (v := .ref h10) (C := RX12) (T := TX12) (N := 24) hx hb hts hin12 hown hK hP 0 rfl rfl 17 (by decide) (hts (.fieldLink RX12 41 "MissedPointsModel" "size" "[I") (by decide +kernel)) (fun _ h9 => h9) rfl dX12_sheet_50 ?_
                            refine lv_iload_n hx hb dX12_sheet_53 rfl (lv_at hl 1 rfl) ?_
                            refine lv_iload_n hx hb dX12_sheet_54 rfl (lv_at hl 2 rfl) ?_
                            refine lv_iconst (v := (-1)) hx hb dX12_sheet_55 (by decide) ?_
                            refine lv_icmp_ne (tgt := 63) hx hb dX12_sheet_56 (by decide) (fun c1143 => ?_) (fun c1143 => ?_)
                            · refine lv_iload_n hx hb dX12_sheet_63 rfl (lv_at hl 3 rfl) ?_
                              refine va_iast hx hb hK hP hD hS 10 0 rfl rfl (lz_vp (x := 2) (n := 4) (by decide) (by decide)) dX12_sheet_64 (fun H locs hP hD hS => ?_)
                              have hP : va_P D cls [(h0, .inr (12, [.int 0, .int 1, .ref h1, .ref h2, .ref h3, .ref h4, .ref h5, .ref h6, .ref h7, .ref h8, .int 0, .int 0, .int 0, .int 0, .int 0, .int 0, .ref h9, .ref h10, .ref h11, .ref h12, .ref h13, .ref h14, .ref h15, .int 0])), (h1, .inl (cI, 12, .inl (fun _ => 0))), (h2, .inl (cI, 4096, .inl (fun _ => 0))), (h3, .inl (cI, 4096, .inl (fun _ => 0))), (h4, .inl (cI, 28672, .inl (fun _ => 0))), (h5, .inl (cI, 12, .inl (fun _ => 0))), (h6, .inl (cI, 12, .inl (fun _ => 0))), (h7, .inl (cI, 12, .inl (fun _ => 0))), (h8, .inl (cI, 120, .inl (fun _ => 0))), (h9, .inl (cI, 4, .inl (upd (fun _ => -1) 2 x1))), (h10, .inl (cI, 4, .inl (upd (fun _ => 0) 2 x2))), (h11, .inl (cI, 160, .inl (fun _ => 0))), (h12, .inl (cI, 4, .inl (fun _ => -1))), (h13, .inl (cI, 4, .inl (fun _ => 0))), (h14, .inl (cI, 4, .inl (fun _ => 0))), (h15, .inl (cI, 28, .inl (fun _ => 0)))] H := hP
                              have hD : va_D A [(h0, .inr (12, [.int 0, .int 1, .ref h1, .ref h2, .ref h3, .ref h4, .ref h5, .ref h6, .ref h7, .ref h8, .int 0, .int 0, .int 0, .int 0, .int 0, .int 0, .ref h9, .ref h10, .ref h11, .ref h12, .ref h13, .ref h14, .ref h15, .int 0])), (h1, .inl (cI, 12, .inl (fun _ => 0))), (h2, .inl (cI, 4096, .inl (fun _ => 0))), (h3, .inl (cI, 4096, .inl (fun _ => 0))), (h4, .inl (cI, 28672, .inl (fun _ => 0))), (h5, .inl (cI, 12, .inl (fun _ => 0))), (h6, .inl (cI, 12, .inl (fun _ => 0))), (h7, .inl (cI, 12, .inl (fun _ => 0))), (h8, .inl (cI, 120, .inl (fun _ => 0))), (h9, .inl (cI, 4, .inl (upd (fun _ => -1) 2 x1))), (h10, .inl (cI, 4, .inl (upd (fun _ => 0) 2 x2))), (h11, .inl (cI, 160, .inl (fun _ => 0))), (h12, .inl (cI, 4, .inl (fun _ => -1))), (h13, .inl (cI, 4, .inl (fun _ => 0))), (h14, .inl (cI, 4, .inl (fun _ => 0))), (h15, .inl (cI, 28, .inl (fun _ => 0)))] := hD
                              refine lv_iconst (v := 0) hx hb dX12_sheet_65 (by decide) ?_
                              refine lv_istore (lv' := [(4, .int 0), (0, .ref h0), (1, .int 2), (2, .int x1), (3, .int x2)]) hx hb dX12_sheet_66 hl (by decide) rfl (fun ls hl => ?_)
                              refine lv_iload hx hb dX12_sheet_68 (lv_at hl 0 rfl) ?_
                              refine lv_bipush (v := 40) hx hb dX12_sheet_70 (by decide) ?_
                              refine lv_icmp_ge (tgt := 94) hx hb dX12_sheet_72 (by decide) (fun c1144 => ?_) (fun c1144 => ?_)
                              · exact absurd c1144 (by decide)
                              · refine lv_aload_n hx hb dX12_sheet_75 rfl (lv_at hl 1 rfl) ?_
                                refine va_get (D := D) (ci := 12) (v := .ref h11) (C := RX12) (T := TX12) (N := 24) hx hb hts hin12 hown hK hP 0 rfl rfl 18 (by decide) (hts (.fieldLink RX12 44 "MissedPointsModel" "items" "[I") (by decide +kernel)) (fun _ h9 => h9) rfl dX12_sheet_76 ?_
                                refine lv_bipush (v := 40) hx hb dX12_sheet_79 (by decide) ?_
                                refine lv_iload_n hx hb dX12_sheet_81 rfl (lv_at hl 2 rfl) ?_
                                refine lv_imul hx hb dX12_sheet_82 ?_
                                refine lz_top (y := 80) (by decide) ?_
                                refine lv_iload hx hb dX12_sheet_83 (lv_at hl 0 rfl) ?_
                                refine lv_iadd hx hb dX12_sheet_85 ?_
                                refine lz_top (y := 80) (by decide) ?_
                                refine lv_iconst (v := 0) hx hb dX12_sheet_86 (by decide) ?_
                                refine lz_astc hx hb hK hP hD hS 11 0 rfl rfl (lz_vp (x := 80) (n := 160) (by decide) (by decide)) dX12_sheet_87 (fun H locs hP hD hS => ?_)
                                refine lv_iinc (v := 1) (lv' := [(4, .int 1), (0, .ref h0), (1, .int 2), (2, .int x1), (3, .int x2)]) hx hb dX12_sheet_88 hl (k := 0) rfl (by decide) (by decide) rfl (fun ls hl => ?_)
                                refine lv_goto (tgt := 68) hx hb dX12_sheet_91 (by decide) ?_
                                refine lv_iload hx hb dX12_sheet_68 (lv_at hl 0 rfl) ?_
                                refine lv_bipush (v := 40) hx hb dX12_sheet_70 (by decide) ?_
                                refine lv_icmp_ge (tgt := 94) hx hb dX12_sheet_72 (by decide) (fun c1145 => ?_) (fun c1145 => ?_)
                                · exact absurd c1145 (by decide)
                                · refine lv_aload_n hx hb dX12_sheet_75 rfl (lv_at hl 1 rfl) ?_
                                  refine va_get (D := D) (ci := 12) (v := .ref h11) (C := RX12) (T := TX12) (N := 24) hx hb hts hin12 hown hK hP 0 rfl rfl 18 (by decide) (hts (.fieldLink RX12 44 "MissedPointsModel" "items" "[I") (by decide +kernel)) (fun _ h9 => h9) rfl dX12_sheet_76 ?_
                                  refine lv_bipush (v := 40) hx hb dX12_sheet_79 (by decide) ?_
                                  refine lv_iload_n hx hb dX12_sheet_81 rfl (lv_at hl 2 rfl) ?_
                                  refine lv_imul hx hb dX12_sheet_82 ?_
                                  refine lz_top (y := 80) (by decide) ?_
                                  refine lv_iload hx hb dX12_sheet_83 (lv_at hl 0 rfl) ?_
                                  refine lv_iadd hx hb dX12_sheet_85 ?_
                                  refine lz_top (y := 81) (by decide) ?_
                                  refine lv_iconst (v := 0) hx hb dX12_sheet_86 (by decide) ?_
                                  refine lz_astc hx hb hK hP hD hS 11 0 rfl rfl (lz_vp (x := 81) (n := 160) (by decide) (by decide)) dX12_sheet_87 (fun H locs hP hD hS => ?_)
                                  refine lv_iinc (v := 2) (lv' := [(4, .int 2), (0, .ref h0), (1, .int 2), (2, .int x1), (3, .int x2)]) hx hb dX12_sheet_88 hl (k := 0) rfl (by decide) (by decide) rfl (fun ls hl => ?_)
                                  refine lv_goto (tgt := 68) hx hb dX12_sheet_91 (by decide) ?_
                                  refine lv_iload hx hb dX12_sheet_68 (lv_at hl 0 rfl) ?_
                                  refine lv_bipush (v := 40) hx hb dX12_sheet_70 (by decide) ?_
                                  refine lv_icmp_ge (tgt := 94) hx hb dX12_sheet_72 (by decide) (fun c1146 => ?_) (fun c1146 => ?_)
                                  · exact absurd c1146 (by decide)
                                  · refine lv_aload_n hx hb dX12_sheet_75 rfl (lv_at hl 1 rfl) ?_
                                    refine va_get (D := D) (ci := 12) (v := .ref h11) (C := RX12) (T := TX12) (N := 24) hx hb hts hin12 hown hK hP 0 rfl rfl 18 (by decide) (hts (.fieldLink RX12 44 "MissedPointsModel" "items" "[I") (by decide +kernel)) (fun _ h9 => h9) rfl dX12_sheet_76 ?_
                                    refine lv_bipush (v := 40) hx hb dX12_sheet_79 (by decide) ?_
                                    refine lv_iload_n hx hb dX12_sheet_81 rfl (lv_at hl 2 rfl) ?_
                                    refine lv_imul hx hb dX12_sheet_82 ?_
                                    refine lz_top (y := 80) (by decide) ?_
                                    refine lv_iload hx hb dX12_sheet_83 (lv_at hl 0 rfl) ?_
                                    refine lv_iadd hx hb dX12_sheet_85 ?_
                                    refine lz_top (y := 82) (by decide) ?_
                                    refine lv_iconst (v := 0) hx hb dX12_sheet_86 (by decide) ?_
                                    refine lz_astc hx hb hK hP hD hS 11 0 rfl rfl (lz_vp (x := 82) (n := 160) (by decide) (by decide)) dX12_sheet_87 (fun H locs hP hD hS => ?_)
                                    refine lv_iinc (v := 3) (lv' := [(4, .int 3), (0, .ref h0), (1, .int 2), (2, .int x1), (3, .int x2)]) hx hb dX12_sheet_88 hl (k := 0) rfl (by decide) (by decide) rfl (fun ls hl => ?_)
                                    refine lv_goto (tgt := 68) hx hb dX12_sheet_91 (by decide) ?_
                                    refine lv_iload hx hb dX12_sheet_68 (lv_at hl 0 rfl) ?_
                                    refine lv_bipush (v := 40) hx hb dX12_sheet_70 (by decide) ?_
                                    refine lv_icmp_ge (tgt := 94) hx hb dX12_sheet_72 (by decide) (fun c1147 => ?_) (fun c1147 => ?_)
                                    · exact absurd c1147 (by decide)
                                    · refine lv_aload_n hx hb dX12_sheet_75 rfl (lv_at hl 1 rfl) ?_
                                      refine va_get (D := D) (ci := 12) (v := .ref h11) (C := RX12) (T := TX12) (N := 24) hx hb hts hin12 hown hK hP 0 rfl rfl 18 (by decide) (hts (.fieldLink RX12 44 "MissedPointsModel" "items" "[I") (by decide +kernel)) (fun _ h9 => h9) rfl dX12_sheet_76 ?_
                                      refine lv_bipush (v := 40) hx hb dX12_sheet_79 (by decide) ?_
                                      refine lv_iload_n hx hb dX12_sheet_81 rfl (lv_at hl 2 rfl) ?_
                                      refine lv_imul hx hb dX12_sheet_82 ?_
                                      refine lz_top (y := 80) (by decide) ?_
                                      refine lv_iload hx hb dX12_sheet_83 (lv_at hl 0 rfl) ?_
                                      refine lv_iadd hx hb dX12_sheet_85 ?_
                                      refine lz_top (y := 83) (by decide) ?_
                                      refine lv_iconst (v := 0) hx hb dX12_sheet_86 (by decide) ?_
                                      refine lz_astc hx hb hK hP hD hS 11 0 rfl rfl (lz_vp (x := 83) (n := 160) (by decide) (by decide)) dX12_sheet_87 (fun H locs hP hD hS => ?_)
                                      refine lv_iinc (v := 4) (lv' := [(4, .int 4), (0, .ref h0), (1, .int 2), (2, .int x1), (3, .int x2)]) hx hb dX12_sheet_88 hl (k := 0) rfl (by decide) (by decide) rfl (fun ls hl => ?_)
                                      refine lv_goto (tgt := 68) hx hb dX12_sheet_91 (by decide) ?_
                                      refine lv_iload hx hb dX12_sheet_68 (lv_at hl 0 rfl) ?_
                                      refine lv_bipush (v := 40) hx hb dX12_sheet_70 (by decide) ?_
                                      refine lv_icmp_ge (tgt := 94) hx hb dX12_sheet_72 (by decide) (fun c1148 => ?_) (fun c1148 => ?_)
                                      · exact absurd c1148 (by decide)
                                      · refine lv_aload_n hx hb dX12_sheet_75 rfl (lv_at hl 1 rfl) ?_
                                        refine va_get (D := D) (ci := 12) (v := .ref h11) (C := RX12) (T := TX12) (N := 24) hx hb hts hin12 hown hK hP 0 rfl rfl 18 (by decide) (hts (.fieldLink RX12 44 "MissedPointsModel" "items" "[I") (by decide +kernel)) (fun _ h9 => h9) rfl dX12_sheet_76 ?_
                                        refine lv_bipush (v := 40) hx hb dX12_sheet_79 (by decide) ?_
                                        refine lv_iload_n hx hb dX12_sheet_81 rfl (lv_at hl 2 rfl) ?_
                                        refine lv_imul hx hb dX12_sheet_82 ?_
                                        refine lz_top (y := 80) (by decide) ?_
                                        refine lv_iload hx hb dX12_sheet_83 (lv_at hl 0 rfl) ?_
                                        refine lv_iadd hx hb dX12_sheet_85 ?_
                                        refine lz_top (y := 84) (by decide) ?_
                                        refine lv_iconst (v := 0) hx hb dX12_sheet_86 (by decide) ?_
                                        refine lz_astc hx hb hK hP hD hS 11 0 rfl rfl (lz_vp (x := 84) (n := 160) (by decide) (by decide)) dX12_sheet_87 (fun H locs hP hD hS => ?_)
                                        refine lv_iinc (v := 5) (lv' := [(4, .int 5), (0, .ref h0), (1, .int 2), (2, .int x1), (3, .int x2)]) hx hb dX12_sheet_88 hl (k := 0) rfl (by decide) (by decide) rfl (fun ls hl => ?_)
                                        refine lv_goto (tgt := 68) hx hb dX12_sheet_91 (by decide) ?_
                                        refine lv_iload hx hb dX12_sheet_68 (lv_at hl 0 rfl) ?_
                                        refine lv_bipush (v := 40) hx hb dX12_sheet_70 (by decide) ?_
                                        refine lv_icmp_ge (tgt := 94) hx hb dX12_sheet_72 (by decide) (fun c1149 => ?_) (fun c1149 => ?_)
                                        · exact absurd c1149 (by decide)
                                        · refine lv_aload_n hx hb dX12_sheet_75 rfl (lv_at hl 1 rfl) ?_
                                          refine va_get (D := D) (ci := 12) (v := .ref h11) (C := RX12) (T := TX12) (N := 24) hx hb hts hin12 hown hK hP 0 rfl rfl 18 (by decide) (hts (.fieldLink RX12 44 "MissedPointsModel" "items" "[I") (by decide +kernel)) (fun _ h9 => h9) rfl dX12_sheet_76 ?_
                                          refine lv_bipush (v := 40) hx hb dX12_sheet_79 (by decide) ?_
                                          refine lv_iload_n hx hb dX12_sheet_81 rfl (lv_at hl 2 rfl) ?_
                                          refine lv_imul hx hb dX12_sheet_82 ?_
                                          refine lz_top (y := 80) (by decide) ?_
                                          refine lv_iload hx hb dX12_sheet_83 (lv_at hl 0 rfl) ?_
                                          refine lv_iadd hx hb dX12_sheet_85 ?_
                                          refine lz_top (y := 85) (by decide) ?_
                                          refine lv_iconst (v := 0) hx hb dX12_sheet_86 (by decide) ?_
                                          refine lz_astc hx hb hK hP hD hS 11 0 rfl rfl (lz_vp (x := 85) (n := 160) (by decide) (by decide)) dX12_sheet_87 (fun H locs hP hD hS => ?_)
                                          refine lv_iinc (v := 6) (lv' := [(4, .int 6), (0, .ref h0), (1, .int 2), (2, .int x1), (3, .int x2)]) hx hb dX12_sheet_88 hl (k := 0) rfl (by decide) (by decide) rfl (fun ls hl => ?_)
                                          refine lv_goto (tgt := 68) hx hb dX12_sheet_91 (by decide) ?_
                                          refine lv_iload hx hb dX12_sheet_68 (lv_at hl 0 rfl) ?_
                                          refine lv_bipush (v := 40) hx hb dX12_sheet_70 (by decide) ?_
                                          refine lv_icmp_ge (tgt := 94) hx hb dX12_sheet_72 (by decide) (fun c1150 => ?_) (fun c1150 => ?_)
                                          · exact absurd c1150 (by decide)
                                          · refine lv_aload_n hx hb dX12_sheet_75 rfl (lv_at hl 1 rfl) ?_
                                            refine va_get (D := D) (ci := 12) (v := .ref h11) (C := RX12) (T := TX12) (N := 24) hx hb hts hin12 hown hK hP 0 rfl rfl 18 (by decide) (hts (.fieldLink RX12 44 "MissedPointsModel" "items" "[I") (by decide +kernel)) (fun _ h9 => h9) rfl dX12_sheet_76 ?_
                                            refine lv_bipush (v := 40) hx hb dX12_sheet_79 (by decide) ?_
                                            refine lv_iload_n hx hb dX12_sheet_81 rfl (lv_at hl 2 rfl) ?_
                                            refine lv_imul hx hb dX12_sheet_82 ?_
                                            refine lz_top (y := 80) (by decide) ?_
                                            refine lv_iload hx hb dX12_sheet_83 (lv_at hl 0 rfl) ?_
                                            refine lv_iadd hx hb dX12_sheet_85 ?_
                                            refine lz_top (y := 86) (by decide) ?_
                                            refine lv_iconst (v := 0) hx hb dX12_sheet_86 (by decide) ?_
                                            refine lz_astc hx hb hK hP hD hS 11 0 rfl rfl (lz_vp (x := 86) (n := 160) (by decide) (by decide)) dX12_sheet_87 (fun H locs hP hD hS => ?_)
                                            refine lv_iinc (v := 7) (lv' := [(4, .int 7), (0, .ref h0), (1, .int 2), (2, .int x1), (3, .int x2)]) hx hb dX12_sheet_88 hl (k := 0) rfl (by decide) (by decide) rfl (fun ls hl => ?_)
                                            refine lv_goto (tgt := 68) hx hb dX12_sheet_91 (by decide) ?_
                                            refine lv_iload hx hb dX12_sheet_68 (lv_at hl 0 rfl) ?_
                                            refine lv_bipush (v := 40) hx hb dX12_sheet_70 (by decide) ?_
                                            refine lv_icmp_ge (tgt := 94) hx hb dX12_sheet_72 (by decide) (fun c1151 => ?_) (fun c1151 => ?_)
                                            · exact absurd c1151 (by decide)
                                            · refine lv_aload_n hx hb dX12_sheet_75 rfl (lv_at hl 1 rfl) ?_
                                              refine va_get (D := D) (ci := 12) (v := .ref h11) (C := RX12) (T := TX12) (N := 24) hx hb hts hin12 hown hK hP 0 rfl rfl 18 (by decide) (hts (.fieldLink RX12 44 "MissedPointsModel" "items" "[I") (by decide +kernel)) (fun _ h9 => h9) rfl dX12_sheet_76 ?_
                                              refine lv_bipush (v := 40) hx hb dX12_sheet_79 (by decide) ?_
                                              refine lv_iload_n hx hb dX12_sheet_81 rfl (lv_at hl 2 rfl) ?_
                                              refine lv_imul hx hb dX12_sheet_82 ?_
                                              refine lz_top (y := 80) (by decide) ?_
                                              refine lv_iload hx hb dX12_sheet_83 (lv_at hl 0 rfl) ?_
                                              refine lv_iadd hx hb dX12_sheet_85 ?_
                                              refine lz_top (y := 87) (by decide) ?_
                                              refine lv_iconst (v := 0) hx hb dX12_sheet_86 (by decide) ?_
                                              refine lz_astc hx hb hK hP hD hS 11 0 rfl rfl (lz_vp (x := 87) (n := 160) (by decide) (by decide)) dX12_sheet_87 (fun H locs hP hD hS => ?_)
                                              refine lv_iinc (v := 8) (lv' := [(4, .int 8), (0, .ref h0), (1, .int 2), (2, .int x1), (3, .int x2)]) hx hb dX12_sheet_88 hl (k := 0) rfl (by decide) (by decide) rfl (fun ls hl => ?_)
                                              refine lv_goto (tgt := 68) hx hb dX12_sheet_91 (by decide) ?_
                                              refine lv_iload hx hb dX12_sheet_68 (lv_at hl 0 rfl) ?_
                                              refine lv_bipush (v := 40) hx hb dX12_sheet_70 (by decide) ?_
                                              refine lv_icmp_ge (tgt := 94) hx hb dX12_sheet_72 (by decide) (fun c1152 => ?_) (fun c1152 => ?_)
                                              · exact absurd c1152 (by decide)
                                              · refine lv_aload_n hx hb dX12_sheet_75 rfl (lv_at hl 1 rfl) ?_
                                                refine va_get (D := D) (ci := 12) (v := .ref h11) (C := RX12) (T := TX12) (N := 24) hx hb hts hin12 hown hK hP 0 rfl rfl 18 (by decide) (hts (.fieldLink RX12 44 "MissedPointsModel" "items" "[I") (by decide +kernel)) (fun _ h9 => h9) rfl dX12_sheet_76 ?_
                                                refine lv_bipush (v := 40) hx hb dX12_sheet_79 (by decide) ?_
                                                refine lv_iload_n hx hb dX12_sheet_81 rfl (lv_at hl 2 rfl) ?_
                                                refine lv_imul hx hb dX12_sheet_82 ?_
                                                refine lz_top (y := 80) (by decide) ?_
                                                refine lv_iload hx hb dX12_sheet_83 (lv_at hl 0 rfl) ?_
                                                refine lv_iadd hx hb dX12_sheet_85 ?_
                                                refine lz_top (y := 88) (by decide) ?_
                                                refine lv_iconst (v := 0) hx hb dX12_sheet_86 (by decide) ?_
                                                refine lz_astc hx hb hK hP hD hS 11 0 rfl rfl (lz_vp (x := 88) (n := 160) (by decide) (by decide)) dX12_sheet_87 (fun H locs hP hD hS => ?_)
                                                refine lv_iinc (v := 9) (lv' := [(4, .int 9), (0, .ref h0), (1, .int 2), (2, .int x1), (3, .int x2)]) hx hb dX12_sheet_88 hl (k := 0) rfl (by decide) (by decide) rfl (fun ls hl => ?_)
                                                refine lv_goto (tgt := 68) hx hb dX12_sheet_91 (by decide) ?_
                                                refine lv_iload hx hb dX12_sheet_68 (lv_at hl 0 rfl) ?_
                                                refine lv_bipush (v := 40) hx hb dX12_sheet_70 (by decide) ?_
                                                refine lv_icmp_ge (tgt := 94) hx hb dX12_sheet_72 (by decide) (fun c1153 => ?_) (fun c1153 => ?_)
                                                · exact absurd c1153 (by decide)
                                                · refine lv_aload_n hx hb dX12_sheet_75 rfl (lv_at hl 1 rfl) ?_
                                                  refine va_get (D := D) (ci := 12) (v := .ref h11) (C := RX12) (T := TX12) (N := 24) hx hb hts hin12 hown hK hP 0 rfl rfl 18 (by decide) (hts (.fieldLink RX12 44 "MissedPointsModel" "items" "[I") (by decide +kernel)) (fun _ h9 => h9) rfl dX12_sheet_76 ?_
                                                  refine lv_bipush (v := 40) hx hb dX12_sheet_79 (by decide) ?_
                                                  refine lv_iload_n hx hb dX12_sheet_81 rfl (lv_at hl 2 rfl) ?_
                                                  refine lv_imul hx hb dX12_sheet_82 ?_
                                                  refine lz_top (y := 80) (by decide) ?_
                                                  refine lv_iload hx hb dX12_sheet_83 (lv_at hl 0 rfl) ?_
                                                  refine lv_iadd hx hb dX12_sheet_85 ?_
                                                  refine lz_top (y := 89) (by decide) ?_
                                                  refine lv_iconst (v := 0) hx hb dX12_sheet_86 (by decide) ?_
                                                  refine lz_astc hx hb hK hP hD hS 11 0 rfl rfl (lz_vp (x := 89) (n := 160) (by decide) (by decide)) dX12_sheet_87 (fun H locs hP hD hS => ?_)
                                                  refine lv_iinc (v := 10) (lv' := [(4, .int 10), (0, .ref h0), (1, .int 2), (2, .int x1), (3, .int x2)]) hx hb dX12_sheet_88 hl (k := 0) rfl (by decide) (by decide) rfl (fun ls hl => ?_)
                                                  refine lv_goto (tgt := 68) hx hb dX12_sheet_91 (by decide) ?_
                                                  refine lv_iload hx hb dX12_sheet_68 (lv_at hl 0 rfl) ?_
                                                  refine lv_bipush (v := 40) hx hb dX12_sheet_70 (by decide) ?_
                                                  refine lv_icmp_ge (tgt := 94) hx hb dX12_sheet_72 (by decide) (fun c1154 => ?_) (fun c1154 => ?_)
                                                  · exact absurd c1154 (by decide)
                                                  · refine lv_aload_n hx hb dX12_sheet_75 rfl (lv_at hl 1 rfl) ?_
                                                    refine va_get (D := D) (ci := 12) (v := .ref h11) (C := RX12) (T := TX12) (N := 24) hx hb hts hin12 hown hK hP 0 rfl rfl 18 (by decide) (hts (.fieldLink RX12 44 "MissedPointsModel" "items" "[I") (by decide +kernel)) (fun _ h9 => h9) rfl dX12_sheet_76 ?_
                                                    refine lv_bipush (v := 40) hx hb dX12_sheet_79 (by decide) ?_
                                                    refine lv_iload_n hx hb dX12_sheet_81 rfl (lv_at hl 2 rfl) ?_
                                                    refine lv_imul hx hb dX12_sheet_82 ?_
                                                    refine lz_top (y := 80) (by decide) ?_
                                                    refine lv_iload hx hb dX12_sheet_83 (lv_at hl 0 rfl) ?_
                                                    refine lv_iadd hx hb dX12_sheet_85 ?_
                                                    refine lz_top (y := 90) (by decide) ?_
                                                    refine lv_iconst (v := 0) hx hb dX12_sheet_86 (by decide) ?_
                                                    refine lz_astc hx hb hK hP hD hS 11 0 rfl rfl (lz_vp (x := 90) (n := 160) (by decide) (by decide)) dX12_sheet_87 (fun H locs hP hD hS => ?_)
                                                    refine lv_iinc (v := 11) (lv' := [(4, .int 11), (0, .ref h0), (1, .int 2), (2, .int x1), (3, .int x2)]) hx hb dX12_sheet_88 hl (k := 0) rfl (by decide) (by decide) rfl (fun ls hl => ?_)
                                                    refine lv_goto (tgt := 68) hx hb dX12_sheet_91 (by decide) ?_
                                                    refine lv_iload hx hb dX12_sheet_68 (lv_at hl 0 rfl) ?_
                                                    refine lv_bipush (v := 40) hx hb dX12_sheet_70 (by decide) ?_
                                                    refine lv_icmp_ge (tgt := 94) hx hb dX12_sheet_72 (by decide) (fun c1155 => ?_) (fun c1155 => ?_)
                                                    · exact absurd c1155 (by decide)
                                                    · refine lv_aload_n hx hb dX12_sheet_75 rfl (lv_at hl 1 rfl) ?_
                                                      refine va_get (D := D) (ci := 12) (v := .ref h11) (C := RX12) (T := TX12) (N := 24) hx hb hts hin12 hown hK hP 0 rfl rfl 18 (by decide) (hts (.fieldLink RX12 44 "MissedPointsModel" "items" "[I") (by decide +kernel)) (fun _ h9 => h9) rfl dX12_sheet_76 ?_
                                                      refine lv_bipush (v := 40) hx hb dX12_sheet_79 (by decide) ?_
                                                      refine lv_iload_n hx hb dX12_sheet_81 rfl (lv_at hl 2 rfl) ?_
                                                      refine lv_imul hx hb dX12_sheet_82 ?_
                                                      refine lz_top (y := 80) (by decide) ?_
                                                      refine lv_iload hx hb dX12_sheet_83 (lv_at hl 0 rfl) ?_
                                                      refine lv_iadd hx hb dX12_sheet_85 ?_
                                                      refine lz_top (y := 91) (by decide) ?_
                                                      refine lv_iconst (v := 0) hx hb dX12_sheet_86 (by decide) ?_
                                                      refine lz_astc hx hb hK hP hD hS 11 0 rfl rfl (lz_vp (x := 91) (n := 160) (by decide) (by decide)) dX12_sheet_87 (fun H locs hP hD hS => ?_)
                                                      refine lv_iinc (v := 12) (lv' := [(4, .int 12), (0, .ref h0), (1, .int 2), (2, .int x1), (3, .int x2)]) hx hb dX12_sheet_88 hl (k := 0) rfl (by decide) (by decide) rfl (fun ls hl => ?_)
                                                      refine lv_goto (tgt := 68) hx hb dX12_sheet_91 (by decide) ?_
                                                      refine lv_iload hx hb dX12_sheet_68 (lv_at hl 0 rfl) ?_
                                                      refine lv_bipush (v := 40) hx hb dX12_sheet_70 (by decide) ?_
                                                      refine lv_icmp_ge (tgt := 94) hx hb dX12_sheet_72 (by decide) (fun c1156 => ?_) (fun c1156 => ?_)
                                                      · exact absurd c1156 (by decide)
                                                      · refine lv_aload_n hx hb dX12_sheet_75 rfl (lv_at hl 1 rfl) ?_
                                                        refine va_get (D := D) (ci := 12) (v := .ref h11) (C := RX12) (T := TX12) (N := 24) hx hb hts hin12 hown hK hP 0 rfl rfl 18 (by decide) (hts (.fieldLink RX12 44 "MissedPointsModel" "items" "[I") (by decide +kernel)) (fun _ h9 => h9) rfl dX12_sheet_76 ?_
                                                        refine lv_bipush (v := 40) hx hb dX12_sheet_79 (by decide) ?_
                                                        refine lv_iload_n hx hb dX12_sheet_81 rfl (lv_at hl 2 rfl) ?_
                                                        refine lv_imul hx hb dX12_sheet_82 ?_
                                                        refine lz_top (y := 80) (by decide) ?_
                                                        refine lv_iload hx hb dX12_sheet_83 (lv_at hl 0 rfl) ?_
                                                        refine lv_iadd hx hb dX12_sheet_85 ?_
                                                        refine lz_top (y := 92) (by decide) ?_
                                                        refine lv_iconst (v := 0) hx hb dX12_sheet_86 (by decide) ?_
                                                        refine lz_astc hx hb hK hP hD hS 11 0 rfl rfl (lz_vp (x := 92) (n := 160) (by decide) (by decide)) dX12_sheet_87 (fun H locs hP hD hS => ?_)
                                                        refine lv_iinc (v := 13) (lv' := [(4, .int 13), (0, .ref h0), (1, .int 2), (2, .int x1), (3, .int x2)]) hx hb dX12_sheet_88 hl (k := 0) rfl (by decide) (by decide) rfl (fun ls hl => ?_)
                                                        refine lv_goto (tgt := 68) hx hb dX12_sheet_91 (by decide) ?_
                                                        refine lv_iload hx hb dX12_sheet_68 (lv_at hl 0 rfl) ?_
                                                        refine lv_bipush (v := 40) hx hb dX12_sheet_70 (by decide) ?_
                                                        refine lv_icmp_ge (tgt := 94) hx hb dX12_sheet_72 (by decide) (fun c1157 => ?_) (fun c1157 => ?_)
                                                        · exact absurd c1157 (by decide)
                                                        · refine lv_aload_n hx hb dX12_sheet_75 rfl (lv_at hl 1 rfl) ?_
                                                          refine va_get (D := D) (ci := 12) (v := .ref h11) (C := RX12) (T := TX12) (N := 24) hx hb hts hin12 hown hK hP 0 rfl rfl 18 (by decide) (hts (.fieldLink RX12 44 "MissedPointsModel" "items" "[I") (by decide +kernel)) (fun _ h9 => h9) rfl dX12_sheet_76 ?_
                                                          refine lv_bipush (v := 40) hx hb dX12_sheet_79 (by decide) ?_
                                                          refine lv_iload_n hx hb dX12_sheet_81 rfl (lv_at hl 2 rfl) ?_
                                                          refine lv_imul hx hb dX12_sheet_82 ?_
                                                          refine lz_top (y := 80) (by decide) ?_
                                                          refine lv_iload hx hb dX12_sheet_83 (lv_at hl 0 rfl) ?_
                                                          refine lv_iadd hx hb dX12_sheet_85 ?_
                                                          refine lz_top (y := 93) (by decide) ?_
                                                          refine lv_iconst (v := 0) hx hb dX12_sheet_86 (by decide) ?_
                                                          refine lz_astc hx hb hK hP hD hS 11 0 rfl rfl (lz_vp (x := 93) (n := 160) (by decide) (by decide)) dX12_sheet_87 (fun H locs hP hD hS => ?_)
                                                          refine lv_iinc (v := 14) (lv' := [(4, .int 14), (0, .ref h0), (1, .int 2), (2, .int x1), (3, .int x2)]) hx hb dX12_sheet_88 hl (k := 0) rfl (by decide) (by decide) rfl (fun ls hl => ?_)
                                                          refine lv_goto (tgt := 68) hx hb dX12_sheet_91 (by decide) ?_
                                                          refine lv_iload hx hb dX12_sheet_68 (lv_at hl 0 rfl) ?_
                                                          refine lv_bipush (v := 40) hx hb dX12_sheet_70 (by decide) ?_
                                                          refine lv_icmp_ge (tgt := 94) hx hb dX12_sheet_72 (by decide) (fun c1158 => ?_) (fun c1158 => ?_)
                                                          · exact absurd c1158 (by decide)
                                                          · refine lv_aload_n hx hb dX12_sheet_75 rfl (lv_at hl 1 rfl) ?_
                                                            refine va_get (D := D) (ci := 12) (v := .ref h11) (C := RX12) (T := TX12) (N := 24) hx hb hts hin12 hown hK hP 0 rfl rfl 18 (by decide) (hts (.fieldLink RX12 44 "MissedPointsModel" "items" "[I") (by decide +kernel)) (fun _ h9 => h9) rfl dX12_sheet_76 ?_
                                                            refine lv_bipush (v := 40) hx hb dX12_sheet_79 (by decide) ?_
                                                            refine lv_iload_n hx hb dX12_sheet_81 rfl (lv_at hl 2 rfl) ?_
                                                            refine lv_imul hx hb dX12_sheet_82 ?_
                                                            refine lz_top (y := 80) (by decide) ?_
                                                            refine lv_iload hx hb dX12_sheet_83 (lv_at hl 0 rfl) ?_
                                                            refine lv_iadd hx hb dX12_sheet_85 ?_
                                                            refine lz_top (y := 94) (by decide) ?_
                                                            refine lv_iconst (v := 0) hx hb dX12_sheet_86 (by decide) ?_
                                                            refine lz_astc hx hb hK hP hD hS 11 0 rfl rfl (lz_vp (x := 94) (n := 160) (by decide) (by decide)) dX12_sheet_87 (fun H locs hP hD hS => ?_)
                                                            refine lv_iinc (v := 15) (lv' := [(4, .int 15), (0, .ref h0), (1, .int 2), (2, .int x1), (3, .int x2)]) hx hb dX12_sheet_88 hl (k := 0) rfl (by decide) (by decide) rfl (fun ls hl => ?_)
                                                            refine lv_goto (tgt := 68) hx hb dX12_sheet_91 (by decide) ?_
                                                            refine lv_iload hx hb dX12_sheet_68 (lv_at hl 0 rfl) ?_
                                                            refine lv_bipush (v := 40) hx hb dX12_sheet_70 (by decide) ?_
                                                            refine lv_icmp_ge (tgt := 94) hx hb dX12_sheet_72 (by decide) (fun c1159 => ?_) (fun c1159 => ?_)
                                                            · exact absurd c1159 (by decide)
                                                            · refine lv_aload_n hx hb dX12_sheet_75 rfl (lv_at hl 1 rfl) ?_
                                                              refine va_get (D := D) (ci := 12) (v := .ref h11) (C := RX12) (T := TX12) (N := 24) hx hb hts hin12 hown hK hP 0 rfl rfl 18 (by decide) (hts (.fieldLink RX12 44 "MissedPointsModel" "items" "[I") (by decide +kernel)) (fun _ h9 => h9) rfl dX12_sheet_76 ?_
                                                              refine lv_bipush (v := 40) hx hb dX12_sheet_79 (by decide) ?_
                                                              refine lv_iload_n hx hb dX12_sheet_81 rfl (lv_at hl 2 rfl) ?_
                                                              refine lv_imul hx hb dX12_sheet_82 ?_
                                                              refine lz_top (y := 80) (by decide) ?_
                                                              refine lv_iload hx hb dX12_sheet_83 (lv_at hl 0 rfl) ?_
                                                              refine lv_iadd hx hb dX12_sheet_85 ?_
                                                              refine lz_top (y := 95) (by decide) ?_
                                                              refine lv_iconst (v := 0) hx hb dX12_sheet_86 (by decide) ?_
                                                              refine lz_astc hx hb hK hP hD hS 11 0 rfl rfl (lz_vp (x := 95) (n := 160) (by decide) (by decide)) dX12_sheet_87 (fun H locs hP hD hS => ?_)
                                                              refine lv_iinc (v := 16) (lv' := [(4, .int 16), (0, .ref h0), (1, .int 2), (2, .int x1), (3, .int x2)]) hx hb dX12_sheet_88 hl (k := 0) rfl (by decide) (by decide) rfl (fun ls hl => ?_)
                                                              refine lv_goto (tgt := 68) hx hb dX12_sheet_91 (by decide) ?_
                                                              refine lv_iload hx hb dX12_sheet_68 (lv_at hl 0 rfl) ?_
                                                              refine lv_bipush (v := 40) hx hb dX12_sheet_70 (by decide) ?_
                                                              refine lv_icmp_ge (tgt := 94) hx hb dX12_sheet_72 (by decide) (fun c1160 => ?_) (fun c1160 => ?_)
                                                              · exact absurd c1160 (by decide)
                                                              · refine lv_aload_n hx hb dX12_sheet_75 rfl (lv_at hl 1 rfl) ?_
                                                                refine va_get (D := D) (ci := 12) (v := .ref h11) (C := RX12) (T := TX12) (N := 24) hx hb hts hin12 hown hK hP 0 rfl rfl 18 (by decide) (hts (.fieldLink RX12 44 "MissedPointsModel" "items" "[I") (by decide +kernel)) (fun _ h9 => h9) rfl dX12_sheet_76 ?_
                                                                refine lv_bipush (v := 40) hx hb dX12_sheet_79 (by decide) ?_
                                                                refine lv_iload_n hx hb dX12_sheet_81 rfl (lv_at hl 2 rfl) ?_
                                                                refine lv_imul hx hb dX12_sheet_82 ?_
                                                                refine lz_top (y := 80) (by decide) ?_
                                                                refine lv_iload hx hb dX12_sheet_83 (lv_at hl 0 rfl) ?_
                                                                refine lv_iadd hx hb dX12_sheet_85 ?_
                                                                refine lz_top (y := 96) (by decide) ?_
                                                                refine lv_iconst (v := 0) hx hb dX12_sheet_86 (by decide) ?_
                                                                refine lz_astc hx hb hK hP hD hS 11 0 rfl rfl (lz_vp (x := 96) (n := 160) (by decide) (by decide)) dX12_sheet_87 (fun H locs hP hD hS => ?_)
                                                                refine lv_iinc (v := 17) (lv' := [(4, .int 17), (0, .ref h0), (1, .int 2), (2, .int x1), (3, .int x2)]) hx hb dX12_sheet_88 hl (k := 0) rfl (by decide) (by decide) rfl (fun ls hl => ?_)
                                                                refine lv_goto (tgt := 68) hx hb dX12_sheet_91 (by decide) ?_
                                                                refine lv_iload hx hb dX12_sheet_68 (lv_at hl 0 rfl) ?_
                                                                refine lv_bipush (v := 40) hx hb dX12_sheet_70 (by decide) ?_
                                                                refine lv_icmp_ge (tgt := 94) hx hb dX12_sheet_72 (by decide) (fun c1161 => ?_) (fun c1161 => ?_)
                                                                · exact absurd c1161 (by decide)
                                                                · refine lv_aload_n hx hb dX12_sheet_75 rfl (lv_at hl 1 rfl) ?_
                                                                  refine va_get (D := D) (ci := 12) (v := .ref h11) (C := RX12) (T := TX12) (N := 24) hx hb hts hin12 hown hK hP 0 rfl rfl 18 (by decide) (hts (.fieldLink RX12 44 "MissedPointsModel" "items" "[I") (by decide +kernel)) (fun _ h9 => h9) rfl dX12_sheet_76 ?_
                                                                  refine lv_bipush (v := 40) hx hb dX12_sheet_79 (by decide) ?_
                                                                  refine lv_iload_n hx hb dX12_sheet_81 rfl (lv_at hl 2 rfl) ?_
                                                                  refine lv_imul hx hb dX12_sheet_82 ?_
                                                                  refine lz_top (y := 80) (by decide) ?_
                                                                  refine lv_iload hx hb dX12_sheet_83 (lv_at hl 0 rfl) ?_
                                                                  refine lv_iadd hx hb dX12_sheet_85 ?_
                                                                  refine lz_top (y := 97) (by decide) ?_
                                                                  refine lv_iconst (v := 0) hx hb dX12_sheet_86 (by decide) ?_
                                                                  refine lz_astc hx hb hK hP hD hS 11 0 rfl rfl (lz_vp (x := 97) (n := 160) (by decide) (by decide)) dX12_sheet_87 (fun H locs hP hD hS => ?_)
                                                                  refine lv_iinc (v := 18) (lv' := [(4, .int 18), (0, .ref h0), (1, .int 2), (2, .int x1), (3, .int x2)]) hx hb dX12_sheet_88 hl (k := 0) rfl (by decide) (by decide) rfl (fun ls hl => ?_)
                                                                  refine lv_goto (tgt := 68) hx hb dX12_sheet_91 (by decide) ?_
                                                                  refine lv_iload hx hb dX12_sheet_68 (lv_at hl 0 rfl) ?_
                                                                  refine lv_bipush (v := 40) hx hb dX12_sheet_70 (by decide) ?_
                                                                  refine lv_icmp_ge (tgt := 94) hx hb dX12_sheet_72 (by decide) (fun c1162 => ?_) (fun c1162 => ?_)
                                                                  · exact absurd c1162 (by decide)
                                                                  · refine lv_aload_n hx hb dX12_sheet_75 rfl (lv_at hl 1 rfl) ?_
                                                                    refine va_get (D := D) (ci := 12) (v := .ref h11) (C := RX12) (T := TX12) (N := 24) hx hb hts hin12 hown hK hP 0 rfl rfl 18 (by decide) (hts (.fieldLink RX12 44 "MissedPointsModel" "items" "[I") (by decide +kernel)) (fun _ h9 => h9) rfl dX12_sheet_76 ?_
                                                                    refine lv_bipush (v := 40) hx hb dX12_sheet_79 (by decide) ?_
                                                                    refine lv_iload_n hx hb dX12_sheet_81 rfl (lv_at hl 2 rfl) ?_
                                                                    refine lv_imul hx hb dX12_sheet_82 ?_
                                                                    refine lz_top (y := 80) (by decide) ?_
                                                                    refine lv_iload hx hb dX12_sheet_83 (lv_at hl 0 rfl) ?_
                                                                    refine lv_iadd hx hb dX12_sheet_85 ?_
                                                                    refine lz_top (y := 98) (by decide) ?_
                                                                    refine lv_iconst (v := 0) hx hb dX12_sheet_86 (by decide) ?_
                                                                    refine lz_astc hx hb hK hP hD hS 11 0 rfl rfl (lz_vp (x := 98) (n := 160) (by decide) (by decide)) dX12_sheet_87 (fun H locs hP hD hS => ?_)
                                                                    refine lv_iinc (v := 19) (lv' := [(4, .int 19), (0, .ref h0), (1, .int 2), (2, .int x1), (3, .int x2)]) hx hb dX12_sheet_88 hl (k := 0) rfl (by decide) (by decide) rfl (fun ls hl => ?_)
                                                                    refine lv_goto (tgt := 68) hx hb dX12_sheet_91 (by decide) ?_
                                                                    refine lv_iload hx hb dX12_sheet_68 (lv_at hl 0 rfl) ?_
                                                                    refine lv_bipush (v := 40) hx hb dX12_sheet_70 (by decide) ?_
                                                                    refine lv_icmp_ge (tgt := 94) hx hb dX12_sheet_72 (by decide) (fun c1163 => ?_) (fun c1163 => ?_)
                                                                    · exact absurd c1163 (by decide)
                                                                    · refine lv_aload_n hx hb dX12_sheet_75 rfl (lv_at hl 1 rfl) ?_
                                                                      refine va_get (D := D) (ci := 12) (v := .ref h11) (C := RX12) (T := TX12) (N := 24) hx hb hts hin12 hown hK hP 0 rfl rfl 18 (by decide) (hts (.fieldLink RX12 44 "MissedPointsModel" "items" "[I") (by decide +kernel)) (fun _ h9 => h9) rfl dX12_sheet_76 ?_
                                                                      refine lv_bipush (v := 40) hx hb dX12_sheet_79 (by decide) ?_
                                                                      refine lv_iload_n hx hb dX12_sheet_81 rfl (lv_at hl 2 rfl) ?_
                                                                      refine lv_imul hx hb dX12_sheet_82 ?_
                                                                      refine lz_top (y := 80) (by decide) ?_
                                                                      refine lv_iload hx hb dX12_sheet_83 (lv_at hl 0 rfl) ?_
                                                                      refine lv_iadd hx hb dX12_sheet_85 ?_
                                                                      refine lz_top (y := 99) (by decide) ?_
                                                                      refine lv_iconst (v := 0) hx hb dX12_sheet_86 (by decide) ?_
                                                                      refine lz_astc hx hb hK hP hD hS 11 0 rfl rfl (lz_vp (x := 99) (n := 160) (by decide) (by decide)) dX12_sheet_87 (fun H locs hP hD hS => ?_)
                                                                      refine lv_iinc (v := 20) (lv' := [(4, .int 20), (0, .ref h0), (1, .int 2), (2, .int x1), (3, .int x2)]) hx hb dX12_sheet_88 hl (k := 0) rfl (by decide) (by decide) rfl (fun ls hl => ?_)
                                                                      refine lv_goto (tgt := 68) hx hb dX12_sheet_91 (by decide) ?_
                                                                      refine lv_iload hx hb dX12_sheet_68 (lv_at hl 0 rfl) ?_
                                                                      refine lv_bipush (v := 40) hx hb dX12_sheet_70 (by decide) ?_
                                                                      refine lv_icmp_ge (tgt := 94) hx hb dX12_sheet_72 (by decide) (fun c1164 => ?_) (fun c1164 => ?_)
                                                                      · exact absurd c1164 (by decide)
                                                                      · refine lv_aload_n hx hb dX12_sheet_75 rfl (lv_at hl 1 rfl) ?_
                                                                        refine va_get (D := D) (ci := 12) (v := .ref h11) (C := RX12) (T := TX12) (N := 24) hx hb hts hin12 hown hK hP 0 rfl rfl 18 (by decide) (hts (.fieldLink RX12 44 "MissedPointsModel" "items" "[I") (by decide +kernel)) (fun _ h9 => h9) rfl dX12_sheet_76 ?_
                                                                        refine lv_bipush (v := 40) hx hb dX12_sheet_79 (by decide) ?_
                                                                        refine lv_iload_n hx hb dX12_sheet_81 rfl (lv_at hl 2 rfl) ?_
                                                                        refine lv_imul hx hb dX12_sheet_82 ?_
                                                                        refine lz_top (y := 80) (by decide) ?_
                                                                        refine lv_iload hx hb dX12_sheet_83 (lv_at hl 0 rfl) ?_
                                                                        refine lv_iadd hx hb dX12_sheet_85 ?_
                                                                        refine lz_top (y := 100) (by decide) ?_
                                                                        refine lv_iconst (v := 0) hx hb dX12_sheet_86 (by decide) ?_
                                                                        refine lz_astc hx hb hK hP hD hS 11 0 rfl rfl (lz_vp (x := 100) (n := 160) (by decide) (by decide)) dX12_sheet_87 (fun H locs hP hD hS => ?_)
                                                                        refine lv_iinc (v := 21) (lv' := [(4, .int 21), (0, .ref h0), (1, .int 2), (2, .int x1), (3, .int x2)]) hx hb dX12_sheet_88 hl (k := 0) rfl (by decide) (by decide) rfl (fun ls hl => ?_)
                                                                        refine lv_goto (tgt := 68) hx hb dX12_sheet_91 (by decide) ?_
                                                                        refine lv_iload hx hb dX12_sheet_68 (lv_at hl 0 rfl) ?_
                                                                        refine lv_bipush (v := 40) hx hb dX12_sheet_70 (by decide) ?_
                                                                        refine lv_icmp_ge (tgt := 94) hx hb dX12_sheet_72 (by decide) (fun c1165 => ?_) (fun c1165 => ?_)
                                                                        · exact absurd c1165 (by decide)
                                                                        · refine lv_aload_n hx hb dX12_sheet_75 rfl (lv_at hl 1 rfl) ?_
                                                                          refine va_get (D := D) (ci := 12) (v := .ref h11) (C := RX12) (T := TX12) (N := 24) hx hb hts hin12 hown hK hP 0 rfl rfl 18 (by decide) (hts (.fieldLink RX12 44 "MissedPointsModel" "items" "[I") (by decide +kernel)) (fun _ h9 => h9) rfl dX12_sheet_76 ?_
                                                                          refine lv_bipush (v := 40) hx hb dX12_sheet_79 (by decide) ?_
                                                                          refine lv_iload_n hx hb dX12_sheet_81 rfl (lv_at hl 2 rfl) ?_
                                                                          refine lv_imul hx hb dX12_sheet_82 ?_
                                                                          refine lz_top (y := 80) (by decide) ?_
                                                                          refine lv_iload hx hb dX12_sheet_83 (lv_at hl 0 rfl) ?_
                                                                          refine lv_iadd hx hb dX12_sheet_85 ?_
                                                                          refine lz_top (y := 101) (by decide) ?_
                                                                          refine lv_iconst (v := 0) hx hb dX12_sheet_86 (by decide) ?_
                                                                          refine lz_astc hx hb hK hP hD hS 11 0 rfl rfl (lz_vp (x := 101) (n := 160) (by decide) (by decide)) dX12_sheet_87 (fun H locs hP hD hS => ?_)
                                                                          refine lv_iinc (v := 22) (lv' := [(4, .int 22), (0, .ref h0), (1, .int 2), (2, .int x1), (3, .int x2)]) hx hb dX12_sheet_88 hl (k := 0) rfl (by decide) (by decide) rfl (fun ls hl => ?_)
                                                                          refine lv_goto (tgt := 68) hx hb dX12_sheet_91 (by decide) ?_
                                                                          refine lv_iload hx hb dX12_sheet_68 (lv_at hl 0 rfl) ?_
                                                                          refine lv_bipush (v := 40) hx hb dX12_sheet_70 (by decide) ?_
                                                                          refine lv_icmp_ge (tgt := 94) hx hb dX12_sheet_72 (by decide) (fun c1166 => ?_) (fun c1166 => ?_)
                                                                          · exact absurd c1166 (by decide)
                                                                          · refine lv_aload_n hx hb dX12_sheet_75 rfl (lv_at hl 1 rfl) ?_
                                                                            refine va_get (D := D) (ci := 12) (v := .ref h11) (C := RX12) (T := TX12) (N := 24) hx hb hts hin12 hown hK hP 0 rfl rfl 18 (by decide) (hts (.fieldLink RX12 44 "MissedPointsModel" "items" "[I") (by decide +kernel)) (fun _ h9 => h9) rfl dX12_sheet_76 ?_
                                                                            refine lv_bipush (v := 40) hx hb dX12_sheet_79 (by decide) ?_
                                                                            refine lv_iload_n hx hb dX12_sheet_81 rfl (lv_at hl 2 rfl) ?_
                                                                            refine lv_imul hx hb dX12_sheet_82 ?_
                                                                            refine lz_top (y := 80) (by decide) ?_
                                                                            refine lv_iload hx hb dX12_sheet_83 (lv_at hl 0 rfl) ?_
                                                                            refine lv_iadd hx hb dX12_sheet_85 ?_
                                                                            refine lz_top (y := 102) (by decide) ?_
                                                                            refine lv_iconst (v := 0) hx hb dX12_sheet_86 (by decide) ?_
                                                                            refine lz_astc hx hb hK hP hD hS 11 0 rfl rfl (lz_vp (x := 102) (n := 160) (by decide) (by decide)) dX12_sheet_87 (fun H locs hP hD hS => ?_)
                                                                            refine lv_iinc (v := 23) (lv' := [(4, .int 23), (0, .ref h0), (1, .int 2), (2, .int x1), (3, .int x2)]) hx hb dX12_sheet_88 hl (k := 0) rfl (by decide) (by decide) rfl (fun ls hl => ?_)
                                                                            refine lv_goto (tgt := 68) hx hb dX12_sheet_91 (by decide) ?_
                                                                            refine lv_iload hx hb dX12_sheet_68 (lv_at hl 0 rfl) ?_
                                                                            refine lv_bipush (v := 40) hx hb dX12_sheet_70 (by decide) ?_
                                                                            refine lv_icmp_ge (tgt := 94) hx hb dX12_sheet_72 (by decide) (fun c1167 => ?_) (fun c1167 => ?_)
                                                                            · exact absurd c1167 (by decide)
                                                                            · refine lv_aload_n hx hb dX12_sheet_75 rfl (lv_at hl 1 rfl) ?_
                                                                              refine va_get (D := D) (ci := 12) (v := .ref h11) (C := RX12) (T := TX12) (N := 24) hx hb hts hin12 hown hK hP 0 rfl rfl 18 (by decide) (hts (.fieldLink RX12 44 "MissedPointsModel" "items" "[I") (by decide +kernel)) (fun _ h9 => h9) rfl dX12_sheet_76 ?_
                                                                              refine lv_bipush (v := 40) hx hb dX12_sheet_79 (by decide) ?_
                                                                              refine lv_iload_n hx hb dX12_sheet_81 rfl (lv_at hl 2 rfl) ?_
                                                                              refine lv_imul hx hb dX12_sheet_82 ?_
                                                                              refine lz_top (y := 80) (by decide) ?_
                                                                              refine lv_iload hx hb dX12_sheet_83 (lv_at hl 0 rfl) ?_
                                                                              refine lv_iadd hx hb dX12_sheet_85 ?_
                                                                              refine lz_top (y := 103) (by decide) ?_
                                                                              refine lv_iconst (v := 0) hx hb dX12_sheet_86 (by decide) ?_
                                                                              refine lz_astc hx hb hK hP hD hS 11 0 rfl rfl (lz_vp (x := 103) (n := 160) (by decide) (by decide)) dX12_sheet_87 (fun H locs hP hD hS => ?_)
                                                                              refine lv_iinc (v := 24) (lv' := [(4, .int 24), (0, .ref h0), (1, .int 2), (2, .int x1), (3, .int x2)]) hx hb dX12_sheet_88 hl (k := 0) rfl (by decide) (by decide) rfl (fun ls hl => ?_)
                                                                              refine lv_goto (tgt := 68) hx hb dX12_sheet_91 (by decide) ?_
                                                                              refine lv_iload hx hb dX12_sheet_68 (lv_at hl 0 rfl) ?_
                                                                              refine lv_bipush (v := 40) hx hb dX12_sheet_70 (by decide) ?_
                                                                              refine lv_icmp_ge (tgt := 94) hx hb dX12_sheet_72 (by decide) (fun c1168 => ?_) (fun c1168 => ?_)
                                                                              · exact absurd c1168 (by decide)
                                                                              · refine lv_aload_n hx hb dX12_sheet_75 rfl (lv_at hl 1 rfl) ?_
                                                                                refine va_get (D := D) (ci := 12) (v := .ref h11) (C := RX12) (T := TX12) (N := 24) hx hb hts hin12 hown hK hP 0 rfl rfl 18 (by decide) (hts (.fieldLink RX12 44 "MissedPointsModel" "items" "[I") (by decide +kernel)) (fun _ h9 => h9) rfl dX12_sheet_76 ?_
                                                                                refine lv_bipush (v := 40) hx hb dX12_sheet_79 (by decide) ?_
                                                                                refine lv_iload_n hx hb dX12_sheet_81 rfl (lv_at hl 2 rfl) ?_
                                                                                refine lv_imul hx hb dX12_sheet_82 ?_
                                                                                refine lz_top (y := 80) (by decide) ?_
                                                                                refine lv_iload hx hb dX12_sheet_83 (lv_at hl 0 rfl) ?_
                                                                                refine lv_iadd hx hb dX12_sheet_85 ?_
                                                                                refine lz_top (y := 104) (by decide) ?_
                                                                                refine lv_iconst (v := 0) hx hb dX12_sheet_86 (by decide) ?_
                                                                                refine lz_astc hx hb hK hP hD hS 11 0 rfl rfl (lz_vp (x := 104) (n := 160) (by decide) (by decide)) dX12_sheet_87 (fun H locs hP hD hS => ?_)
                                                                                refine lv_iinc (v := 25) (lv' := [(4, .int 25), (0, .ref h0), (1, .int 2), (2, .int x1), (3, .int x2)]) hx hb dX12_sheet_88 hl (k := 0) rfl (by decide) (by decide) rfl (fun ls hl => ?_)
                                                                                refine lv_goto (tgt := 68) hx hb dX12_sheet_91 (by decide) ?_
                                                                                refine lv_iload hx hb dX12_sheet_68 (lv_at hl 0 rfl) ?_
                                                                                refine lv_bipush (v := 40) hx hb dX12_sheet_70 (by decide) ?_
                                                                                refine lv_icmp_ge (tgt := 94) hx hb dX12_sheet_72 (by decide) (fun c1169 => ?_) (fun c1169 => ?_)
                                                                                · exact absurd c1169 (by decide)
                                                                                · refine lv_aload_n hx hb dX12_sheet_75 rfl (lv_at hl 1 rfl) ?_
                                                                                  refine va_get (D := D) (ci := 12) (v := .ref h11) (C := RX12) (T := TX12) (N := 24) hx hb hts hin12 hown hK hP 0 rfl rfl 18 (by decide) (hts (.fieldLink RX12 44 "MissedPointsModel" "items" "[I") (by decide +kernel)) (fun _ h9 => h9) rfl dX12_sheet_76 ?_
                                                                                  refine lv_bipush (v := 40) hx hb dX12_sheet_79 (by decide) ?_
                                                                                  refine lv_iload_n hx hb dX12_sheet_81 rfl (lv_at hl 2 rfl) ?_
                                                                                  refine lv_imul hx hb dX12_sheet_82 ?_
                                                                                  refine lz_top (y := 80) (by decide) ?_
                                                                                  refine lv_iload hx hb dX12_sheet_83 (lv_at hl 0 rfl) ?_
                                                                                  refine lv_iadd hx hb dX12_sheet_85 ?_
                                                                                  refine lz_top (y := 105) (by decide) ?_
                                                                                  refine lv_iconst (v := 0) hx hb dX12_sheet_86 (by decide) ?_
                                                                                  refine lz_astc hx hb hK hP hD hS 11 0 rfl rfl (lz_vp (x := 105) (n := 160) (by decide) (by decide)) dX12_sheet_87 (fun H locs hP hD hS => ?_)
                                                                                  refine lv_iinc (v := 26) (lv' := [(4, .int 26), (0, .ref h0), (1, .int 2), (2, .int x1), (3, .int x2)]) hx hb dX12_sheet_88 hl (k := 0) rfl (by decide) (by decide) rfl (fun ls hl => ?_)
                                                                                  refine lv_goto (tgt := 68) hx hb dX12_sheet_91 (by decide) ?_
                                                                                  refine lv_iload hx hb dX12_sheet_68 (lv_at hl 0 rfl) ?_
                                                                                  refine lv_bipush (v := 40) hx hb dX12_sheet_70 (by decide) ?_
                                                                                  refine lv_icmp_ge (tgt := 94) hx hb dX12_sheet_72 (by decide) (fun c1170 => ?_) (fun c1170 => ?_)
                                                                                  · exact absurd c1170 (by decide)
                                                                                  · refine lv_aload_n hx hb dX12_sheet_75 rfl (lv_at hl 1 rfl) ?_
                                                                                    refine va_get (D := D) (ci := 12) (v := .ref h11) (C := RX12) (T := TX12) (N := 24) hx hb hts hin12 hown hK hP 0 rfl rfl 18 (by decide) (hts (.fieldLink RX12 44 "MissedPointsModel" "items" "[I") (by decide +kernel)) (fun _ h9 => h9) rfl dX12_sheet_76 ?_
                                                                                    refine lv_bipush (v := 40) hx hb dX12_sheet_79 (by decide) ?_
                                                                                    refine lv_iload_n hx hb dX12_sheet_81 rfl (lv_at hl 2 rfl) ?_
                                                                                    refine lv_imul hx hb dX12_sheet_82 ?_
                                                                                    refine lz_top (y := 80) (by decide) ?_
                                                                                    refine lv_iload hx hb dX12_sheet_83 (lv_at hl 0 rfl) ?_
                                                                                    refine lv_iadd hx hb dX12_sheet_85 ?_
                                                                                    refine lz_top (y := 106) (by decide) ?_
                                                                                    refine lv_iconst (v := 0) hx hb dX12_sheet_86 (by decide) ?_
                                                                                    refine lz_astc hx hb hK hP hD hS 11 0 rfl rfl (lz_vp (x := 106) (n := 160) (by decide) (by decide)) dX12_sheet_87 (fun H locs hP hD hS => ?_)
                                                                                    refine lv_iinc (v := 27) (lv' := [(4, .int 27), (0, .ref h0), (1, .int 2), (2, .int x1), (3, .int x2)]) hx hb dX12_sheet_88 hl (k := 0) rfl (by decide) (by decide) rfl (fun ls hl => ?_)
                                                                                    refine lv_goto (tgt := 68) hx hb dX12_sheet_91 (by decide) ?_
                                                                                    refine lv_iload hx hb dX12_sheet_68 (lv_at hl 0 rfl) ?_
                                                                                    refine lv_bipush (v := 40) hx hb dX12_sheet_70 (by decide) ?_
                                                                                    refine lv_icmp_ge (tgt := 94) hx hb dX12_sheet_72 (by decide) (fun c1171 => ?_) (fun c1171 => ?_)
                                                                                    · exact absurd c1171 (by decide)
                                                                                    · refine lv_aload_n hx hb dX12_sheet_75 rfl (lv_at hl 1 rfl) ?_
                                                                                      refine va_get (D := D) (ci := 12) (v := .ref h11) (C := RX12) (T := TX12) (N := 24) hx hb hts hin12 hown hK hP 0 rfl rfl 18 (by decide) (hts (.fieldLink RX12 44 "MissedPointsModel" "items" "[I") (by decide +kernel)) (fun _ h9 => h9) rfl dX12_sheet_76 ?_
                                                                                      refine lv_bipush (v := 40) hx hb dX12_sheet_79 (by decide) ?_
                                                                                      refine lv_iload_n hx hb dX12_sheet_81 rfl (lv_at hl 2 rfl) ?_
                                                                                      refine lv_imul hx hb dX12_sheet_82 ?_
                                                                                      refine lz_top (y := 80) (by decide) ?_
                                                                                      refine lv_iload hx hb dX12_sheet_83 (lv_at hl 0 rfl) ?_
                                                                                      refine lv_iadd hx hb dX12_sheet_85 ?_
                                                                                      refine lz_top (y := 107) (by decide) ?_
                                                                                      refine lv_iconst (v := 0) hx hb dX12_sheet_86 (by decide) ?_
                                                                                      refine lz_astc hx hb hK hP hD hS 11 0 rfl rfl (lz_vp (x := 107) (n := 160) (by decide) (by decide)) dX12_sheet_87 (fun H locs hP hD hS => ?_)
                                                                                      refine lv_iinc (v := 28) (lv' := [(4, .int 28), (0, .ref h0), (1, .int 2), (2, .int x1), (3, .int x2)]) hx hb dX12_sheet_88 hl (k := 0) rfl (by decide) (by decide) rfl (fun ls hl => ?_)
                                                                                      refine lv_goto (tgt := 68) hx hb dX12_sheet_91 (by decide) ?_
                                                                                      refine lv_iload hx hb dX12_sheet_68 (lv_at hl 0 rfl) ?_
                                                                                      refine lv_bipush (v := 40) hx hb dX12_sheet_70 (by decide) ?_
                                                                                      refine lv_icmp_ge (tgt := 94) hx hb dX12_sheet_72 (by decide) (fun c1172 => ?_) (fun c1172 => ?_)
                                                                                      · exact absurd c1172 (by decide)
                                                                                      · refine lv_aload_n hx hb dX12_sheet_75 rfl (lv_at hl 1 rfl) ?_
                                                                                        refine va_get (D := D) (ci := 12) (v := .ref h11) (C := RX12) (T := TX12) (N := 24) hx hb hts hin12 hown hK hP 0 rfl rfl 18 (by decide) (hts (.fieldLink RX12 44 "MissedPointsModel" "items" "[I") (by decide +kernel)) (fun _ h9 => h9) rfl dX12_sheet_76 ?_
                                                                                        refine lv_bipush (v := 40) hx hb dX12_sheet_79 (by decide) ?_
                                                                                        refine lv_iload_n hx hb dX12_sheet_81 rfl (lv_at hl 2 rfl) ?_
                                                                                        refine lv_imul hx hb dX12_sheet_82 ?_
                                                                                        refine lz_top (y := 80) (by decide) ?_
                                                                                        refine lv_iload hx hb dX12_sheet_83 (lv_at hl 0 rfl) ?_
                                                                                        refine lv_iadd hx hb dX12_sheet_85 ?_
                                                                                        refine lz_top (y := 108) (by decide) ?_
                                                                                        refine lv_iconst (v := 0) hx hb dX12_sheet_86 (by decide) ?_
                                                                                        refine lz_astc hx hb hK hP hD hS 11 0 rfl rfl (lz_vp (x := 108) (n := 160) (by decide) (by decide)) dX12_sheet_87 (fun H locs hP hD hS => ?_)
                                                                                        refine lv_iinc (v := 29) (lv' := [(4, .int 29), (0, .ref h0), (1, .int 2), (2, .int x1), (3, .int x2)]) hx hb dX12_sheet_88 hl (k := 0) rfl (by decide) (by decide) rfl (fun ls hl => ?_)
                                                                                        refine lv_goto (tgt := 68) hx hb dX12_sheet_91 (by decide) ?_
                                                                                        refine lv_iload hx hb dX12_sheet_68 (lv_at hl 0 rfl) ?_
                                                                                        refine lv_bipush (v := 40) hx hb dX12_sheet_70 (by decide) ?_
                                                                                        refine lv_icmp_ge (tgt := 94) hx hb dX12_sheet_72 (by decide) (fun c1173 => ?_) (fun c1173 => ?_)
                                                                                        · exact absurd c1173 (by decide)
                                                                                        · refine lv_aload_n hx hb dX12_sheet_75 rfl (lv_at hl 1 rfl) ?_
                                                                                          refine va_get (D := D) (ci := 12) (v := .ref h11) (C := RX12) (T := TX12) (N := 24) hx hb hts hin12 hown hK hP 0 rfl rfl 18 (by decide) (hts (.fieldLink RX12 44 "MissedPointsModel" "items" "[I") (by decide +kernel)) (fun _ h9 => h9) rfl dX12_sheet_76 ?_
                                                                                          refine lv_bipush (v := 40) hx hb dX12_sheet_79 (by decide) ?_
                                                                                          refine lv_iload_n hx hb dX12_sheet_81 rfl (lv_at hl 2 rfl) ?_
                                                                                          refine lv_imul hx hb dX12_sheet_82 ?_
                                                                                          refine lz_top (y := 80) (by decide) ?_
                                                                                          refine lv_iload hx hb dX12_sheet_83 (lv_at hl 0 rfl) ?_
                                                                                          refine lv_iadd hx hb dX12_sheet_85 ?_
                                                                                          refine lz_top (y := 109) (by decide) ?_
                                                                                          refine lv_iconst (v := 0) hx hb dX12_sheet_86 (by decide) ?_
                                                                                          refine lz_astc hx hb hK hP hD hS 11 0 rfl rfl (lz_vp (x := 109) (n := 160) (by decide) (by decide)) dX12_sheet_87 (fun H locs hP hD hS => ?_)
                                                                                          refine lv_iinc (v := 30) (lv' := [(4, .int 30), (0, .ref h0), (1, .int 2), (2, .int x1), (3, .int x2)]) hx hb dX12_sheet_88 hl (k := 0) rfl (by decide) (by decide) rfl (fun ls hl => ?_)
                                                                                          refine lv_goto (tgt := 68) hx hb dX12_sheet_91 (by decide) ?_
                                                                                          refine lv_iload hx hb dX12_sheet_68 (lv_at hl 0 rfl) ?_
                                                                                          refine lv_bipush (v := 40) hx hb dX12_sheet_70 (by decide) ?_
                                                                                          refine lv_icmp_ge (tgt := 94) hx hb dX12_sheet_72 (by decide) (fun c1174 => ?_) (fun c1174 => ?_)
                                                                                          · exact absurd c1174 (by decide)
                                                                                          · refine lv_aload_n hx hb dX12_sheet_75 rfl (lv_at hl 1 rfl) ?_
                                                                                            refine va_get (D := D) (ci := 12) (v := .ref h11) (C := RX12) (T := TX12) (N := 24) hx hb hts hin12 hown hK hP 0 rfl rfl 18 (by decide) (hts (.fieldLink RX12 44 "MissedPointsModel" "items" "[I") (by decide +kernel)) (fun _ h9 => h9) rfl dX12_sheet_76 ?_
                                                                                            refine lv_bipush (v := 40) hx hb dX12_sheet_79 (by decide) ?_
                                                                                            refine lv_iload_n hx hb dX12_sheet_81 rfl (lv_at hl 2 rfl) ?_
                                                                                            refine lv_imul hx hb dX12_sheet_82 ?_
                                                                                            refine lz_top (y := 80) (by decide) ?_
                                                                                            refine lv_iload hx hb dX12_sheet_83 (lv_at hl 0 rfl) ?_
                                                                                            refine lv_iadd hx hb dX12_sheet_85 ?_
                                                                                            refine lz_top (y := 110) (by decide) ?_
                                                                                            refine lv_iconst (v := 0) hx hb dX12_sheet_86 (by decide) ?_
                                                                                            refine lz_astc hx hb hK hP hD hS 11 0 rfl rfl (lz_vp (x := 110) (n := 160) (by decide) (by decide)) dX12_sheet_87 (fun H locs hP hD hS => ?_)
                                                                                            refine lv_iinc (v := 31) (lv' := [(4, .int 31), (0, .ref h0), (1, .int 2), (2, .int x1), (3, .int x2)]) hx hb dX12_sheet_88 hl (k := 0) rfl (by decide) (by decide) rfl (fun ls hl => ?_)
                                                                                            refine lv_goto (tgt := 68) hx hb dX12_sheet_91 (by decide) ?_
                                                                                            refine lv_iload hx hb dX12_sheet_68 (lv_at hl 0 rfl) ?_
                                                                                            refine lv_bipush (v := 40) hx hb dX12_sheet_70 (by decide) ?_
                                                                                            refine lv_icmp_ge (tgt := 94) hx hb dX12_sheet_72 (by decide) (fun c1175 => ?_) (fun c1175 => ?_)
                                                                                            · exact absurd c1175 (by decide)
                                                                                            · refine lv_aload_n hx hb dX12_sheet_75 rfl (lv_at hl 1 rfl) ?_
                                                                                              refine va_get (D := D) (ci := 12) (v := .ref h11) (C := RX12) (T := TX12) (N := 24) hx hb hts hin12 hown hK hP 0 rfl rfl 18 (by decide) (hts (.fieldLink RX12 44 "MissedPointsModel" "items" "[I") (by decide +kernel)) (fun _ h9 => h9) rfl dX12_sheet_76 ?_
                                                                                              refine lv_bipush (v := 40) hx hb dX12_sheet_79 (by decide) ?_
                                                                                              refine lv_iload_n hx hb dX12_sheet_81 rfl (lv_at hl 2 rfl) ?_
                                                                                              refine lv_imul hx hb dX12_sheet_82 ?_
                                                                                              refine lz_top (y := 80) (by decide) ?_
                                                                                              refine lv_iload hx hb dX12_sheet_83 (lv_at hl 0 rfl) ?_
                                                                                              refine lv_iadd hx hb dX12_sheet_85 ?_
                                                                                              refine lz_top (y := 111) (by decide) ?_
                                                                                              refine lv_iconst (v := 0) hx hb dX12_sheet_86 (by decide) ?_
                                                                                              refine lz_astc hx hb hK hP hD hS 11 0 rfl rfl (lz_vp (x := 111) (n := 160) (by decide) (by decide)) dX12_sheet_87 (fun H locs hP hD hS => ?_)
                                                                                              refine lv_iinc (v := 32) (lv' := [(4, .int 32), (0, .ref h0), (1, .int 2), (2, .int x1), (3, .int x2)]) hx hb dX12_sheet_88 hl (k := 0) rfl (by decide) (by decide) rfl (fun ls hl => ?_)
                                                                                              refine lv_goto (tgt := 68) hx hb dX12_sheet_91 (by decide) ?_
                                                                                              refine lv_iload hx hb dX12_sheet_68 (lv_at hl 0 rfl) ?_
                                                                                              refine lv_bipush (v := 40) hx hb dX12_sheet_70 (by decide) ?_
                                                                                              refine lv_icmp_ge (tgt := 94) hx hb dX12_sheet_72 (by decide) (fun c1176 => ?_) (fun c1176 => ?_)
                                                                                              · exact absurd c1176 (by decide)
                                                                                              · refine lv_aload_n hx hb dX12_sheet_75 rfl (lv_at hl 1 rfl) ?_
                                                                                                refine va_get (D := D) (ci := 12) (v := .ref h11) (C := RX12) (T := TX12) (N := 24) hx hb hts hin12 hown hK hP 0 rfl rfl 18 (by decide) (hts (.fieldLink RX12 44 "MissedPointsModel" "items" "[I") (by decide +kernel)) (fun _ h9 => h9) rfl dX12_sheet_76 ?_
                                                                                                refine lv_bipush (v := 40) hx hb dX12_sheet_79 (by decide) ?_
                                                                                                refine lv_iload_n hx hb dX12_sheet_81 rfl (lv_at hl 2 rfl) ?_
                                                                                                refine lv_imul hx hb dX12_sheet_82 ?_
                                                                                                refine lz_top (y := 80) (by decide) ?_
                                                                                                refine lv_iload hx hb dX12_sheet_83 (lv_at hl 0 rfl) ?_
                                                                                                refine lv_iadd hx hb dX12_sheet_85 ?_
                                                                                                refine lz_top (y := 112) (by decide) ?_
                                                                                                refine lv_iconst (v := 0) hx hb dX12_sheet_86 (by decide) ?_
                                                                                                refine lz_astc hx hb hK hP hD hS 11 0 rfl rfl (lz_vp (x := 112) (n := 160) (by decide) (by decide)) dX12_sheet_87 (fun H locs hP hD hS => ?_)
                                                                                                refine lv_iinc (v := 33) (lv' := [(4, .int 33), (0, .ref h0), (1, .int 2), (2, .int x1), (3, .int x2)]) hx hb dX12_sheet_88 hl (k := 0) rfl (by decide) (by decide) rfl (fun ls hl => ?_)
                                                                                                refine lv_goto (tgt := 68) hx hb dX12_sheet_91 (by decide) ?_
                                                                                                refine lv_iload hx hb dX12_sheet_68 (lv_at hl 0 rfl) ?_
                                                                                                refine lv_bipush (v := 40) hx hb dX12_sheet_70 (by decide) ?_
                                                                                                refine lv_icmp_ge (tgt := 94) hx hb dX12_sheet_72 (by decide) (fun c1177 => ?_) (fun c1177 => ?_)
                                                                                                · exact absurd c1177 (by decide)
                                                                                                · refine lv_aload_n hx hb dX12_sheet_75 rfl (lv_at hl 1 rfl) ?_
                                                                                                  refine va_get (D := D) (ci := 12) (v := .ref h11) (C := RX12) (T := TX12) (N := 24) hx hb hts hin12 hown hK hP 0 rfl rfl 18 (by decide) (hts (.fieldLink RX12 44 "MissedPointsModel" "items" "[I") (by decide +kernel)) (fun _ h9 => h9) rfl dX12_sheet_76 ?_
                                                                                                  refine lv_bipush (v := 40) hx hb dX12_sheet_79 (by decide) ?_
                                                                                                  refine lv_iload_n hx hb dX12_sheet_81 rfl (lv_at hl 2 rfl) ?_
                                                                                                  refine lv_imul hx hb dX12_sheet_82 ?_
                                                                                                  refine lz_top (y := 80) (by decide) ?_
                                                                                                  refine lv_iload hx hb dX12_sheet_83 (lv_at hl 0 rfl) ?_
                                                                                                  refine lv_iadd hx hb dX12_sheet_85 ?_
                                                                                                  refine lz_top (y := 113) (by decide) ?_
                                                                                                  refine lv_iconst (v := 0) hx hb dX12_sheet_86 (by decide) ?_
                                                                                                  refine lz_astc hx hb hK hP hD hS 11 0 rfl rfl (lz_vp (x := 113) (n := 160) (by decide) (by decide)) dX12_sheet_87 (fun H locs hP hD hS => ?_)
                                                                                                  refine lv_iinc (v := 34) (lv' := [(4, .int 34), (0, .ref h0), (1, .int 2), (2, .int x1), (3, .int x2)]) hx hb dX12_sheet_88 hl (k := 0) rfl (by decide) (by decide) rfl (fun ls hl => ?_)
                                                                                                  refine lv_goto (tgt := 68) hx hb dX12_sheet_91 (by decide) ?_
                                                                                                  refine lv_iload hx hb dX12_sheet_68 (lv_at hl 0 rfl) ?_
                                                                                                  refine lv_bipush (v := 40) hx hb dX12_sheet_70 (by decide) ?_
                                                                                                  refine lv_icmp_ge (tgt := 94) hx hb dX12_sheet_72 (by decide) (fun c1178 => ?_) (fun c1178 => ?_)
                                                                                                  · exact absurd c1178 (by decide)
                                                                                                  · refine lv_aload_n hx hb dX12_sheet_75 rfl (lv_at hl 1 rfl) ?_
                                                                                                    refine va_get (D := D) (ci := 12) (v := .ref h11) (C := RX12) (T := TX12) (N := 24) hx hb hts hin12 hown hK hP 0 rfl rfl 18 (by decide) (hts (.fieldLink RX12 44 "MissedPointsModel" "items" "[I") (by decide +kernel)) (fun _ h9 => h9) rfl dX12_sheet_76 ?_
                                                                                                    refine lv_bipush (v := 40) hx hb dX12_sheet_79 (by decide) ?_
                                                                                                    refine lv_iload_n hx hb dX12_sheet_81 rfl (lv_at hl 2 rfl) ?_
                                                                                                    refine lv_imul hx hb dX12_sheet_82 ?_
                                                                                                    refine lz_top (y := 80) (by decide) ?_
                                                                                                    refine lv_iload hx hb dX12_sheet_83 (lv_at hl 0 rfl) ?_
                                                                                                    refine lv_iadd hx hb dX12_sheet_85 ?_
                                                                                                    refine lz_top (y := 114) (by decide) ?_
                                                                                                    refine lv_iconst (v := 0) hx hb dX12_sheet_86 (by decide) ?_
                                                                                                    refine lz_astc hx hb hK hP hD hS 11 0 rfl rfl (lz_vp (x := 114) (n := 160) (by decide) (by decide)) dX12_sheet_87 (fun H locs hP hD hS => ?_)
                                                                                                    refine lv_iinc (v := 35) (lv' := [(4, .int 35), (0, .ref h0), (1, .int 2), (2, .int x1), (3, .int x2)]) hx hb dX12_sheet_88 hl (k := 0) rfl (by decide) (by decide) rfl (fun ls hl => ?_)
                                                                                                    refine lv_goto (tgt := 68) hx hb dX12_sheet_91 (by decide) ?_
                                                                                                    refine lv_iload hx hb dX12_sheet_68 (lv_at hl 0 rfl) ?_
                                                                                                    refine lv_bipush (v := 40) hx hb dX12_sheet_70 (by decide) ?_
                                                                                                    refine lv_icmp_ge (tgt := 94) hx hb dX12_sheet_72 (by decide) (fun c1179 => ?_) (fun c1179 => ?_)
                                                                                                    · exact absurd c1179 (by decide)
                                                                                                    · refine lv_aload_n hx hb dX12_sheet_75 rfl (lv_at hl 1 rfl) ?_
                                                                                                      refine va_get (D := D) (ci := 12) (v := .ref h11) (C := RX12) (T := TX12) (N := 24) hx hb hts hin12 hown hK hP 0 rfl rfl 18 (by decide) (hts (.fieldLink RX12 44 "MissedPointsModel" "items" "[I") (by decide +kernel)) (fun _ h9 => h9) rfl dX12_sheet_76 ?_
                                                                                                      refine lv_bipush (v := 40) hx hb dX12_sheet_79 (by decide) ?_
                                                                                                      refine lv_iload_n hx hb dX12_sheet_81 rfl (lv_at hl 2 rfl) ?_
                                                                                                      refine lv_imul hx hb dX12_sheet_82 ?_
                                                                                                      refine lz_top (y := 80) (by decide) ?_
                                                                                                      refine lv_iload hx hb dX12_sheet_83 (lv_at hl 0 rfl) ?_
                                                                                                      refine lv_iadd hx hb dX12_sheet_85 ?_
                                                                                                      refine lz_top (y := 115) (by decide) ?_
                                                                                                      refine lv_iconst (v := 0) hx hb dX12_sheet_86 (by decide) ?_
                                                                                                      refine lz_astc hx hb hK hP hD hS 11 0 rfl rfl (lz_vp (x := 115) (n := 160) (by decide) (by decide)) dX12_sheet_87 (fun H locs hP hD hS => ?_)
                                                                                                      refine lv_iinc (v := 36) (lv' := [(4, .int 36), (0, .ref h0), (1, .int 2), (2, .int x1), (3, .int x2)]) hx hb dX12_sheet_88 hl (k := 0) rfl (by decide) (by decide) rfl (fun ls hl => ?_)
                                                                                                      refine lv_goto (tgt := 68) hx hb dX12_sheet_91 (by decide) ?_
                                                                                                      refine lv_iload hx hb dX12_sheet_68 (lv_at hl 0 rfl) ?_
                                                                                                      refine lv_bipush (v := 40) hx hb dX12_sheet_70 (by decide) ?_
                                                                                                      refine lv_icmp_ge (tgt := 94) hx hb dX12_sheet_72 (by decide) (fun c1180 => ?_) (fun c1180 => ?_)
                                                                                                      · exact absurd c1180 (by decide)
                                                                                                      · refine lv_aload_n hx hb dX12_sheet_75 rfl (lv_at hl 1 rfl) ?_
                                                                                                        refine va_get (D := D) (ci := 12) (v := .ref h11) (C := RX12) (T := TX12) (N := 24) hx hb hts hin12 hown hK hP 0 rfl rfl 18 (by decide) (hts (.fieldLink RX12 44 "MissedPointsModel" "items" "[I") (by decide +kernel)) (fun _ h9 => h9) rfl dX12_sheet_76 ?_
                                                                                                        refine lv_bipush (v := 40) hx hb dX12_sheet_79 (by decide) ?_
                                                                                                        refine lv_iload_n hx hb dX12_sheet_81 rfl (lv_at hl 2 rfl) ?_
                                                                                                        refine lv_imul hx hb dX12_sheet_82 ?_
                                                                                                        refine lz_top (y := 80) (by decide) ?_
                                                                                                        refine lv_iload hx hb dX12_sheet_83 (lv_at hl 0 rfl) ?_
                                                                                                        refine lv_iadd hx hb dX12_sheet_85 ?_
                                                                                                        refine lz_top (y := 116) (by decide) ?_
                                                                                                        refine lv_iconst (v := 0) hx hb dX12_sheet_86 (by decide) ?_
                                                                                                        refine lz_astc hx hb hK hP hD hS 11 0 rfl rfl (lz_vp (x := 116) (n := 160) (by decide) (by decide)) dX12_sheet_87 (fun H locs hP hD hS => ?_)
                                                                                                        refine lv_iinc (v := 37) (lv' := [(4, .int 37), (0, .ref h0), (1, .int 2), (2, .int x1), (3, .int x2)]) hx hb dX12_sheet_88 hl (k := 0) rfl (by decide) (by decide) rfl (fun ls hl => ?_)
                                                                                                        refine lv_goto (tgt := 68) hx hb dX12_sheet_91 (by decide) ?_
                                                                                                        refine lv_iload hx hb dX12_sheet_68 (lv_at hl 0 rfl) ?_
                                                                                                        refine lv_bipush (v := 40) hx hb dX12_sheet_70 (by decide) ?_
                                                                                                        refine lv_icmp_ge (tgt := 94) hx hb dX12_sheet_72 (by decide) (fun c1181 => ?_) (fun c1181 => ?_)
                                                                                                        · exact absurd c1181 (by decide)
                                                                                                        · refine lv_aload_n hx hb dX12_sheet_75 rfl (lv_at hl 1 rfl) ?_
                                                                                                          refine va_get (D := D) (ci := 12) (v := .ref h11) (C := RX12) (T := TX12) (N := 24) hx hb hts hin12 hown hK hP 0 rfl rfl 18 (by decide) (hts (.fieldLink RX12 44 "MissedPointsModel" "items" "[I") (by decide +kernel)) (fun _ h9 => h9) rfl dX12_sheet_76 ?_
                                                                                                          refine lv_bipush (v := 40) hx hb dX12_sheet_79 (by decide) ?_
                                                                                                          refine lv_iload_n hx hb dX12_sheet_81 rfl (lv_at hl 2 rfl) ?_
                                                                                                          refine lv_imul hx hb dX12_sheet_82 ?_
                                                                                                          refine lz_top (y := 80) (by decide) ?_
                                                                                                          refine lv_iload hx hb dX12_sheet_83 (lv_at hl 0 rfl) ?_
                                                                                                          refine lv_iadd hx hb dX12_sheet_85 ?_
                                                                                                          refine lz_top (y := 117) (by decide) ?_
                                                                                                          refine lv_iconst (v := 0) hx hb dX12_sheet_86 (by decide) ?_
                                                                                                          refine lz_astc hx hb hK hP hD hS 11 0 rfl rfl (lz_vp (x := 117) (n := 160) (by decide) (by decide)) dX12_sheet_87 (fun H locs hP hD hS => ?_)
                                                                                                          refine lv_iinc (v := 38) (lv' := [(4, .int 38), (0, .ref h0), (1, .int 2), (2, .int x1), (3, .int x2)]) hx hb dX12_sheet_88 hl (k := 0) rfl (by decide) (by decide) rfl (fun ls hl => ?_)
                                                                                                          refine lv_goto (tgt := 68) hx hb dX12_sheet_91 (by decide) ?_
                                                                                                          refine lv_iload hx hb dX12_sheet_68 (lv_at hl 0 rfl) ?_
                                                                                                          refine lv_bipush (v := 40) hx hb dX12_sheet_70 (by decide) ?_
                                                                                                          refine lv_icmp_ge (tgt := 94) hx hb dX12_sheet_72 (by decide) (fun c1182 => ?_) (fun c1182 => ?_)
                                                                                                          · exact absurd c1182 (by decide)
                                                                                                          · refine lv_aload_n hx hb dX12_sheet_75 rfl (lv_at hl 1 rfl) ?_
                                                                                                            refine va_get (D := D) (ci := 12) (v := .ref h11) (C := RX12) (T := TX12) (N := 24) hx hb hts hin12 hown hK hP 0 rfl rfl 18 (by decide) (hts (.fieldLink RX12 44 "MissedPointsModel" "items" "[I") (by decide +kernel)) (fun _ h9 => h9) rfl dX12_sheet_76 ?_
                                                                                                            refine lv_bipush (v := 40) hx hb dX12_sheet_79 (by decide) ?_
                                                                                                            refine lv_iload_n hx hb dX12_sheet_81 rfl (lv_at hl 2 rfl) ?_
                                                                                                            refine lv_imul hx hb dX12_sheet_82 ?_
                                                                                                            refine lz_top (y := 80) (by decide) ?_
                                                                                                            refine lv_iload hx hb dX12_sheet_83 (lv_at hl 0 rfl) ?_
                                                                                                            refine lv_iadd hx hb dX12_sheet_85 ?_
                                                                                                            refine lz_top (y := 118) (by decide) ?_
                                                                                                            refine lv_iconst (v := 0) hx hb dX12_sheet_86 (by decide) ?_
                                                                                                            refine lz_astc hx hb hK hP hD hS 11 0 rfl rfl (lz_vp (x := 118) (n := 160) (by decide) (by decide)) dX12_sheet_87 (fun H locs hP hD hS => ?_)
                                                                                                            refine lv_iinc (v := 39) (lv' := [(4, .int 39), (0, .ref h0), (1, .int 2), (2, .int x1), (3, .int x2)]) hx hb dX12_sheet_88 hl (k := 0) rfl (by decide) (by decide) rfl (fun ls hl => ?_)
                                                                                                            refine lv_goto (tgt := 68) hx hb dX12_sheet_91 (by decide) ?_
                                                                                                            refine lv_iload hx hb dX12_sheet_68 (lv_at hl 0 rfl) ?_
                                                                                                            refine lv_bipush (v := 40) hx hb dX12_sheet_70 (by decide) ?_
                                                                                                            refine lv_icmp_ge (tgt := 94) hx hb dX12_sheet_72 (by decide) (fun c1183 => ?_) (fun c1183 => ?_)
                                                                                                            · exact absurd c1183 (by decide)
                                                                                                            · refine lv_aload_n hx hb dX12_sheet_75 rfl (lv_at hl 1 rfl) ?_
                                                                                                              refine va_get (D := D) (ci := 12) (v := .ref h11) (C := RX12) (T := TX12) (N := 24) hx hb hts hin12 hown hK hP 0 rfl rfl 18 (by decide) (hts (.fieldLink RX12 44 "MissedPointsModel" "items" "[I") (by decide +kernel)) (fun _ h9 => h9) rfl dX12_sheet_76 ?_
                                                                                                              refine lv_bipush (v := 40) hx hb dX12_sheet_79 (by decide) ?_
                                                                                                              refine lv_iload_n hx hb dX12_sheet_81 rfl (lv_at hl 2 rfl) ?_
                                                                                                              refine lv_imul hx hb dX12_sheet_82 ?_
                                                                                                              refine lz_top (y := 80) (by decide) ?_
                                                                                                              refine lv_iload hx hb dX12_sheet_83 (lv_at hl 0 rfl) ?_
                                                                                                              refine lv_iadd hx hb dX12_sheet_85 ?_
                                                                                                              refine lz_top (y := 119) (by decide) ?_
                                                                                                              refine lv_iconst (v := 0) hx hb dX12_sheet_86 (by decide) ?_
                                                                                                              refine lz_astc hx hb hK hP hD hS 11 0 rfl rfl (lz_vp (x := 119) (n := 160) (by decide) (by decide)) dX12_sheet_87 (fun H locs hP hD hS => ?_)
                                                                                                              refine lv_iinc (v := 40) (lv' := [(4, .int 40), (0, .ref h0), (1, .int 2), (2, .int x1), (3, .int x2)]) hx hb dX12_sheet_88 hl (k := 0) rfl (by decide) (by decide) rfl (fun ls hl => ?_)
                                                                                                              refine lv_goto (tgt := 68) hx hb dX12_sheet_91 (by decide) ?_
                                                                                                              refine lv_iload hx hb dX12_sheet_68 (lv_at hl 0 rfl) ?_
                                                                                                              refine lv_bipush (v := 40) hx hb dX12_sheet_70 (by decide) ?_
                                                                                                              refine lv_icmp_ge (tgt := 94) hx hb dX12_sheet_72 (by decide) (fun c1184 => ?_) (fun c1184 => ?_)
                                                                                                              · refine lv_iconst (v := 1) hx hb dX12_sheet_94 (by decide) ?_
                                                                                                                have hP9 := hP.sub (ws' := []) [] rfl
                                                                                                                have hD9 := hD.sub (ws' := []) [] (by decide) rfl
                                                                                                                subst hAe
                                                                                                                exact W.iret (v := 1) hx hb hr (fun t ht hW => ⟨⟨_, (), rfl, by rw [if_neg k867, if_neg k869, if_neg k875, if_neg k877, if_neg c880, if_pos c1053, if_pos c1055], by rw [ht]; exact hP9, hD9⟩, hS.F ht⟩) hS.2.2 dX12_sheet_95
                                                                                                              · exact absurd c1184 (by decide)
                            · exact absurd c1143 c880
                          · obtain rfl : x0 = 3 := by have zf1 := mt (lz_lt x0 (0 : Int32)).mpr k867; have zf2 := mt (lz_lt (3 : Int32) x0).mpr k869; have zf3 := mt (lz_lt x1 ((-1) : Int32)).mpr k875; have zf4 := mt (lz_lt (1 : Int32) x1).mpr k877; have zf5 := mt (lz_eq x1 ((-1) : Int32)).mpr c880; have zf6 := (lz_le x2 (40 : Int32)).mp c1053; have zf7 := (lz_le (0 : Int32) x2).mp c1055; have zf8 := mt (lz_eq x0 (0 : Int32)).mpr k1056; have zf9 := mt (lz_eq x0 (1 : Int32)).mpr k1099; have zf10 := mt (lz_eq x0 (2 : Int32)).mpr k1142; have zn0 : ((-1) : Int32).toInt = -1 := (by decide); have zn1 : (0 : Int32).toInt = 0 := (by decide); have zn2 : (1 : Int32).toInt = 1 := (by decide); have zn3 : (2 : Int32).toInt = 2 := (by decide); have zn4 : (3 : Int32).toInt = 3 := (by decide); have zn5 : (40 : Int32).toInt = 40 := (by decide); rw [lz_eq]; omega
                            refine lv_aload_n hx hb dX12_sheet_42 rfl (lv_at hl 0 rfl) ?_
                            refine va_get (D := D) (ci := 12) (v := .ref h9) (C := RX12) (T := TX12) (N := 24) hx hb hts hin12 hown hK hP 0 rfl rfl 16 (by decide) (hts (.fieldLink RX12 38 "MissedPointsModel" "sort" "[I") (by decide +kernel)) (fun _ h9 => h9) rfl dX12_sheet_43 ?_
                            refine lv_iload_n hx hb dX12_sheet_46 rfl (lv_at hl 1 rfl) ?_
                            refine lv_iload_n hx hb dX12_sheet_47 rfl (lv_at hl 2 rfl) ?_
                            refine va_iast hx hb hK hP hD hS 9 0 rfl rfl (lz_vp (x := 3) (n := 4) (by decide) (by decide)) dX12_sheet_48 (fun H locs hP hD hS => ?_)
                            have hP : va_P D cls [(h0, .inr (12, [.int 0, .int 1, .ref h1, .ref h2, .ref h3, .ref h4, .ref h5, .ref h6, .ref h7, .ref h8, .int 0, .int 0, .int 0, .int 0, .int 0, .int 0, .ref h9, .ref h10, .ref h11, .ref h12, .ref h13, .ref h14, .ref h15, .int 0])), (h1, .inl (cI, 12, .inl (fun _ => 0))), (h2, .inl (cI, 4096, .inl (fun _ => 0))), (h3, .inl (cI, 4096, .inl (fun _ => 0))), (h4, .inl (cI, 28672, .inl (fun _ => 0))), (h5, .inl (cI, 12, .inl (fun _ => 0))), (h6, .inl (cI, 12, .inl (fun _ => 0))), (h7, .inl (cI, 12, .inl (fun _ => 0))), (h8, .inl (cI, 120, .inl (fun _ => 0))), (h9, .inl (cI, 4, .inl (upd (fun _ => -1) 3 x1))), (h10, .inl (cI, 4, .inl (fun _ => 0))), (h11, .inl (cI, 160, .inl (fun _ => 0))), (h12, .inl (cI, 4, .inl (fun _ => -1))), (h13, .inl (cI, 4, .inl (fun _ => 0))), (h14, .inl (cI, 4, .inl (fun _ => 0))), (h15, .inl (cI, 28, .inl (fun _ => 0)))] H := hP
                            have hD : va_D A [(h0, .inr (12, [.int 0, .int 1, .ref h1, .ref h2, .ref h3, .ref h4, .ref h5, .ref h6, .ref h7, .ref h8, .int 0, .int 0, .int 0, .int 0, .int 0, .int 0, .ref h9, .ref h10, .ref h11, .ref h12, .ref h13, .ref h14, .ref h15, .int 0])), (h1, .inl (cI, 12, .inl (fun _ => 0))), (h2, .inl (cI, 4096, .inl (fun _ => 0))), (h3, .inl (cI, 4096, .inl (fun _ => 0))), (h4, .inl (cI, 28672, .inl (fun _ => 0))), (h5, .inl (cI, 12, .inl (fun _ => 0))), (h6, .inl (cI, 12, .inl (fun _ => 0))), (h7, .inl (cI, 12, .inl (fun _ => 0))), (h8, .inl (cI, 120, .inl (fun _ => 0))), (h9, .inl (cI, 4, .inl (upd (fun _ => -1) 3 x1))), (h10, .inl (cI, 4, .inl (fun _ => 0))), (h11, .inl (cI, 160, .inl (fun _ => 0))), (h12, .inl (cI, 4, .inl (fun _ => -1))), (h13, .inl (cI, 4, .inl (fun _ => 0))), (h14, .inl (cI, 4, .inl (fun _ => 0))), (h15, .inl (cI, 28, .inl (fun _ => 0)))] := hD
                            refine lv_aload_n hx hb dX12_sheet_49 rfl (lv_at hl 0 rfl) ?_
                            refine va_get (D := D) (ci := 12) (v := .ref h10) (C := RX12) (T := TX12) (N := 24) hx hb hts hin12 hown hK hP 0 rfl rfl 17 (by decide) (hts (.fieldLink RX12 41 "MissedPointsModel" "size" "[I") (by decide +kernel)) (fun _ h9 => h9) rfl dX12_sheet_50 ?_
                            refine lv_iload_n hx hb dX12_sheet_53 rfl (lv_at hl 1 rfl) ?_
                            refine lv_iload_n hx hb dX12_sheet_54 rfl (lv_at hl 2 rfl) ?_
                            refine lv_iconst (v := (-1)) hx hb dX12_sheet_55 (by decide) ?_
                            refine lv_icmp_ne (tgt := 63) hx hb dX12_sheet_56 (by decide) (fun c1185 => ?_) (fun c1185 => ?_)
                            · refine lv_iload_n hx hb dX12_sheet_63 rfl (lv_at hl 3 rfl) ?_
                              refine va_iast hx hb hK hP hD hS 10 0 rfl rfl (lz_vp (x := 3) (n := 4) (by decide) (by decide)) dX12_sheet_64 (fun H locs hP hD hS => ?_)
                              have hP : va_P D cls [(h0, .inr (12, [.int 0, .int 1, .ref h1, .ref h2, .ref h3, .ref h4, .ref h5, .ref h6, .ref h7, .ref h8, .int 0, .int 0, .int 0, .int 0, .int 0, .int 0, .ref h9, .ref h10, .ref h11, .ref h12, .ref h13, .ref h14, .ref h15, .int 0])), (h1, .inl (cI, 12, .inl (fun _ => 0))), (h2, .inl (cI, 4096, .inl (fun _ => 0))), (h3, .inl (cI, 4096, .inl (fun _ => 0))), (h4, .inl (cI, 28672, .inl (fun _ => 0))), (h5, .inl (cI, 12, .inl (fun _ => 0))), (h6, .inl (cI, 12, .inl (fun _ => 0))), (h7, .inl (cI, 12, .inl (fun _ => 0))), (h8, .inl (cI, 120, .inl (fun _ => 0))), (h9, .inl (cI, 4, .inl (upd (fun _ => -1) 3 x1))), (h10, .inl (cI, 4, .inl (upd (fun _ => 0) 3 x2))), (h11, .inl (cI, 160, .inl (fun _ => 0))), (h12, .inl (cI, 4, .inl (fun _ => -1))), (h13, .inl (cI, 4, .inl (fun _ => 0))), (h14, .inl (cI, 4, .inl (fun _ => 0))), (h15, .inl (cI, 28, .inl (fun _ => 0)))] H := hP
                              have hD : va_D A [(h0, .inr (12, [.int 0, .int 1, .ref h1, .ref h2, .ref h3, .ref h4, .ref h5, .ref h6, .ref h7, .ref h8, .int 0, .int 0, .int 0, .int 0, .int 0, .int 0, .ref h9, .ref h10, .ref h11, .ref h12, .ref h13, .ref h14, .ref h15, .int 0])), (h1, .inl (cI, 12, .inl (fun _ => 0))), (h2, .inl (cI, 4096, .inl (fun _ => 0))), (h3, .inl (cI, 4096, .inl (fun _ => 0))), (h4, .inl (cI, 28672, .inl (fun _ => 0))), (h5, .inl (cI, 12, .inl (fun _ => 0))), (h6, .inl (cI, 12, .inl (fun _ => 0))), (h7, .inl (cI, 12, .inl (fun _ => 0))), (h8, .inl (cI, 120, .inl (fun _ => 0))), (h9, .inl (cI, 4, .inl (upd (fun _ => -1) 3 x1))), (h10, .inl (cI, 4, .inl (upd (fun _ => 0) 3 x2))), (h11, .inl (cI, 160, .inl (fun _ => 0))), (h12, .inl (cI, 4, .inl (fun _ => -1))), (h13, .inl (cI, 4, .inl (fun _ => 0))), (h14, .inl (cI, 4, .inl (fun _ => 0))), (h15, .inl (cI, 28, .inl (fun _ => 0)))] := hD
                              refine lv_iconst (v := 0) hx hb dX12_sheet_65 (by decide) ?_
                              refine lv_istore (lv' := [(4, .int 0), (0, .ref h0), (1, .int 3), (2, .int x1), (3, .int x2)]) hx hb dX12_sheet_66 hl (by decide) rfl (fun ls hl => ?_)
                              refine lv_iload hx hb dX12_sheet_68 (lv_at hl 0 rfl) ?_
                              refine lv_bipush (v := 40) hx hb dX12_sheet_70 (by decide) ?_
                              refine lv_icmp_ge (tgt := 94) hx hb dX12_sheet_72 (by decide) (fun c1186 => ?_) (fun c1186 => ?_)
                              · exact absurd c1186 (by decide)
                              · refine lv_aload_n hx hb dX12_sheet_75 rfl (lv_at hl 1 rfl) ?_
                                refine va_get (D := D) (ci := 12) (v := .ref h11) (C := RX12) (T := TX12) (N := 24) hx hb hts hin12 hown hK hP 0 rfl rfl 18 (by decide) (hts (.fieldLink RX12 44 "MissedPointsModel" "items" "[I") (by decide +kernel)) (fun _ h9 => h9) rfl dX12_sheet_76 ?_
                                refine lv_bipush (v := 40) hx hb dX12_sheet_79 (by decide) ?_
                                refine lv_iload_n hx hb dX12_sheet_81 rfl (lv_at hl 2 rfl) ?_
                                refine lv_imul hx hb dX12_sheet_82 ?_
                                refine lz_top (y := 120) (by decide) ?_
                                refine lv_iload hx hb dX12_sheet_83 (lv_at hl 0 rfl) ?_
                                refine lv_iadd hx hb dX12_sheet_85 ?_
                                refine lz_top (y := 120) (by decide) ?_
                                refine lv_iconst (v := 0) hx hb dX12_sheet_86 (by decide) ?_
                                refine lz_astc hx hb hK hP hD hS 11 0 rfl rfl (lz_vp (x := 120) (n := 160) (by decide) (by decide)) dX12_sheet_87 (fun H locs hP hD hS => ?_)
                                refine lv_iinc (v := 1) (lv' := [(4, .int 1), (0, .ref h0), (1, .int 3), (2, .int x1), (3, .int x2)]) hx hb dX12_sheet_88 hl (k := 0) rfl (by decide) (by decide) rfl (fun ls hl => ?_)
                                refine lv_goto (tgt := 68) hx hb dX12_sheet_91 (by decide) ?_
                                refine lv_iload hx hb dX12_sheet_68 (lv_at hl 0 rfl) ?_
                                refine lv_bipush (v := 40) hx hb dX12_sheet_70 (by decide) ?_
                                refine lv_icmp_ge (tgt := 94) hx hb dX12_sheet_72 (by decide) (fun c1187 => ?_) (fun c1187 => ?_)
                                · exact absurd c1187 (by decide)
                                · refine lv_aload_n hx hb dX12_sheet_75 rfl (lv_at hl 1 rfl) ?_
                                  refine va_get (D := D) (ci := 12) (v := .ref h11) (C := RX12) (T := TX12) (N := 24) hx hb hts hin12 hown hK hP 0 rfl rfl 18 (by decide) (hts (.fieldLink RX12 44 "MissedPointsModel" "items" "[I") (by decide +kernel)) (fun _ h9 => h9) rfl dX12_sheet_76 ?_
                                  refine lv_bipush (v := 40) hx hb dX12_sheet_79 (by decide) ?_
                                  refine lv_iload_n hx hb dX12_sheet_81 rfl (lv_at hl 2 rfl) ?_
                                  refine lv_imul hx hb dX12_sheet_82 ?_
                                  refine lz_top (y := 120) (by decide) ?_
                                  refine lv_iload hx hb dX12_sheet_83 (lv_at hl 0 rfl) ?_
                                  refine lv_iadd hx hb dX12_sheet_85 ?_
                                  refine lz_top (y := 121) (by decide) ?_
                                  refine lv_iconst (v := 0) hx hb dX12_sheet_86 (by decide) ?_
                                  refine lz_astc hx hb hK hP hD hS 11 0 rfl rfl (lz_vp (x := 121) (n := 160) (by decide) (by decide)) dX12_sheet_87 (fun H locs hP hD hS => ?_)
                                  refine lv_iinc (v := 2) (lv' := [(4, .int 2), (0, .ref h0), (1, .int 3), (2, .int x1), (3, .int x2)]) hx hb dX12_sheet_88 hl (k := 0) rfl (by decide) (by decide) rfl (fun ls hl => ?_)
                                  refine lv_goto (tgt := 68) hx hb dX12_sheet_91 (by decide) ?_
                                  refine lv_iload hx hb dX12_sheet_68 (lv_at hl 0 rfl) ?_
                                  refine lv_bipush (v := 40) hx hb dX12_sheet_70 (by decide) ?_
                                  refine lv_icmp_ge (tgt := 94) hx hb dX12_sheet_72 (by decide) (fun c1188 => ?_) (fun c1188 => ?_)
                                  · exact absurd c1188 (by decide)
                                  · refine lv_aload_n hx hb dX12_sheet_75 rfl (lv_at hl 1 rfl) ?_
                                    refine va_get (D := D) (ci := 12) (v := .ref h11) (C := RX12) (T := TX12) (N := 24) hx hb hts hin12 hown hK hP 0 rfl rfl 18 (by decide) (hts (.fieldLink RX12 44 "MissedPointsModel" "items" "[I") (by decide +kernel)) (fun _ h9 => h9) rfl dX12_sheet_76 ?_
                                    refine lv_bipush (v := 40) hx hb dX12_sheet_79 (by decide) ?_
                                    refine lv_iload_n hx hb dX12_sheet_81 rfl (lv_at hl 2 rfl) ?_
                                    refine lv_imul hx hb dX12_sheet_82 ?_
                                    refine lz_top (y := 120) (by decide) ?_
                                    refine lv_iload hx hb dX12_sheet_83 (lv_at hl 0 rfl) ?_
                                    refine lv_iadd hx hb dX12_sheet_85 ?_
                                    refine lz_top (y := 122) (by decide) ?_
                                    refine lv_iconst (v := 0) hx hb dX12_sheet_86 (by decide) ?_
                                    refine lz_astc hx hb hK hP hD hS 11 0 rfl rfl (lz_vp (x := 122) (n := 160) (by decide) (by decide)) dX12_sheet_87 (fun H locs hP hD hS => ?_)
                                    refine lv_iinc (v := 3) (lv' := [(4, .int 3), (0, .ref h0), (1, .int 3), (2, .int x1), (3, .int x2)]) hx hb dX12_sheet_88 hl (k := 0) rfl (by decide) (by decide) rfl (fun ls hl => ?_)
                                    refine lv_goto (tgt := 68) hx hb dX12_sheet_91 (by decide) ?_
                                    refine lv_iload hx hb dX12_sheet_68 (lv_at hl 0 rfl) ?_
                                    refine lv_bipush (v := 40) hx hb dX12_sheet_70 (by decide) ?_
                                    refine lv_icmp_ge (tgt := 94) hx hb dX12_sheet_72 (by decide) (fun c1189 => ?_) (fun c1189 => ?_)
                                    · exact absurd c1189 (by decide)
                                    · refine lv_aload_n hx hb dX12_sheet_75 rfl (lv_at hl 1 rfl) ?_
                                      refine va_get (D := D) (ci := 12) (v := .ref h11) (C := RX12) (T := TX12) (N := 24) hx hb hts hin12 hown hK hP 0 rfl rfl 18 (by decide) (hts (.fieldLink RX12 44 "MissedPointsModel" "items" "[I") (by decide +kernel)) (fun _ h9 => h9) rfl dX12_sheet_76 ?_
                                      refine lv_bipush (v := 40) hx hb dX12_sheet_79 (by decide) ?_
                                      refine lv_iload_n hx hb dX12_sheet_81 rfl (lv_at hl 2 rfl) ?_
                                      refine lv_imul hx hb dX12_sheet_82 ?_
                                      refine lz_top (y := 120) (by decide) ?_
                                      refine lv_iload hx hb dX12_sheet_83 (lv_at hl 0 rfl) ?_
                                      refine lv_iadd hx hb dX12_sheet_85 ?_
                                      refine lz_top (y := 123) (by decide) ?_
                                      refine lv_iconst (v := 0) hx hb dX12_sheet_86 (by decide) ?_
                                      refine lz_astc hx hb hK hP hD hS 11 0 rfl rfl (lz_vp (x := 123) (n := 160) (by decide) (by decide)) dX12_sheet_87 (fun H locs hP hD hS => ?_)
                                      refine lv_iinc (v := 4) (lv' := [(4, .int 4), (0, .ref h0), (1, .int 3), (2, .int x1), (3, .int x2)]) hx hb dX12_sheet_88 hl (k := 0) rfl (by decide) (by decide) rfl (fun ls hl => ?_)
                                      refine lv_goto (tgt := 68) hx hb dX12_sheet_91 (by decide) ?_
                                      refine lv_iload hx hb dX12_sheet_68 (lv_at hl 0 rfl) ?_
                                      refine lv_bipush (v := 40) hx hb dX12_sheet_70 (by decide) ?_
                                      refine lv_icmp_ge (tgt := 94) hx hb dX12_sheet_72 (by decide) (fun c1190 => ?_) (fun c1190 => ?_)
                                      · exact absurd c1190 (by decide)
                                      · refine lv_aload_n hx hb dX12_sheet_75 rfl (lv_at hl 1 rfl) ?_
                                        refine va_get (D := D) (ci := 12) (v := .ref h11) (C := RX12) (T := TX12) (N := 24) hx hb hts hin12 hown hK hP 0 rfl rfl 18 (by decide) (hts (.fieldLink RX12 44 "MissedPointsModel" "items" "[I") (by decide +kernel)) (fun _ h9 => h9) rfl dX12_sheet_76 ?_
                                        refine lv_bipush (v := 40) hx hb dX12_sheet_79 (by decide) ?_
                                        refine lv_iload_n hx hb dX12_sheet_81 rfl (lv_at hl 2 rfl) ?_
                                        refine lv_imul hx hb dX12_sheet_82 ?_
                                        refine lz_top (y := 120) (by decide) ?_
                                        refine lv_iload hx hb dX12_sheet_83 (lv_at hl 0 rfl) ?_
                                        refine lv_iadd hx hb dX12_sheet_85 ?_
                                        refine lz_top (y := 124) (by decide) ?_
                                        refine lv_iconst (v := 0) hx hb dX12_sheet_86 (by decide) ?_
                                        refine lz_astc hx hb hK hP hD hS 11 0 rfl rfl (lz_vp (x := 124) (n := 160) (by decide) (by decide)) dX12_sheet_87 (fun H locs hP hD hS => ?_)
                                        refine lv_iinc (v := 5) (lv' := [(4, .int 5), (0, .ref h0), (1, .int 3), (2, .int x1), (3, .int x2)]) hx hb dX12_sheet_88 hl (k := 0) rfl (by decide) (by decide) rfl (fun ls hl => ?_)
                                        refine lv_goto (tgt := 68) hx hb dX12_sheet_91 (by decide) ?_
                                        refine lv_iload hx hb dX12_sheet_68 (lv_at hl 0 rfl) ?_
                                        refine lv_bipush (v := 40) hx hb dX12_sheet_70 (by decide) ?_
                                        refine lv_icmp_ge (tgt := 94) hx hb dX12_sheet_72 (by decide) (fun c1191 => ?_) (fun c1191 => ?_)
                                        · exact absurd c1191 (by decide)
                                        · refine lv_aload_n hx hb dX12_sheet_75 rfl (lv_at hl 1 rfl) ?_
                                          refine va_get (D := D) (ci := 12) (v := .ref h11) (C := RX12) (T := TX12) (N := 24) hx hb hts hin12 hown hK hP 0 rfl rfl 18 (by decide) (hts (.fieldLink RX12 44 "MissedPointsModel" "items" "[I") (by decide +kernel)) (fun _ h9 => h9) rfl dX12_sheet_76 ?_
                                          refine lv_bipush (v := 40) hx hb dX12_sheet_79 (by decide) ?_
                                          refine lv_iload_n hx hb dX12_sheet_81 rfl (lv_at hl 2 rfl) ?_
                                          refine lv_imul hx hb dX12_sheet_82 ?_
                                          refine lz_top (y := 120) (by decide) ?_
                                          refine lv_iload hx hb dX12_sheet_83 (lv_at hl 0 rfl) ?_
                                          refine lv_iadd hx hb dX12_sheet_85 ?_
                                          refine lz_top (y := 125) (by decide) ?_
                                          refine lv_iconst (v := 0) hx hb dX12_sheet_86 (by decide) ?_
                                          refine lz_astc hx hb hK hP hD hS 11 0 rfl rfl (lz_vp (x := 125) (n := 160) (by decide) (by decide)) dX12_sheet_87 (fun H locs hP hD hS => ?_)
                                          refine lv_iinc (v := 6) (lv' := [(4, .int 6), (0, .ref h0), (1, .int 3), (2, .int x1), (3, .int x2)]) hx hb dX12_sheet_88 hl (k := 0) rfl (by decide) (by decide) rfl (fun ls hl => ?_)
                                          refine lv_goto (tgt := 68) hx hb dX12_sheet_91 (by decide) ?_
                                          refine lv_iload hx hb dX12_sheet_68 (lv_at hl 0 rfl) ?_
                                          refine lv_bipush (v := 40) hx hb dX12_sheet_70 (by decide) ?_
                                          refine lv_icmp_ge (tgt := 94) hx hb dX12_sheet_72 (by decide) (fun c1192 => ?_) (fun c1192 => ?_)
                                          · exact absurd c1192 (by decide)
                                          · refine lv_aload_n hx hb dX12_sheet_75 rfl (lv_at hl 1 rfl) ?_
                                            refine va_get (D := D) (ci := 12) (v := .ref h11) (C := RX12) (T := TX12) (N := 24) hx hb hts hin12 hown hK hP 0 rfl rfl 18 (by decide) (hts (.fieldLink RX12 44 "MissedPointsModel" "items" "[I") (by decide +kernel)) (fun _ h9 => h9) rfl dX12_sheet_76 ?_
                                            refine lv_bipush (v := 40) hx hb dX12_sheet_79 (by decide) ?_
                                            refine lv_iload_n hx hb dX12_sheet_81 rfl (lv_at hl 2 rfl) ?_
                                            refine lv_imul hx hb dX12_sheet_82 ?_
                                            refine lz_top (y := 120) (by decide) ?_
                                            refine lv_iload hx hb dX12_sheet_83 (lv_at hl 0 rfl) ?_
                                            refine lv_iadd hx hb dX12_sheet_85 ?_
                                            refine lz_top (y := 126) (by decide) ?_
                                            refine lv_iconst (v := 0) hx hb dX12_sheet_86 (by decide) ?_
                                            refine lz_astc hx hb hK hP hD hS 11 0 rfl rfl (lz_vp (x := 126) (n := 160) (by decide) (by decide)) dX12_sheet_87 (fun H locs hP hD hS => ?_)
                                            refine lv_iinc (v := 7) (lv' := [(4, .int 7), (0, .ref h0), (1, .int 3), (2, .int x1), (3, .int x2)]) hx hb dX12_sheet_88 hl (k := 0) rfl (by decide) (by decide) rfl (fun ls hl => ?_)
                                            refine lv_goto (tgt := 68) hx hb dX12_sheet_91 (by decide) ?_
                                            refine lv_iload hx hb dX12_sheet_68 (lv_at hl 0 rfl) ?_
                                            refine lv_bipush (v := 40) hx hb dX12_sheet_70 (by decide) ?_
                                            refine lv_icmp_ge (tgt := 94) hx hb dX12_sheet_72 (by decide) (fun c1193 => ?_) (fun c1193 => ?_)
                                            · exact absurd c1193 (by decide)
                                            · refine lv_aload_n hx hb dX12_sheet_75 rfl (lv_at hl 1 rfl) ?_
                                              refine va_get (D := D) (ci := 12) (v := .ref h11) (C := RX12) (T := TX12) (N := 24) hx hb hts hin12 hown hK hP 0 rfl rfl 18 (by decide) (hts (.fieldLink RX12 44 "MissedPointsModel" "items" "[I") (by decide +kernel)) (fun _ h9 => h9) rfl dX12_sheet_76 ?_
                                              refine lv_bipush (v := 40) hx hb dX12_sheet_79 (by decide) ?_
                                              refine lv_iload_n hx hb dX12_sheet_81 rfl (lv_at hl 2 rfl) ?_
                                              refine lv_imul hx hb dX12_sheet_82 ?_
                                              refine lz_top (y := 120) (by decide) ?_
                                              refine lv_iload hx hb dX12_sheet_83 (lv_at hl 0 rfl) ?_
                                              refine lv_iadd hx hb dX12_sheet_85 ?_
                                              refine lz_top (y := 127) (by decide) ?_
                                              refine lv_iconst (v := 0) hx hb dX12_sheet_86 (by decide) ?_
                                              refine lz_astc hx hb hK hP hD hS 11 0 rfl rfl (lz_vp (x := 127) (n := 160) (by decide) (by decide)) dX12_sheet_87 (fun H locs hP hD hS => ?_)
                                              refine lv_iinc (v := 8) (lv' := [(4, .int 8), (0, .ref h0), (1, .int 3), (2, .int x1), (3, .int x2)]) hx hb dX12_sheet_88 hl (k := 0) rfl (by decide) (by decide) rfl (fun ls hl => ?_)
                                              refine lv_goto (tgt := 68) hx hb dX12_sheet_91 (by decide) ?_
                                              refine lv_iload hx hb dX12_sheet_68 (lv_at hl 0 rfl) ?_
                                              refine lv_bipush (v := 40) hx hb dX12_sheet_70 (by decide) ?_
                                              refine lv_icmp_ge (tgt := 94) hx hb dX12_sheet_72 (by decide) (fun c1194 => ?_) (fun c1194 => ?_)
                                              · exact absurd c1194 (by decide)
                                              · refine lv_aload_n hx hb dX12_sheet_75 rfl (lv_at hl 1 rfl) ?_
                                                refine va_get (D := D) (ci := 12) (v := .ref h11) (C := RX12) (T := TX12) (N := 24) hx hb hts hin12 hown hK hP 0 rfl rfl 18 (by decide) (hts (.fieldLink RX12 44 "MissedPointsModel" "items" "[I") (by decide +kernel)) (fun _ h9 => h9) rfl dX12_sheet_76 ?_
                                                refine lv_bipush (v := 40) hx hb dX12_sheet_79 (by decide) ?_
                                                refine lv_iload_n hx hb dX12_sheet_81 rfl (lv_at hl 2 rfl) ?_
                                                refine lv_imul hx hb dX12_sheet_82 ?_
                                                refine lz_top (y := 120) (by decide) ?_
                                                refine lv_iload hx hb dX12_sheet_83 (lv_at hl 0 rfl) ?_
                                                refine lv_iadd hx hb dX12_sheet_85 ?_
                                                refine lz_top (y := 128) (by decide) ?_
                                                refine lv_iconst (v := 0) hx hb dX12_sheet_86 (by decide) ?_
                                                refine lz_astc hx hb hK hP hD hS 11 0 rfl rfl (lz_vp (x := 128) (n := 160) (by decide) (by decide)) dX12_sheet_87 (fun H locs hP hD hS => ?_)
                                                refine lv_iinc (v := 9) (lv' := [(4, .int 9), (0, .ref h0), (1, .int 3), (2, .int x1), (3, .int x2)]) hx hb dX12_sheet_88 hl (k := 0) rfl (by decide) (by decide) rfl (fun ls hl => ?_)
                                                refine lv_goto (tgt := 68) hx hb dX12_sheet_91 (by decide) ?_
                                                refine lv_iload hx hb dX12_sheet_68 (lv_at hl 0 rfl) ?_
                                                refine lv_bipush (v := 40) hx hb dX12_sheet_70 (by decide) ?_
                                                refine lv_icmp_ge (tgt := 94) hx hb dX12_sheet_72 (by decide) (fun c1195 => ?_) (fun c1195 => ?_)
                                                · exact absurd c1195 (by decide)
                                                · refine lv_aload_n hx hb dX12_sheet_75 rfl (lv_at hl 1 rfl) ?_
                                                  refine va_get (D := D) (ci := 12) (v := .ref h11) (C := RX12) (T := TX12) (N := 24) hx hb hts hin12 hown hK hP 0 rfl rfl 18 (by decide) (hts (.fieldLink RX12 44 "MissedPointsModel" "items" "[I") (by decide +kernel)) (fun _ h9 => h9) rfl dX12_sheet_76 ?_
                                                  refine lv_bipush (v := 40) hx hb dX12_sheet_79 (by decide) ?_
                                                  refine lv_iload_n hx hb dX12_sheet_81 rfl (lv_at hl 2 rfl) ?_
                                                  refine lv_imul hx hb dX12_sheet_82 ?_
                                                  refine lz_top (y := 120) (by decide) ?_
                                                  refine lv_iload hx hb dX12_sheet_83 (lv_at hl 0 rfl) ?_
                                                  refine lv_iadd hx hb dX12_sheet_85 ?_
                                                  refine lz_top (y := 129) (by decide) ?_
                                                  refine lv_iconst (v := 0) hx hb dX12_sheet_86 (by decide) ?_
                                                  refine lz_astc hx hb hK hP hD hS 11 0 rfl rfl (lz_vp (x := 129) (n := 160) (by decide) (by decide)) dX12_sheet_87 (fun H locs hP hD hS => ?_)
                                                  refine lv_iinc (v := 10) (lv' := [(4, .int 10), (0, .ref h0), (1, .int 3), (2, .int x1), (3, .int x2)]) hx hb dX12_sheet_88 hl (k := 0) rfl (by decide) (by decide) rfl (fun ls hl => ?_)
                                                  refine lv_goto (tgt := 68) hx hb dX12_sheet_91 (by decide) ?_
                                                  refine lv_iload hx hb dX12_sheet_68 (lv_at hl 0 rfl) ?_
                                                  refine lv_bipush (v := 40) hx hb dX12_sheet_70 (by decide) ?_
                                                  refine lv_icmp_ge (tgt := 94) hx hb dX12_sheet_72 (by decide) (fun c1196 => ?_) (fun c1196 => ?_)
                                                  · exact absurd c1196 (by decide)
                                                  · refine lv_aload_n hx hb dX12_sheet_75 rfl (lv_at hl 1 rfl) ?_
                                                    refine va_get (D := D) (ci := 12) (v := .ref h11) (C := RX12) (T := TX12) (N := 24) hx hb hts hin12 hown hK hP 0 rfl rfl 18 (by decide) (hts (.fieldLink RX12 44 "MissedPointsModel" "items" "[I") (by decide +kernel)) (fun _ h9 => h9) rfl dX12_sheet_76 ?_
                                                    refine lv_bipush (v := 40) hx hb dX12_sheet_79 (by decide) ?_
                                                    refine lv_iload_n hx hb dX12_sheet_81 rfl (lv_at hl 2 rfl) ?_
                                                    refine lv_imul hx hb dX12_sheet_82 ?_
                                                    refine lz_top (y := 120) (by decide) ?_
                                                    refine lv_iload hx hb dX12_sheet_83 (lv_at hl 0 rfl) ?_
                                                    refine lv_iadd hx hb dX12_sheet_85 ?_
                                                    refine lz_top (y := 130) (by decide) ?_
                                                    refine lv_iconst (v := 0) hx hb dX12_sheet_86 (by decide) ?_
                                                    refine lz_astc hx hb hK hP hD hS 11 0 rfl rfl (lz_vp (x := 130) (n := 160) (by decide) (by decide)) dX12_sheet_87 (fun H locs hP hD hS => ?_)
                                                    refine lv_iinc (v := 11) (lv' := [(4, .int 11), (0, .ref h0), (1, .int 3), (2, .int x1), (3, .int x2)]) hx hb dX12_sheet_88 hl (k := 0) rfl (by decide) (by decide) rfl (fun ls hl => ?_)
                                                    refine lv_goto (tgt := 68) hx hb dX12_sheet_91 (by decide) ?_
                                                    refine lv_iload hx hb dX12_sheet_68 (lv_at hl 0 rfl) ?_
                                                    refine lv_bipush (v := 40) hx hb dX12_sheet_70 (by decide) ?_
                                                    refine lv_icmp_ge (tgt := 94) hx hb dX12_sheet_72 (by decide) (fun c1197 => ?_) (fun c1197 => ?_)
                                                    · exact absurd c1197 (by decide)
                                                    · refine lv_aload_n hx hb dX12_sheet_75 rfl (lv_at hl 1 rfl) ?_
                                                      refine va_get (D := D) (ci := 12) (v := .ref h11) (C := RX12) (T := TX12) (N := 24) hx hb hts hin12 hown hK hP 0 rfl rfl 18 (by decide) (hts (.fieldLink RX12 44 "MissedPointsModel" "items" "[I") (by decide +kernel)) (fun _ h9 => h9) rfl dX12_sheet_76 ?_
                                                      refine lv_bipush (v := 40) hx hb dX12_sheet_79 (by decide) ?_
                                                      refine lv_iload_n hx hb dX12_sheet_81 rfl (lv_at hl 2 rfl) ?_
                                                      refine lv_imul hx hb dX12_sheet_82 ?_
                                                      refine lz_top (y := 120) (by decide) ?_
                                                      refine lv_iload hx hb dX12_sheet_83 (lv_at hl 0 rfl) ?_
                                                      refine lv_iadd hx hb dX12_sheet_85 ?_
                                                      refine lz_top (y := 131) (by decide) ?_
                                                      refine lv_iconst (v := 0) hx hb dX12_sheet_86 (by decide) ?_
                                                      refine lz_astc hx hb hK hP hD hS 11 0 rfl rfl (lz_vp (x := 131) (n := 160) (by decide) (by decide)) dX12_sheet_87 (fun H locs hP hD hS => ?_)
                                                      refine lv_iinc (v := 12) (lv' := [(4, .int 12), (0, .ref h0), (1, .int 3), (2, .int x1), (3, .int x2)]) hx hb dX12_sheet_88 hl (k := 0) rfl (by decide) (by decide) rfl (fun ls hl => ?_)
                                                      refine lv_goto (tgt := 68) hx hb dX12_sheet_91 (by decide) ?_
                                                      refine lv_iload hx hb dX12_sheet_68 (lv_at hl 0 rfl) ?_
                                                      refine lv_bipush (v := 40) hx hb dX12_sheet_70 (by decide) ?_
                                                      refine lv_icmp_ge (tgt := 94) hx hb dX12_sheet_72 (by decide) (fun c1198 => ?_) (fun c1198 => ?_)
                                                      · exact absurd c1198 (by decide)
                                                      · refine lv_aload_n hx hb dX12_sheet_75 rfl (lv_at hl 1 rfl) ?_
                                                        refine va_get (D := D) (ci := 12) (v := .ref h11) (C := RX12) (T := TX12) (N := 24) hx hb hts hin12 hown hK hP 0 rfl rfl 18 (by decide) (hts (.fieldLink RX12 44 "MissedPointsModel" "items" "[I") (by decide +kernel)) (fun _ h9 => h9) rfl dX12_sheet_76 ?_
                                                        refine lv_bipush (v := 40) hx hb dX12_sheet_79 (by decide) ?_
                                                        refine lv_iload_n hx hb dX12_sheet_81 rfl (lv_at hl 2 rfl) ?_
                                                        refine lv_imul hx hb dX12_sheet_82 ?_
                                                        refine lz_top (y := 120) (by decide) ?_
                                                        refine lv_iload hx hb dX12_sheet_83 (lv_at hl 0 rfl) ?_
                                                        refine lv_iadd hx hb dX12_sheet_85 ?_
                                                        refine lz_top (y := 132) (by decide) ?_
                                                        refine lv_iconst (v := 0) hx hb dX12_sheet_86 (by decide) ?_
                                                        refine lz_astc hx hb hK hP hD hS 11 0 rfl rfl (lz_vp (x := 132) (n := 160) (by decide) (by decide)) dX12_sheet_87 (fun H locs hP hD hS => ?_)
                                                        refine lv_iinc (v := 13) (lv' := [(4, .int 13), (0, .ref h0), (1, .int 3), (2, .int x1), (3, .int x2)]) hx hb dX12_sheet_88 hl (k := 0) rfl (by decide) (by decide) rfl (fun ls hl => ?_)
                                                        refine lv_goto (tgt := 68) hx hb dX12_sheet_91 (by decide) ?_
                                                        refine lv_iload hx hb dX12_sheet_68 (lv_at hl 0 rfl) ?_
                                                        refine lv_bipush (v := 40) hx hb dX12_sheet_70 (by decide) ?_
                                                        refine lv_icmp_ge (tgt := 94) hx hb dX12_sheet_72 (by decide) (fun c1199 => ?_) (fun c1199 => ?_)
                                                        · exact absurd c1199 (by decide)
                                                        · refine lv_aload_n hx hb dX12_sheet_75 rfl (lv_at hl 1 rfl) ?_
                                                          refine va_get (D := D) (ci := 12) (v := .ref h11) (C := RX12) (T := TX12) (N := 24) hx hb hts hin12 hown hK hP 0 rfl rfl 18 (by decide) (hts (.fieldLink RX12 44 "MissedPointsModel" "items" "[I") (by decide +kernel)) (fun _ h9 => h9) rfl dX12_sheet_76 ?_
                                                          refine lv_bipush (v := 40) hx hb dX12_sheet_79 (by decide) ?_
                                                          refine lv_iload_n hx hb dX12_sheet_81 rfl (lv_at hl 2 rfl) ?_
                                                          refine lv_imul hx hb dX12_sheet_82 ?_
                                                          refine lz_top (y := 120) (by decide) ?_
                                                          refine lv_iload hx hb dX12_sheet_83 (lv_at hl 0 rfl) ?_
                                                          refine lv_iadd hx hb dX12_sheet_85 ?_
                                                          refine lz_top (y := 133) (by decide) ?_
                                                          refine lv_iconst (v := 0) hx hb dX12_sheet_86 (by decide) ?_
                                                          refine lz_astc hx hb hK hP hD hS 11 0 rfl rfl (lz_vp (x := 133) (n := 160) (by decide) (by decide)) dX12_sheet_87 (fun H locs hP hD hS => ?_)
                                                          refine lv_iinc (v := 14) (lv' := [(4, .int 14), (0, .ref h0), (1, .int 3), (2, .int x1), (3, .int x2)]) hx hb dX12_sheet_88 hl (k := 0) rfl (by decide) (by decide) rfl (fun ls hl => ?_)
                                                          refine lv_goto (tgt := 68) hx hb dX12_sheet_91 (by decide) ?_
                                                          refine lv_iload hx hb dX12_sheet_68 (lv_at hl 0 rfl) ?_
                                                          refine lv_bipush (v := 40) hx hb dX12_sheet_70 (by decide) ?_
                                                          refine lv_icmp_ge (tgt := 94) hx hb dX12_sheet_72 (by decide) (fun c1200 => ?_) (fun c1200 => ?_)
                                                          · exact absurd c1200 (by decide)
                                                          · refine lv_aload_n hx hb dX12_sheet_75 rfl (lv_at hl 1 rfl) ?_
                                                            refine va_get (D := D) (ci := 12) (v := .ref h11) (C := RX12) (T := TX12) (N := 24) hx hb hts hin12 hown hK hP 0 rfl rfl 18 (by decide) (hts (.fieldLink RX12 44 "MissedPointsModel" "items" "[I") (by decide +kernel)) (fun _ h9 => h9) rfl dX12_sheet_76 ?_
                                                            refine lv_bipush (v := 40) hx hb dX12_sheet_79 (by decide) ?_
                                                            refine lv_iload_n hx hb dX12_sheet_81 rfl (lv_at hl 2 rfl) ?_
                                                            refine lv_imul hx hb dX12_sheet_82 ?_
                                                            refine lz_top (y := 120) (by decide) ?_
                                                            refine lv_iload hx hb dX12_sheet_83 (lv_at hl 0 rfl) ?_
                                                            refine lv_iadd hx hb dX12_sheet_85 ?_
                                                            refine lz_top (y := 134) (by decide) ?_
                                                            refine lv_iconst (v := 0) hx hb dX12_sheet_86 (by decide) ?_
                                                            refine lz_astc hx hb hK hP hD hS 11 0 rfl rfl (lz_vp (x := 134) (n := 160) (by decide) (by decide)) dX12_sheet_87 (fun H locs hP hD hS => ?_)
                                                            refine lv_iinc (v := 15) (lv' := [(4, .int 15), (0, .ref h0), (1, .int 3), (2, .int x1), (3, .int x2)]) hx hb dX12_sheet_88 hl (k := 0) rfl (by decide) (by decide) rfl (fun ls hl => ?_)
                                                            refine lv_goto (tgt := 68) hx hb dX12_sheet_91 (by decide) ?_
                                                            refine lv_iload hx hb dX12_sheet_68 (lv_at hl 0 rfl) ?_
                                                            refine lv_bipush (v := 40) hx hb dX12_sheet_70 (by decide) ?_
                                                            refine lv_icmp_ge (tgt := 94) hx hb dX12_sheet_72 (by decide) (fun c1201 => ?_) (fun c1201 => ?_)
                                                            · exact absurd c1201 (by decide)
                                                            · refine lv_aload_n hx hb dX12_sheet_75 rfl (lv_at hl 1 rfl) ?_
                                                              refine va_get (D := D) (ci := 12) (v := .ref h11) (C := RX12) (T := TX12) (N := 24) hx hb hts hin12 hown hK hP 0 rfl rfl 18 (by decide) (hts (.fieldLink RX12 44 "MissedPointsModel" "items" "[I") (by decide +kernel)) (fun _ h9 => h9) rfl dX12_sheet_76 ?_
                                                              refine lv_bipush (v := 40) hx hb dX12_sheet_79 (by decide) ?_
                                                              refine lv_iload_n hx hb dX12_sheet_81 rfl (lv_at hl 2 rfl) ?_
                                                              refine lv_imul hx hb dX12_sheet_82 ?_
                                                              refine lz_top (y := 120) (by decide) ?_
                                                              refine lv_iload hx hb dX12_sheet_83 (lv_at hl 0 rfl) ?_
                                                              refine lv_iadd hx hb dX12_sheet_85 ?_
                                                              refine lz_top (y := 135) (by decide) ?_
                                                              refine lv_iconst (v := 0) hx hb dX12_sheet_86 (by decide) ?_
                                                              refine lz_astc hx hb hK hP hD hS 11 0 rfl rfl (lz_vp (x := 135) (n := 160) (by decide) (by decide)) dX12_sheet_87 (fun H locs hP hD hS => ?_)
                                                              refine lv_iinc (v := 16) (lv' := [(4, .int 16), (0, .ref h0), (1, .int 3), (2, .int x1), (3, .int x2)]) hx hb dX12_sheet_88 hl (k := 0) rfl (by decide) (by decide) rfl (fun ls hl => ?_)
                                                              refine lv_goto (tgt := 68) hx hb dX12_sheet_91 (by decide) ?_
                                                              refine lv_iload hx hb dX12_sheet_68 (lv_at hl 0 rfl) ?_
                                                              refine lv_bipush (v := 40) hx hb dX12_sheet_70 (by decide) ?_
                                                              refine lv_icmp_ge (tgt := 94) hx hb dX12_sheet_72 (by decide) (fun c1202 => ?_) (fun c1202 => ?_)
                                                              · exact absurd c1202 (by decide)
                                                              · refine lv_aload_n hx hb dX12_sheet_75 rfl (lv_at hl 1 rfl) ?_
                                                                refine va_get (D := D) (ci := 12) (v := .ref h11) (C := RX12) (T := TX12) (N := 24) hx hb hts hin12 hown hK hP 0 rfl rfl 18 (by decide) (hts (.fieldLink RX12 44 "MissedPointsModel" "items" "[I") (by decide +kernel)) (fun _ h9 => h9) rfl dX12_sheet_76 ?_
                                                                refine lv_bipush (v := 40) hx hb dX12_sheet_79 (by decide) ?_
                                                                refine lv_iload_n hx hb dX12_sheet_81 rfl (lv_at hl 2 rfl) ?_
                                                                refine lv_imul hx hb dX12_sheet_82 ?_
                                                                refine lz_top (y := 120) (by decide) ?_
                                                                refine lv_iload hx hb dX12_sheet_83 (lv_at hl 0 rfl) ?_
                                                                refine lv_iadd hx hb dX12_sheet_85 ?_
                                                                refine lz_top (y := 136) (by decide) ?_
                                                                refine lv_iconst (v := 0) hx hb dX12_sheet_86 (by decide) ?_
                                                                refine lz_astc hx hb hK hP hD hS 11 0 rfl rfl (lz_vp (x := 136) (n := 160) (by decide) (by decide)) dX12_sheet_87 (fun H locs hP hD hS => ?_)
                                                                refine lv_iinc (v := 17) (lv' := [(4, .int 17), (0, .ref h0), (1, .int 3), (2, .int x1), (3, .int x2)]) hx hb dX12_sheet_88 hl (k := 0) rfl (by decide) (by decide) rfl (fun ls hl => ?_)
                                                                refine lv_goto (tgt := 68) hx hb dX12_sheet_91 (by decide) ?_
                                                                refine lv_iload hx hb dX12_sheet_68 (lv_at hl 0 rfl) ?_
                                                                refine lv_bipush (v := 40) hx hb dX12_sheet_70 (by decide) ?_
                                                                refine lv_icmp_ge (tgt := 94) hx hb dX12_sheet_72 (by decide) (fun c1203 => ?_) (fun c1203 => ?_)
                                                                · exact absurd c1203 (by decide)
                                                                · refine lv_aload_n hx hb dX12_sheet_75 rfl (lv_at hl 1 rfl) ?_
                                                                  refine va_get (D := D) (ci := 12) (v := .ref h11) (C := RX12) (T := TX12) (N := 24) hx hb hts hin12 hown hK hP 0 rfl rfl 18 (by decide) (hts (.fieldLink RX12 44 "MissedPointsModel" "items" "[I") (by decide +kernel)) (fun _ h9 => h9) rfl dX12_sheet_76 ?_
                                                                  refine lv_bipush (v := 40) hx hb dX12_sheet_79 (by decide) ?_
                                                                  refine lv_iload_n hx hb dX12_sheet_81 rfl (lv_at hl 2 rfl) ?_
                                                                  refine lv_imul hx hb dX12_sheet_82 ?_
                                                                  refine lz_top (y := 120) (by decide) ?_
                                                                  refine lv_iload hx hb dX12_sheet_83 (lv_at hl 0 rfl) ?_
                                                                  refine lv_iadd hx hb dX12_sheet_85 ?_
                                                                  refine lz_top (y := 137) (by decide) ?_
                                                                  refine lv_iconst (v := 0) hx hb dX12_sheet_86 (by decide) ?_
                                                                  refine lz_astc hx hb hK hP hD hS 11 0 rfl rfl (lz_vp (x := 137) (n := 160) (by decide) (by decide)) dX12_sheet_87 (fun H locs hP hD hS => ?_)
                                                                  refine lv_iinc (v := 18) (lv' := [(4, .int 18), (0, .ref h0), (1, .int 3), (2, .int x1), (3, .int x2)]) hx hb dX12_sheet_88 hl (k := 0) rfl (by decide) (by decide) rfl (fun ls hl => ?_)
                                                                  refine lv_goto (tgt := 68) hx hb dX12_sheet_91 (by decide) ?_
                                                                  refine lv_iload hx hb dX12_sheet_68 (lv_at hl 0 rfl) ?_
                                                                  refine lv_bipush (v := 40) hx hb dX12_sheet_70 (by decide) ?_
                                                                  refine lv_icmp_ge (tgt := 94) hx hb dX12_sheet_72 (by decide) (fun c1204 => ?_) (fun c1204 => ?_)
                                                                  · exact absurd c1204 (by decide)
                                                                  · refine lv_aload_n hx hb dX12_sheet_75 rfl (lv_at hl 1 rfl) ?_
                                                                    refine va_get (D := D) (ci := 12) (v := .ref h11) (C := RX12) (T := TX12) (N := 24) hx hb hts hin12 hown hK hP 0 rfl rfl 18 (by decide) (hts (.fieldLink RX12 44 "MissedPointsModel" "items" "[I") (by decide +kernel)) (fun _ h9 => h9) rfl dX12_sheet_76 ?_
                                                                    refine lv_bipush (v := 40) hx hb dX12_sheet_79 (by decide) ?_
                                                                    refine lv_iload_n hx hb dX12_sheet_81 rfl (lv_at hl 2 rfl) ?_
                                                                    refine lv_imul hx hb dX12_sheet_82 ?_
                                                                    refine lz_top (y := 120) (by decide) ?_
                                                                    refine lv_iload hx hb dX12_sheet_83 (lv_at hl 0 rfl) ?_
                                                                    refine lv_iadd hx hb dX12_sheet_85 ?_
                                                                    refine lz_top (y := 138) (by decide) ?_
                                                                    refine lv_iconst (v := 0) hx hb dX12_sheet_86 (by decide) ?_
                                                                    refine lz_astc hx hb hK hP hD hS 11 0 rfl rfl (lz_vp (x := 138) (n := 160) (by decide) (by decide)) dX12_sheet_87 (fun H locs hP hD hS => ?_)
                                                                    refine lv_iinc (v := 19) (lv' := [(4, .int 19), (0, .ref h0), (1, .int 3), (2, .int x1), (3, .int x2)]) hx hb dX12_sheet_88 hl (k := 0) rfl (by decide) (by decide) rfl (fun ls hl => ?_)
                                                                    refine lv_goto (tgt := 68) hx hb dX12_sheet_91 (by decide) ?_
                                                                    refine lv_iload hx hb dX12_sheet_68 (lv_at hl 0 rfl) ?_
                                                                    refine lv_bipush (v := 40) hx hb dX12_sheet_70 (by decide) ?_
                                                                    refine lv_icmp_ge (tgt := 94) hx hb dX12_sheet_72 (by decide) (fun c1205 => ?_) (fun c1205 => ?_)
                                                                    · exact absurd c1205 (by decide)
                                                                    · refine lv_aload_n hx hb dX12_sheet_75 rfl (lv_at hl 1 rfl) ?_
                                                                      refine va_get (D := D) (ci := 12) (v := .ref h11) (C := RX12) (T := TX12) (N := 24) hx hb hts hin12 hown hK hP 0 rfl rfl 18 (by decide) (hts (.fieldLink RX12 44 "MissedPointsModel" "items" "[I") (by decide +kernel)) (fun _ h9 => h9) rfl dX12_sheet_76 ?_
                                                                      refine lv_bipush (v := 40) hx hb dX12_sheet_79 (by decide) ?_
                                                                      refine lv_iload_n hx hb dX12_sheet_81 rfl (lv_at hl 2 rfl) ?_
                                                                      refine lv_imul hx hb dX12_sheet_82 ?_
                                                                      refine lz_top (y := 120) (by decide) ?_
                                                                      refine lv_iload hx hb dX12_sheet_83 (lv_at hl 0 rfl) ?_
                                                                      refine lv_iadd hx hb dX12_sheet_85 ?_
                                                                      refine lz_top (y := 139) (by decide) ?_
                                                                      refine lv_iconst (v := 0) hx hb dX12_sheet_86 (by decide) ?_
                                                                      refine lz_astc hx hb hK hP hD hS 11 0 rfl rfl (lz_vp (x := 139) (n := 160) (by decide) (by decide)) dX12_sheet_87 (fun H locs hP hD hS => ?_)
                                                                      refine lv_iinc (v := 20) (lv' := [(4, .int 20), (0, .ref h0), (1, .int 3), (2, .int x1), (3, .int x2)]) hx hb dX12_sheet_88 hl (k := 0) rfl (by decide) (by decide) rfl (fun ls hl => ?_)
                                                                      refine lv_goto (tgt := 68) hx hb dX12_sheet_91 (by decide) ?_
                                                                      refine lv_iload hx hb dX12_sheet_68 (lv_at hl 0 rfl) ?_
                                                                      refine lv_bipush (v := 40) hx hb dX12_sheet_70 (by decide) ?_
                                                                      refine lv_icmp_ge (tgt := 94) hx hb dX12_sheet_72 (by decide) (fun c1206 => ?_) (fun c1206 => ?_)
                                                                      · exact absurd c1206 (by decide)
                                                                      · refine lv_aload_n hx hb dX12_sheet_75 rfl (lv_at hl 1 rfl) ?_
                                                                        refine va_get (D := D) (ci := 12) (v := .ref h11) (C := RX12) (T := TX12) (N := 24) hx hb hts hin12 hown hK hP 0 rfl rfl 18 (by decide) (hts (.fieldLink RX12 44 "MissedPointsModel" "items" "[I") (by decide +kernel)) (fun _ h9 => h9) rfl dX12_sheet_76 ?_
                                                                        refine lv_bipush (v := 40) hx hb dX12_sheet_79 (by decide) ?_
                                                                        refine lv_iload_n hx hb dX12_sheet_81 rfl (lv_at hl 2 rfl) ?_
                                                                        refine lv_imul hx hb dX12_sheet_82 ?_
                                                                        refine lz_top (y := 120) (by decide) ?_
                                                                        refine lv_iload hx hb dX12_sheet_83 (lv_at hl 0 rfl) ?_
                                                                        refine lv_iadd hx hb dX12_sheet_85 ?_
                                                                        refine lz_top (y := 140) (by decide) ?_
                                                                        refine lv_iconst (v := 0) hx hb dX12_sheet_86 (by decide) ?_
                                                                        refine lz_astc hx hb hK hP hD hS 11 0 rfl rfl (lz_vp (x := 140) (n := 160) (by decide) (by decide)) dX12_sheet_87 (fun H locs hP hD hS => ?_)
                                                                        refine lv_iinc (v := 21) (lv' := [(4, .int 21), (0, .ref h0), (1, .int 3), (2, .int x1), (3, .int x2)]) hx hb dX12_sheet_88 hl (k := 0) rfl (by decide) (by decide) rfl (fun ls hl => ?_)
                                                                        refine lv_goto (tgt := 68) hx hb dX12_sheet_91 (by decide) ?_
                                                                        refine lv_iload hx hb dX12_sheet_68 (lv_at hl 0 rfl) ?_
                                                                        refine lv_bipush (v := 40) hx hb dX12_sheet_70 (by decide) ?_
                                                                        refine lv_icmp_ge (tgt := 94) hx hb dX12_sheet_72 (by decide) (fun c1207 => ?_) (fun c1207 => ?_)
                                                                        · exact absurd c1207 (by decide)
                                                                        · refine lv_aload_n hx hb dX12_sheet_75 rfl (lv_at hl 1 rfl) ?_
                                                                          refine va_get (D := D) (ci := 12) (v := .ref h11) (C := RX12) (T := TX12) (N := 24) hx hb hts hin12 hown hK hP 0 rfl rfl 18 (by decide) (hts (.fieldLink RX12 44 "MissedPointsModel" "items" "[I") (by decide +kernel)) (fun _ h9 => h9) rfl dX12_sheet_76 ?_
                                                                          refine lv_bipush (v := 40) hx hb dX12_sheet_79 (by decide) ?_
                                                                          refine lv_iload_n hx hb dX12_sheet_81 rfl (lv_at hl 2 rfl) ?_
                                                                          refine lv_imul hx hb dX12_sheet_82 ?_
                                                                          refine lz_top (y := 120) (by decide) ?_
                                                                          refine lv_iload hx hb dX12_sheet_83 (lv_at hl 0 rfl) ?_
                                                                          refine lv_iadd hx hb dX12_sheet_85 ?_
                                                                          refine lz_top (y := 141) (by decide) ?_
                                                                          refine lv_iconst (v := 0) hx hb dX12_sheet_86 (by decide) ?_
                                                                          refine lz_astc hx hb hK hP hD hS 11 0 rfl rfl (lz_vp (x := 141) (n := 160) (by decide) (by decide)) dX12_sheet_87 (fun H locs hP hD hS => ?_)
                                                                          refine lv_iinc (v := 22) (lv' := [(4, .int 22), (0, .ref h0), (1, .int 3), (2, .int x1), (3, .int x2)]) hx hb dX12_sheet_88 hl (k := 0) rfl (by decide) (by decide) rfl (fun ls hl => ?_)
                                                                          refine lv_goto (tgt := 68) hx hb dX12_sheet_91 (by decide) ?_
                                                                          refine lv_iload hx hb dX12_sheet_68 (lv_at hl 0 rfl) ?_
                                                                          refine lv_bipush (v := 40) hx hb dX12_sheet_70 (by decide) ?_
                                                                          refine lv_icmp_ge (tgt := 94) hx hb dX12_sheet_72 (by decide) (fun c1208 => ?_) (fun c1208 => ?_)
                                                                          · exact absurd c1208 (by decide)
                                                                          · refine lv_aload_n hx hb dX12_sheet_75 rfl (lv_at hl 1 rfl) ?_
                                                                            refine va_get (D := D) (ci := 12) (v := .ref h11) (C := RX12) (T := TX12) (N := 24) hx hb hts hin12 hown hK hP 0 rfl rfl 18 (by decide) (hts (.fieldLink RX12 44 "MissedPointsModel" "items" "[I") (by decide +kernel)) (fun _ h9 => h9) rfl dX12_sheet_76 ?_
                                                                            refine lv_bipush (v := 40) hx hb dX12_sheet_79 (by decide) ?_
                                                                            refine lv_iload_n hx hb dX12_sheet_81 rfl (lv_at hl 2 rfl) ?_
                                                                            refine lv_imul hx hb dX12_sheet_82 ?_
                                                                            refine lz_top (y := 120) (by decide) ?_
                                                                            refine lv_iload hx hb dX12_sheet_83 (lv_at hl 0 rfl) ?_
                                                                            refine lv_iadd hx hb dX12_sheet_85 ?_
                                                                            refine lz_top (y := 142) (by decide) ?_
                                                                            refine lv_iconst (v := 0) hx hb dX12_sheet_86 (by decide) ?_
                                                                            refine lz_astc hx hb hK hP hD hS 11 0 rfl rfl (lz_vp (x := 142) (n := 160) (by decide) (by decide)) dX12_sheet_87 (fun H locs hP hD hS => ?_)
                                                                            refine lv_iinc (v := 23) (lv' := [(4, .int 23), (0, .ref h0), (1, .int 3), (2, .int x1), (3, .int x2)]) hx hb dX12_sheet_88 hl (k := 0) rfl (by decide) (by decide) rfl (fun ls hl => ?_)
                                                                            refine lv_goto (tgt := 68) hx hb dX12_sheet_91 (by decide) ?_
                                                                            refine lv_iload hx hb dX12_sheet_68 (lv_at hl 0 rfl) ?_
                                                                            refine lv_bipush (v := 40) hx hb dX12_sheet_70 (by decide) ?_
                                                                            refine lv_icmp_ge (tgt := 94) hx hb dX12_sheet_72 (by decide) (fun c1209 => ?_) (fun c1209 => ?_)
                                                                            · exact absurd c1209 (by decide)
                                                                            · refine lv_aload_n hx hb dX12_sheet_75 rfl (lv_at hl 1 rfl) ?_
                                                                              refine va_get (D := D) (ci := 12) (v := .ref h11) (C := RX12) (T := TX12) (N := 24) hx hb hts hin12 hown hK hP 0 rfl rfl 18 (by decide) (hts (.fieldLink RX12 44 "MissedPointsModel" "items" "[I") (by decide +kernel)) (fun _ h9 => h9) rfl dX12_sheet_76 ?_
                                                                              refine lv_bipush (v := 40) hx hb dX12_sheet_79 (by decide) ?_
                                                                              refine lv_iload_n hx hb dX12_sheet_81 rfl (lv_at hl 2 rfl) ?_
                                                                              refine lv_imul hx hb dX12_sheet_82 ?_
                                                                              refine lz_top (y := 120) (by decide) ?_
                                                                              refine lv_iload hx hb dX12_sheet_83 (lv_at hl 0 rfl) ?_
                                                                              refine lv_iadd hx hb dX12_sheet_85 ?_
                                                                              refine lz_top (y := 143) (by decide) ?_
                                                                              refine lv_iconst (v := 0) hx hb dX12_sheet_86 (by decide) ?_
                                                                              refine lz_astc hx hb hK hP hD hS 11 0 rfl rfl (lz_vp (x := 143) (n := 160) (by decide) (by decide)) dX12_sheet_87 (fun H locs hP hD hS => ?_)
                                                                              refine lv_iinc (v := 24) (lv' := [(4, .int 24), (0, .ref h0), (1, .int 3), (2, .int x1), (3, .int x2)]) hx hb dX12_sheet_88 hl (k := 0) rfl (by decide) (by decide) rfl (fun ls hl => ?_)
                                                                              refine lv_goto (tgt := 68) hx hb dX12_sheet_91 (by decide) ?_
                                                                              refine lv_iload hx hb dX12_sheet_68 (lv_at hl 0 rfl) ?_
                                                                              refine lv_bipush (v := 40) hx hb dX12_sheet_70 (by decide) ?_
                                                                              refine lv_icmp_ge (tgt := 94) hx hb dX12_sheet_72 (by decide) (fun c1210 => ?_) (fun c1210 => ?_)
                                                                              · exact absurd c1210 (by decide)
                                                                              · refine lv_aload_n hx hb dX12_sheet_75 rfl (lv_at hl 1 rfl) ?_
                                                                                refine va_get (D := D) (ci := 12) (v := .ref h11) (C := RX12) (T := TX12) (N := 24) hx hb hts hin12 hown hK hP 0 rfl rfl 18 (by decide) (hts (.fieldLink RX12 44 "MissedPointsModel" "items" "[I") (by decide +kernel)) (fun _ h9 => h9) rfl dX12_sheet_76 ?_
                                                                                refine lv_bipush (v := 40) hx hb dX12_sheet_79 (by decide) ?_
                                                                                refine lv_iload_n hx hb dX12_sheet_81 rfl (lv_at hl 2 rfl) ?_
                                                                                refine lv_imul hx hb dX12_sheet_82 ?_
                                                                                refine lz_top (y := 120) (by decide) ?_
                                                                                refine lv_iload hx hb dX12_sheet_83 (lv_at hl 0 rfl) ?_
                                                                                refine lv_iadd hx hb dX12_sheet_85 ?_
                                                                                refine lz_top (y := 144) (by decide) ?_
                                                                                refine lv_iconst (v := 0) hx hb dX12_sheet_86 (by decide) ?_
                                                                                refine lz_astc hx hb hK hP hD hS 11 0 rfl rfl (lz_vp (x := 144) (n := 160) (by decide) (by decide)) dX12_sheet_87 (fun H locs hP hD hS => ?_)
                                                                                refine lv_iinc (v := 25) (lv' := [(4, .int 25), (0, .ref h0), (1, .int 3), (2, .int x1), (3, .int x2)]) hx hb dX12_sheet_88 hl (k := 0) rfl (by decide) (by decide) rfl (fun ls hl => ?_)
                                                                                refine lv_goto (tgt := 68) hx hb dX12_sheet_91 (by decide) ?_
                                                                                refine lv_iload hx hb dX12_sheet_68 (lv_at hl 0 rfl) ?_
                                                                                refine lv_bipush (v := 40) hx hb dX12_sheet_70 (by decide) ?_
                                                                                refine lv_icmp_ge (tgt := 94) hx hb dX12_sheet_72 (by decide) (fun c1211 => ?_) (fun c1211 => ?_)
                                                                                · exact absurd c1211 (by decide)
                                                                                · refine lv_aload_n hx hb dX12_sheet_75 rfl (lv_at hl 1 rfl) ?_
                                                                                  refine va_get (D := D) (ci := 12) (v := .ref h11) (C := RX12) (T := TX12) (N := 24) hx hb hts hin12 hown hK hP 0 rfl rfl 18 (by decide) (hts (.fieldLink RX12 44 "MissedPointsModel" "items" "[I") (by decide +kernel)) (fun _ h9 => h9) rfl dX12_sheet_76 ?_
                                                                                  refine lv_bipush (v := 40) hx hb dX12_sheet_79 (by decide) ?_
                                                                                  refine lv_iload_n hx hb dX12_sheet_81 rfl (lv_at hl 2 rfl) ?_
                                                                                  refine lv_imul hx hb dX12_sheet_82 ?_
                                                                                  refine lz_top (y := 120) (by decide) ?_
                                                                                  refine lv_iload hx hb dX12_sheet_83 (lv_at hl 0 rfl) ?_
                                                                                  refine lv_iadd hx hb dX12_sheet_85 ?_
                                                                                  refine lz_top (y := 145) (by decide) ?_
                                                                                  refine lv_iconst (v := 0) hx hb dX12_sheet_86 (by decide) ?_
                                                                                  refine lz_astc hx hb hK hP hD hS 11 0 rfl rfl (lz_vp (x := 145) (n := 160) (by decide) (by decide)) dX12_sheet_87 (fun H locs hP hD hS => ?_)
                                                                                  refine lv_iinc (v := 26) (lv' := [(4, .int 26), (0, .ref h0), (1, .int 3), (2, .int x1), (3, .int x2)]) hx hb dX12_sheet_88 hl (k := 0) rfl (by decide) (by decide) rfl (fun ls hl => ?_)
                                                                                  refine lv_goto (tgt := 68) hx hb dX12_sheet_91 (by decide) ?_
                                                                                  refine lv_iload hx hb dX12_sheet_68 (lv_at hl 0 rfl) ?_
                                                                                  refine lv_bipush (v := 40) hx hb dX12_sheet_70 (by decide) ?_
                                                                                  refine lv_icmp_ge (tgt := 94) hx hb dX12_sheet_72 (by decide) (fun c1212 => ?_) (fun c1212 => ?_)
                                                                                  · exact absurd c1212 (by decide)
                                                                                  · refine lv_aload_n hx hb dX12_sheet_75 rfl (lv_at hl 1 rfl) ?_
                                                                                    refine va_get (D := D) (ci := 12) (v := .ref h11) (C := RX12) (T := TX12) (N := 24) hx hb hts hin12 hown hK hP 0 rfl rfl 18 (by decide) (hts (.fieldLink RX12 44 "MissedPointsModel" "items" "[I") (by decide +kernel)) (fun _ h9 => h9) rfl dX12_sheet_76 ?_
                                                                                    refine lv_bipush (v := 40) hx hb dX12_sheet_79 (by decide) ?_
                                                                                    refine lv_iload_n hx hb dX12_sheet_81 rfl (lv_at hl 2 rfl) ?_
                                                                                    refine lv_imul hx hb dX12_sheet_82 ?_
                                                                                    refine lz_top (y := 120) (by decide) ?_
                                                                                    refine lv_iload hx hb dX12_sheet_83 (lv_at hl 0 rfl) ?_
                                                                                    refine lv_iadd hx hb dX12_sheet_85 ?_
                                                                                    refine lz_top (y := 146) (by decide) ?_
                                                                                    refine lv_iconst (v := 0) hx hb dX12_sheet_86 (by decide) ?_
                                                                                    refine lz_astc hx hb hK hP hD hS 11 0 rfl rfl (lz_vp (x := 146) (n := 160) (by decide) (by decide)) dX12_sheet_87 (fun H locs hP hD hS => ?_)
                                                                                    refine lv_iinc (v := 27) (lv' := [(4, .int 27), (0, .ref h0), (1, .int 3), (2, .int x1), (3, .int x2)]) hx hb dX12_sheet_88 hl (k := 0) rfl (by decide) (by decide) rfl (fun ls hl => ?_)
                                                                                    refine lv_goto (tgt := 68) hx hb dX12_sheet_91 (by decide) ?_
                                                                                    refine lv_iload hx hb dX12_sheet_68 (lv_at hl 0 rfl) ?_
                                                                                    refine lv_bipush (v := 40) hx hb dX12_sheet_70 (by decide) ?_
                                                                                    refine lv_icmp_ge (tgt := 94) hx hb dX12_sheet_72 (by decide) (fun c1213 => ?_) (fun c1213 => ?_)
                                                                                    · exact absurd c1213 (by decide)
                                                                                    · refine lv_aload_n hx hb dX12_sheet_75 rfl (lv_at hl 1 rfl) ?_
                                                                                      refine va_get (D := D) (ci := 12) (v := .ref h11) (C := RX12) (T := TX12) (N := 24) hx hb hts hin12 hown hK hP 0 rfl rfl 18 (by decide) (hts (.fieldLink RX12 44 "MissedPointsModel" "items" "[I") (by decide +kernel)) (fun _ h9 => h9) rfl dX12_sheet_76 ?_
                                                                                      refine lv_bipush (v := 40) hx hb dX12_sheet_79 (by decide) ?_
                                                                                      refine lv_iload_n hx hb dX12_sheet_81 rfl (lv_at hl 2 rfl) ?_
                                                                                      refine lv_imul hx hb dX12_sheet_82 ?_
                                                                                      refine lz_top (y := 120) (by decide) ?_
                                                                                      refine lv_iload hx hb dX12_sheet_83 (lv_at hl 0 rfl) ?_
                                                                                      refine lv_iadd hx hb dX12_sheet_85 ?_
                                                                                      refine lz_top (y := 147) (by decide) ?_
                                                                                      refine lv_iconst (v := 0) hx hb dX12_sheet_86 (by decide) ?_
                                                                                      refine lz_astc hx hb hK hP hD hS 11 0 rfl rfl (lz_vp (x := 147) (n := 160) (by decide) (by decide)) dX12_sheet_87 (fun H locs hP hD hS => ?_)
                                                                                      refine lv_iinc (v := 28) (lv' := [(4, .int 28), (0, .ref h0), (1, .int 3), (2, .int x1), (3, .int x2)]) hx hb dX12_sheet_88 hl (k := 0) rfl (by decide) (by decide) rfl (fun ls hl => ?_)
                                                                                      refine lv_goto (tgt := 68) hx hb dX12_sheet_91 (by decide) ?_
                                                                                      refine lv_iload hx hb dX12_sheet_68 (lv_at hl 0 rfl) ?_
                                                                                      refine lv_bipush (v := 40) hx hb dX12_sheet_70 (by decide) ?_
                                                                                      refine lv_icmp_ge (tgt := 94) hx hb dX12_sheet_72 (by decide) (fun c1214 => ?_) (fun c1214 => ?_)
                                                                                      · exact absurd c1214 (by decide)
                                                                                      · refine lv_aload_n hx hb dX12_sheet_75 rfl (lv_at hl 1 rfl) ?_
                                                                                        refine va_get (D := D) (ci := 12) (v := .ref h11) (C := RX12) (T := TX12) (N := 24) hx hb hts hin12 hown hK hP 0 rfl rfl 18 (by decide) (hts (.fieldLink RX12 44 "MissedPointsModel" "items" "[I") (by decide +kernel)) (fun _ h9 => h9) rfl dX12_sheet_76 ?_
                                                                                        refine lv_bipush (v := 40) hx hb dX12_sheet_79 (by decide) ?_
                                                                                        refine lv_iload_n hx hb dX12_sheet_81 rfl (lv_at hl 2 rfl) ?_
                                                                                        refine lv_imul hx hb dX12_sheet_82 ?_
                                                                                        refine lz_top (y := 120) (by decide) ?_
                                                                                        refine lv_iload hx hb dX12_sheet_83 (lv_at hl 0 rfl) ?_
                                                                                        refine lv_iadd hx hb dX12_sheet_85 ?_
                                                                                        refine lz_top (y := 148) (by decide) ?_
                                                                                        refine lv_iconst (v := 0) hx hb dX12_sheet_86 (by decide) ?_
                                                                                        refine lz_astc hx hb hK hP hD hS 11 0 rfl rfl (lz_vp (x := 148) (n := 160) (by decide) (by decide)) dX12_sheet_87 (fun H locs hP hD hS => ?_)
                                                                                        refine lv_iinc (v := 29) (lv' := [(4, .int 29), (0, .ref h0), (1, .int 3), (2, .int x1), (3, .int x2)]) hx hb dX12_sheet_88 hl (k := 0) rfl (by decide) (by decide) rfl (fun ls hl => ?_)
                                                                                        refine lv_goto (tgt := 68) hx hb dX12_sheet_91 (by decide) ?_
                                                                                        refine lv_iload hx hb dX12_sheet_68 (lv_at hl 0 rfl) ?_
                                                                                        refine lv_bipush (v := 40) hx hb dX12_sheet_70 (by decide) ?_
                                                                                        refine lv_icmp_ge (tgt := 94) hx hb dX12_sheet_72 (by decide) (fun c1215 => ?_) (fun c1215 => ?_)
                                                                                        · exact absurd c1215 (by decide)
                                                                                        · refine lv_aload_n hx hb dX12_sheet_75 rfl (lv_at hl 1 rfl) ?_
                                                                                          refine va_get (D := D) (ci := 12) (v := .ref h11) (C := RX12) (T := TX12) (N := 24) hx hb hts hin12 hown hK hP 0 rfl rfl 18 (by decide) (hts (.fieldLink RX12 44 "MissedPointsModel" "items" "[I") (by decide +kernel)) (fun _ h9 => h9) rfl dX12_sheet_76 ?_
                                                                                          refine lv_bipush (v := 40) hx hb dX12_sheet_79 (by decide) ?_
                                                                                          refine lv_iload_n hx hb dX12_sheet_81 rfl (lv_at hl 2 rfl) ?_
                                                                                          refine lv_imul hx hb dX12_sheet_82 ?_
                                                                                          refine lz_top (y := 120) (by decide) ?_
                                                                                          refine lv_iload hx hb dX12_sheet_83 (lv_at hl 0 rfl) ?_
                                                                                          refine lv_iadd hx hb dX12_sheet_85 ?_
                                                                                          refine lz_top (y := 149) (by decide) ?_
                                                                                          refine lv_iconst (v := 0) hx hb dX12_sheet_86 (by decide) ?_
                                                                                          refine lz_astc hx hb hK hP hD hS 11 0 rfl rfl (lz_vp (x := 149) (n := 160) (by decide) (by decide)) dX12_sheet_87 (fun H locs hP hD hS => ?_)
                                                                                          refine lv_iinc (v := 30) (lv' := [(4, .int 30), (0, .ref h0), (1, .int 3), (2, .int x1), (3, .int x2)]) hx hb dX12_sheet_88 hl (k := 0) rfl (by decide) (by decide) rfl (fun ls hl => ?_)
                                                                                          refine lv_goto (tgt := 68) hx hb dX12_sheet_91 (by decide) ?_
                                                                                          refine lv_iload hx hb dX12_sheet_68 (lv_at hl 0 rfl) ?_
                                                                                          refine lv_bipush (v := 40) hx hb dX12_sheet_70 (by decide) ?_
                                                                                          refine lv_icmp_ge (tgt := 94) hx hb dX12_sheet_72 (by decide) (fun c1216 => ?_) (fun c1216 => ?_)
                                                                                          · exact absurd c1216 (by decide)
                                                                                          · refine lv_aload_n hx hb dX12_sheet_75 rfl (lv_at hl 1 rfl) ?_
                                                                                            refine va_get (D := D) (ci := 12) (v := .ref h11) (C := RX12) (T := TX12) (N := 24) hx hb hts hin12 hown hK hP 0 rfl rfl 18 (by decide) (hts (.fieldLink RX12 44 "MissedPointsModel" "items" "[I") (by decide +kernel)) (fun _ h9 => h9) rfl dX12_sheet_76 ?_
                                                                                            refine lv_bipush (v := 40) hx hb dX12_sheet_79 (by decide) ?_
                                                                                            refine lv_iload_n hx hb dX12_sheet_81 rfl (lv_at hl 2 rfl) ?_
                                                                                            refine lv_imul hx hb dX12_sheet_82 ?_
                                                                                            refine lz_top (y := 120) (by decide) ?_
                                                                                            refine lv_iload hx hb dX12_sheet_83 (lv_at hl 0 rfl) ?_
                                                                                            refine lv_iadd hx hb dX12_sheet_85 ?_
                                                                                            refine lz_top (y := 150) (by decide) ?_
                                                                                            refine lv_iconst (v := 0) hx hb dX12_sheet_86 (by decide) ?_
                                                                                            refine lz_astc hx hb hK hP hD hS 11 0 rfl rfl (lz_vp (x := 150) (n := 160) (by decide) (by decide)) dX12_sheet_87 (fun H locs hP hD hS => ?_)
                                                                                            refine lv_iinc (v := 31) (lv' := [(4, .int 31), (0, .ref h0), (1, .int 3), (2, .int x1), (3, .int x2)]) hx hb dX12_sheet_88 hl (k := 0) rfl (by decide) (by decide) rfl (fun ls hl => ?_)
                                                                                            refine lv_goto (tgt := 68) hx hb dX12_sheet_91 (by decide) ?_
                                                                                            refine lv_iload hx hb dX12_sheet_68 (lv_at hl 0 rfl) ?_
                                                                                            refine lv_bipush (v := 40) hx hb dX12_sheet_70 (by decide) ?_
                                                                                            refine lv_icmp_ge (tgt := 94) hx hb dX12_sheet_72 (by decide) (fun c1217 => ?_) (fun c1217 => ?_)
                                                                                            · exact absurd c1217 (by decide)
                                                                                            · refine lv_aload_n hx hb dX12_sheet_75 rfl (lv_at hl 1 rfl) ?_
                                                                                              refine va_get (D := D) (ci := 12) (v := .ref h11) (C := RX12) (T := TX12) (N := 24) hx hb hts hin12 hown hK hP 0 rfl rfl 18 (by decide) (hts (.fieldLink RX12 44 "MissedPointsModel" "items" "[I") (by decide +kernel)) (fun _ h9 => h9) rfl dX12_sheet_76 ?_
                                                                                              refine lv_bipush (v := 40) hx hb dX12_sheet_79 (by decide) ?_
                                                                                              refine lv_iload_n hx hb dX12_sheet_81 rfl (lv_at hl 2 rfl) ?_
                                                                                              refine lv_imul hx hb dX12_sheet_82 ?_
                                                                                              refine lz_top (y := 120) (by decide) ?_
                                                                                              refine lv_iload hx hb dX12_sheet_83 (lv_at hl 0 rfl) ?_
                                                                                              refine lv_iadd hx hb dX12_sheet_85 ?_
                                                                                              refine lz_top (y := 151) (by decide) ?_
                                                                                              refine lv_iconst (v := 0) hx hb dX12_sheet_86 (by decide) ?_
                                                                                              refine lz_astc hx hb hK hP hD hS 11 0 rfl rfl (lz_vp (x := 151) (n := 160) (by decide) (by decide)) dX12_sheet_87 (fun H locs hP hD hS => ?_)
                                                                                              refine lv_iinc (v := 32) (lv' := [(4, .int 32), (0, .ref h0), (1, .int 3), (2, .int x1), (3, .int x2)]) hx hb dX12_sheet_88 hl (k := 0) rfl (by decide) (by decide) rfl (fun ls hl => ?_)
                                                                                              refine lv_goto (tgt := 68) hx hb dX12_sheet_91 (by decide) ?_
                                                                                              refine lv_iload hx hb dX12_sheet_68 (lv_at hl 0 rfl) ?_
                                                                                              refine lv_bipush (v := 40) hx hb dX12_sheet_70 (by decide) ?_
                                                                                              refine lv_icmp_ge (tgt := 94) hx hb dX12_sheet_72 (by decide) (fun c1218 => ?_) (fun c1218 => ?_)
                                                                                              · exact absurd c1218 (by decide)
                                                                                              · refine lv_aload_n hx hb dX12_sheet_75 rfl (lv_at hl 1 rfl) ?_
                                                                                                refine va_get (D := D) (ci := 12) (v := .ref h11) (C := RX12) (T := TX12) (N := 24) hx hb hts hin12 hown hK hP 0 rfl rfl 18 (by decide) (hts (.fieldLink RX12 44 "MissedPointsModel" "items" "[I") (by decide +kernel)) (fun _ h9 => h9) rfl dX12_sheet_76 ?_
                                                                                                refine lv_bipush (v := 40) hx hb dX12_sheet_79 (by decide) ?_
                                                                                                refine lv_iload_n hx hb dX12_sheet_81 rfl (lv_at hl 2 rfl) ?_
                                                                                                refine lv_imul hx hb dX12_sheet_82 ?_
                                                                                                refine lz_top (y := 120) (by decide) ?_
                                                                                                refine lv_iload hx hb dX12_sheet_83 (lv_at hl 0 rfl) ?_
                                                                                                refine lv_iadd hx hb dX12_sheet_85 ?_
                                                                                                refine lz_top (y := 152) (by decide) ?_
                                                                                                refine lv_iconst (v := 0) hx hb dX12_sheet_86 (by decide) ?_
                                                                                                refine lz_astc hx hb hK hP hD hS 11 0 rfl rfl (lz_vp (x := 152) (n := 160) (by decide) (by decide)) dX12_sheet_87 (fun H locs hP hD hS => ?_)
                                                                                                refine lv_iinc (v := 33) (lv' := [(4, .int 33), (0, .ref h0), (1, .int 3), (2, .int x1), (3, .int x2)]) hx hb dX12_sheet_88 hl (k := 0) rfl (by decide) (by decide) rfl (fun ls hl => ?_)
                                                                                                refine lv_goto (tgt := 68) hx hb dX12_sheet_91 (by decide) ?_
                                                                                                refine lv_iload hx hb dX12_sheet_68 (lv_at hl 0 rfl) ?_
                                                                                                refine lv_bipush (v := 40) hx hb dX12_sheet_70 (by decide) ?_
                                                                                                refine lv_icmp_ge (tgt := 94) hx hb dX12_sheet_72 (by decide) (fun c1219 => ?_) (fun c1219 => ?_)
                                                                                                · exact absurd c1219 (by decide)
                                                                                                · refine lv_aload_n hx hb dX12_sheet_75 rfl (lv_at hl 1 rfl) ?_
                                                                                                  refine va_get (D := D) (ci := 12) (v := .ref h11) (C := RX12) (T := TX12) (N := 24) hx hb hts hin12 hown hK hP 0 rfl rfl 18 (by decide) (hts (.fieldLink RX12 44 "MissedPointsModel" "items" "[I") (by decide +kernel)) (fun _ h9 => h9) rfl dX12_sheet_76 ?_
                                                                                                  refine lv_bipush (v := 40) hx hb dX12_sheet_79 (by decide) ?_
                                                                                                  refine lv_iload_n hx hb dX12_sheet_81 rfl (lv_at hl 2 rfl) ?_
                                                                                                  refine lv_imul hx hb dX12_sheet_82 ?_
                                                                                                  refine lz_top (y := 120) (by decide) ?_
                                                                                                  refine lv_iload hx hb dX12_sheet_83 (lv_at hl 0 rfl) ?_
                                                                                                  refine lv_iadd hx hb dX12_sheet_85 ?_
                                                                                                  refine lz_top (y := 153) (by decide) ?_
                                                                                                  refine lv_iconst (v := 0) hx hb dX12_sheet_86 (by decide) ?_
                                                                                                  refine lz_astc hx hb hK hP hD hS 11 0 rfl rfl (lz_vp (x := 153) (n := 160) (by decide) (by decide)) dX12_sheet_87 (fun H locs hP hD hS => ?_)
                                                                                                  refine lv_iinc (v := 34) (lv' := [(4, .int 34), (0, .ref h0), (1, .int 3), (2, .int x1), (3, .int x2)]) hx hb dX12_sheet_88 hl (k := 0) rfl (by decide) (by decide) rfl (fun ls hl => ?_)
                                                                                                  refine lv_goto (tgt := 68) hx hb dX12_sheet_91 (by decide) ?_
                                                                                                  refine lv_iload hx hb dX12_sheet_68 (lv_at hl 0 rfl) ?_
                                                                                                  refine lv_bipush (v := 40) hx hb dX12_sheet_70 (by decide) ?_
                                                                                                  refine lv_icmp_ge (tgt := 94) hx hb dX12_sheet_72 (by decide) (fun c1220 => ?_) (fun c1220 => ?_)
                                                                                                  · exact absurd c1220 (by decide)
                                                                                                  · refine lv_aload_n hx hb dX12_sheet_75 rfl (lv_at hl 1 rfl) ?_
                                                                                                    refine va_get (D := D) (ci := 12) (v := .ref h11) (C := RX12) (T := TX12) (N := 24) hx hb hts hin12 hown hK hP 0 rfl rfl 18 (by decide) (hts (.fieldLink RX12 44 "MissedPointsModel" "items" "[I") (by decide +kernel)) (fun _ h9 => h9) rfl dX12_sheet_76 ?_
                                                                                                    refine lv_bipush (v := 40) hx hb dX12_sheet_79 (by decide) ?_
                                                                                                    refine lv_iload_n hx hb dX12_sheet_81 rfl (lv_at hl 2 rfl) ?_
                                                                                                    refine lv_imul hx hb dX12_sheet_82 ?_
                                                                                                    refine lz_top (y := 120) (by decide) ?_
                                                                                                    refine lv_iload hx hb dX12_sheet_83 (lv_at hl 0 rfl) ?_
                                                                                                    refine lv_iadd hx hb dX12_sheet_85 ?_
                                                                                                    refine lz_top (y := 154) (by decide) ?_
                                                                                                    refine lv_iconst (v := 0) hx hb dX12_sheet_86 (by decide) ?_
                                                                                                    refine lz_astc hx hb hK hP hD hS 11 0 rfl rfl (lz_vp (x := 154) (n := 160) (by decide) (by decide)) dX12_sheet_87 (fun H locs hP hD hS => ?_)
                                                                                                    refine lv_iinc (v := 35) (lv' := [(4, .int 35), (0, .ref h0), (1, .int 3), (2, .int x1), (3, .int x2)]) hx hb dX12_sheet_88 hl (k := 0) rfl (by decide) (by decide) rfl (fun ls hl => ?_)
                                                                                                    refine lv_goto (tgt := 68) hx hb dX12_sheet_91 (by decide) ?_
                                                                                                    refine lv_iload hx hb dX12_sheet_68 (lv_at hl 0 rfl) ?_
                                                                                                    refine lv_bipush (v := 40) hx hb dX12_sheet_70 (by decide) ?_
                                                                                                    refine lv_icmp_ge (tgt := 94) hx hb dX12_sheet_72 (by decide) (fun c1221 => ?_) (fun c1221 => ?_)
                                                                                                    · exact absurd c1221 (by decide)
                                                                                                    · refine lv_aload_n hx hb dX12_sheet_75 rfl (lv_at hl 1 rfl) ?_
                                                                                                      refine va_get (D := D) (ci := 12) (v := .ref h11) (C := RX12) (T := TX12) (N := 24) hx hb hts hin12 hown hK hP 0 rfl rfl 18 (by decide) (hts (.fieldLink RX12 44 "MissedPointsModel" "items" "[I") (by decide +kernel)) (fun _ h9 => h9) rfl dX12_sheet_76 ?_
                                                                                                      refine lv_bipush (v := 40) hx hb dX12_sheet_79 (by decide) ?_
                                                                                                      refine lv_iload_n hx hb dX12_sheet_81 rfl (lv_at hl 2 rfl) ?_
                                                                                                      refine lv_imul hx hb dX12_sheet_82 ?_
                                                                                                      refine lz_top (y := 120) (by decide) ?_
                                                                                                      refine lv_iload hx hb dX12_sheet_83 (lv_at hl 0 rfl) ?_
                                                                                                      refine lv_iadd hx hb dX12_sheet_85 ?_
                                                                                                      refine lz_top (y := 155) (by decide) ?_
                                                                                                      refine lv_iconst (v := 0) hx hb dX12_sheet_86 (by decide) ?_
                                                                                                      refine lz_astc hx hb hK hP hD hS 11 0 rfl rfl (lz_vp (x := 155) (n := 160) (by decide) (by decide)) dX12_sheet_87 (fun H locs hP hD hS => ?_)
                                                                                                      refine lv_iinc (v := 36) (lv' := [(4, .int 36), (0, .ref h0), (1, .int 3), (2, .int x1), (3, .int x2)]) hx hb dX12_sheet_88 hl (k := 0) rfl (by decide) (by decide) rfl (fun ls hl => ?_)
                                                                                                      refine lv_goto (tgt := 68) hx hb dX12_sheet_91 (by decide) ?_
                                                                                                      refine lv_iload hx hb dX12_sheet_68 (lv_at hl 0 rfl) ?_
                                                                                                      refine lv_bipush (v := 40) hx hb dX12_sheet_70 (by decide) ?_
                                                                                                      refine lv_icmp_ge (tgt := 94) hx hb dX12_sheet_72 (by decide) (fun c1222 => ?_) (fun c1222 => ?_)
                                                                                                      · exact absurd c1222 (by decide)
                                                                                                      · refine lv_aload_n hx hb dX12_sheet_75 rfl (lv_at hl 1 rfl) ?_
                                                                                                        refine va_get (D := D) (ci := 12) (v := .ref h11) (C := RX12) (T := TX12) (N := 24) hx hb hts hin12 hown hK hP 0 rfl rfl 18 (by decide) (hts (.fieldLink RX12 44 "MissedPointsModel" "items" "[I") (by decide +kernel)) (fun _ h9 => h9) rfl dX12_sheet_76 ?_
                                                                                                        refine lv_bipush (v := 40) hx hb dX12_sheet_79 (by decide) ?_
                                                                                                        refine lv_iload_n hx hb dX12_sheet_81 rfl (lv_at hl 2 rfl) ?_
                                                                                                        refine lv_imul hx hb dX12_sheet_82 ?_
                                                                                                        refine lz_top (y := 120) (by decide) ?_
                                                                                                        refine lv_iload hx hb dX12_sheet_83 (lv_at hl 0 rfl) ?_
                                                                                                        refine lv_iadd hx hb dX12_sheet_85 ?_
                                                                                                        refine lz_top (y := 156) (by decide) ?_
                                                                                                        refine lv_iconst (v := 0) hx hb dX12_sheet_86 (by decide) ?_
                                                                                                        refine lz_astc hx hb hK hP hD hS 11 0 rfl rfl (lz_vp (x := 156) (n := 160) (by decide) (by decide)) dX12_sheet_87 (fun H locs hP hD hS => ?_)
                                                                                                        refine lv_iinc (v := 37) (lv' := [(4, .int 37), (0, .ref h0), (1, .int 3), (2, .int x1), (3, .int x2)]) hx hb dX12_sheet_88 hl (k := 0) rfl (by decide) (by decide) rfl (fun ls hl => ?_)
                                                                                                        refine lv_goto (tgt := 68) hx hb dX12_sheet_91 (by decide) ?_
                                                                                                        refine lv_iload hx hb dX12_sheet_68 (lv_at hl 0 rfl) ?_
                                                                                                        refine lv_bipush (v := 40) hx hb dX12_sheet_70 (by decide) ?_
                                                                                                        refine lv_icmp_ge (tgt := 94) hx hb dX12_sheet_72 (by decide) (fun c1223 => ?_) (fun c1223 => ?_)
                                                                                                        · exact absurd c1223 (by decide)
                                                                                                        · refine lv_aload_n hx hb dX12_sheet_75 rfl (lv_at hl 1 rfl) ?_
                                                                                                          refine va_get (D := D) (ci := 12) (v := .ref h11) (C := RX12) (T := TX12) (N := 24) hx hb hts hin12 hown hK hP 0 rfl rfl 18 (by decide) (hts (.fieldLink RX12 44 "MissedPointsModel" "items" "[I") (by decide +kernel)) (fun _ h9 => h9) rfl dX12_sheet_76 ?_
                                                                                                          refine lv_bipush (v := 40) hx hb dX12_sheet_79 (by decide) ?_
                                                                                                          refine lv_iload_n hx hb dX12_sheet_81 rfl (lv_at hl 2 rfl) ?_
                                                                                                          refine lv_imul hx hb dX12_sheet_82 ?_
                                                                                                          refine lz_top (y := 120) (by decide) ?_
                                                                                                          refine lv_iload hx hb dX12_sheet_83 (lv_at hl 0 rfl) ?_
                                                                                                          refine lv_iadd hx hb dX12_sheet_85 ?_
                                                                                                          refine lz_top (y := 157) (by decide) ?_
                                                                                                          refine lv_iconst (v := 0) hx hb dX12_sheet_86 (by decide) ?_
                                                                                                          refine lz_astc hx hb hK hP hD hS 11 0 rfl rfl (lz_vp (x := 157) (n := 160) (by decide) (by decide)) dX12_sheet_87 (fun H locs hP hD hS => ?_)
                                                                                                          refine lv_iinc (v := 38) (lv' := [(4, .int 38), (0, .ref h0), (1, .int 3), (2, .int x1), (3, .int x2)]) hx hb dX12_sheet_88 hl (k := 0) rfl (by decide) (by decide) rfl (fun ls hl => ?_)
                                                                                                          refine lv_goto (tgt := 68) hx hb dX12_sheet_91 (by decide) ?_
                                                                                                          refine lv_iload hx hb dX12_sheet_68 (lv_at hl 0 rfl) ?_
                                                                                                          refine lv_bipush (v := 40) hx hb dX12_sheet_70 (by decide) ?_
                                                                                                          refine lv_icmp_ge (tgt := 94) hx hb dX12_sheet_72 (by decide) (fun c1224 => ?_) (fun c1224 => ?_)
                                                                                                          · exact absurd c1224 (by decide)
                                                                                                          · refine lv_aload_n hx hb dX12_sheet_75 rfl (lv_at hl 1 rfl) ?_
                                                                                                            refine va_get (D := D) (ci := 12) (v := .ref h11) (C := RX12) (T := TX12) (N := 24) hx hb hts hin12 hown hK hP 0 rfl rfl 18 (by decide) (hts (.fieldLink RX12 44 "MissedPointsModel" "items" "[I") (by decide +kernel)) (fun _ h9 => h9) rfl dX12_sheet_76 ?_
                                                                                                            refine lv_bipush (v := 40) hx hb dX12_sheet_79 (by decide) ?_
                                                                                                            refine lv_iload_n hx hb dX12_sheet_81 rfl (lv_at hl 2 rfl) ?_
                                                                                                            refine lv_imul hx hb dX12_sheet_82 ?_
                                                                                                            refine lz_top (y := 120) (by decide) ?_
                                                                                                            refine lv_iload hx hb dX12_sheet_83 (lv_at hl 0 rfl) ?_
                                                                                                            refine lv_iadd hx hb dX12_sheet_85 ?_
                                                                                                            refine lz_top (y := 158) (by decide) ?_
                                                                                                            refine lv_iconst (v := 0) hx hb dX12_sheet_86 (by decide) ?_
                                                                                                            refine lz_astc hx hb hK hP hD hS 11 0 rfl rfl (lz_vp (x := 158) (n := 160) (by decide) (by decide)) dX12_sheet_87 (fun H locs hP hD hS => ?_)
                                                                                                            refine lv_iinc (v := 39) (lv' := [(4, .int 39), (0, .ref h0), (1, .int 3), (2, .int x1), (3, .int x2)]) hx hb dX12_sheet_88 hl (k := 0) rfl (by decide) (by decide) rfl (fun ls hl => ?_)
                                                                                                            refine lv_goto (tgt := 68) hx hb dX12_sheet_91 (by decide) ?_
                                                                                                            refine lv_iload hx hb dX12_sheet_68 (lv_at hl 0 rfl) ?_
                                                                                                            refine lv_bipush (v := 40) hx hb dX12_sheet_70 (by decide) ?_
                                                                                                            refine lv_icmp_ge (tgt := 94) hx hb dX12_sheet_72 (by decide) (fun c1225 => ?_) (fun c1225 => ?_)
                                                                                                            · exact absurd c1225 (by decide)
                                                                                                            · refine lv_aload_n hx hb dX12_sheet_75 rfl (lv_at hl 1 rfl) ?_
                                                                                                              refine va_get (D := D) (ci := 12) (v := .ref h11) (C := RX12) (T := TX12) (N := 24) hx hb hts hin12 hown hK hP 0 rfl rfl 18 (by decide) (hts (.fieldLink RX12 44 "MissedPointsModel" "items" "[I") (by decide +kernel)) (fun _ h9 => h9) rfl dX12_sheet_76 ?_
                                                                                                              refine lv_bipush (v := 40) hx hb dX12_sheet_79 (by decide) ?_
                                                                                                              refine lv_iload_n hx hb dX12_sheet_81 rfl (lv_at hl 2 rfl) ?_
                                                                                                              refine lv_imul hx hb dX12_sheet_82 ?_
                                                                                                              refine lz_top (y := 120) (by decide) ?_
                                                                                                              refine lv_iload hx hb dX12_sheet_83 (lv_at hl 0 rfl) ?_
                                                                                                              refine lv_iadd hx hb dX12_sheet_85 ?_
                                                                                                              refine lz_top (y := 159) (by decide) ?_
                                                                                                              refine lv_iconst (v := 0) hx hb dX12_sheet_86 (by decide) ?_
                                                                                                              refine lz_astc hx hb hK hP hD hS 11 0 rfl rfl (lz_vp (x := 159) (n := 160) (by decide) (by decide)) dX12_sheet_87 (fun H locs hP hD hS => ?_)
                                                                                                              refine lv_iinc (v := 40) (lv' := [(4, .int 40), (0, .ref h0), (1, .int 3), (2, .int x1), (3, .int x2)]) hx hb dX12_sheet_88 hl (k := 0) rfl (by decide) (by decide) rfl (fun ls hl => ?_)
                                                                                                              refine lv_goto (tgt := 68) hx hb dX12_sheet_91 (by decide) ?_
                                                                                                              refine lv_iload hx hb dX12_sheet_68 (lv_at hl 0 rfl) ?_
                                                                                                              refine lv_bipush (v := 40) hx hb dX12_sheet_70 (by decide) ?_
                                                                                                              refine lv_icmp_ge (tgt := 94) hx hb dX12_sheet_72 (by decide) (fun c1226 => ?_) (fun c1226 => ?_)
                                                                                                              · refine lv_iconst (v := 1) hx hb dX12_sheet_94 (by decide) ?_
                                                                                                                have hP9 := hP.sub (ws' := []) [] rfl
                                                                                                                have hD9 := hD.sub (ws' := []) [] (by decide) rfl
                                                                                                                subst hAe
                                                                                                                exact W.iret (v := 1) hx hb hr (fun t ht hW => ⟨⟨_, (), rfl, by rw [if_neg k867, if_neg k869, if_neg k875, if_neg k877, if_neg c880, if_pos c1053, if_pos c1055], by rw [ht]; exact hP9, hD9⟩, hS.F ht⟩) hS.2.2 dX12_sheet_95
                                                                                                              · exact absurd c1226 (by decide)
                            · exact absurd c1185 c880
                    · refine lv_bipush (v := (-14)) hx hb dX12_sheet_39 (by decide) ?_
                      have hP9 := hP.sub (ws' := []) [] rfl
                      have hD9 := hD.sub (ws' := []) [] (by decide) rfl
                      subst hAe
                      exact W.iret (v := (-14)) hx hb hr (fun t ht hW => ⟨⟨_, (), rfl, by rw [if_neg k867, if_neg k869, if_neg k875, if_neg k877, if_neg c880, if_pos c1053, if_neg c1055], by rw [ht]; exact hP9, hD9⟩, hS.F ht⟩) hS.2.2 dX12_sheet_41
                · refine lv_bipush (v := (-2)) hx hb dX12_sheet_27 (by decide) ?_
                  have hP9 := hP.sub (ws' := []) [] rfl
                  have hD9 := hD.sub (ws' := []) [] (by decide) rfl
                  subst hAe
                  exact W.iret (v := (-2)) hx hb hr (fun t ht hW => ⟨⟨_, (), rfl, by rw [if_neg k867, if_neg k869, if_neg k875, if_neg k877, if_neg c880, if_neg c1053], by rw [ht]; exact hP9, hD9⟩, hS.F ht⟩) hS.2.2 dX12_sheet_29
