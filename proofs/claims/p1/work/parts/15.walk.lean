set_option maxRecDepth 20000 in
theorem ggX12_sheet_X12_in : GoodIn wsX12_sheet wsX12_in := goodIn_r _ [10] (by decide +kernel) (by decide +kernel)
set_option maxRecDepth 20000 in
theorem gX12_sheet_X12_in : GoodIn wsX12_sheet (va_wsS RX12 66 yX12_in wsX12_in) := goodIn_app (goodIn_of _ (by decide +kernel)) ggX12_sheet_X12_in
set_option maxRecDepth 20000 in
theorem ggX12_sheet_X12_isSheet : GoodIn wsX12_sheet wsX12_isSheet := goodIn_r _ [7, 8, 9, 6, 10] (by decide +kernel) (by decide +kernel)
set_option maxRecDepth 20000 in
theorem gX12_sheet_X12_isSheet : GoodIn wsX12_sheet (va_wsS RX12 157 yX12_isSheet wsX12_isSheet) := goodIn_app (goodIn_of _ (by decide +kernel)) ggX12_sheet_X12_isSheet
theorem dX12_sheet_0 : decode cX12_sheet 0 = .ok (.iload_n 1, 1) := by decide +kernel
theorem dX12_sheet_1 : decode cX12_sheet 1 = .ok (.invokestatic 157, 3) := by decide +kernel
theorem dX12_sheet_10 : decode cX12_sheet 10 = .ok (.invokestatic 66, 3) := by decide +kernel
theorem dX12_sheet_13 : decode cX12_sheet 13 = .ok (.ifCond .eq 14, 3) := by decide +kernel
theorem dX12_sheet_16 : decode cX12_sheet 16 = .ok (.iload_n 2, 1) := by decide +kernel
theorem dX12_sheet_17 : decode cX12_sheet 17 = .ok (.iconst (-1), 1) := by decide +kernel
theorem dX12_sheet_18 : decode cX12_sheet 18 = .ok (.if_icmp .eq 12, 3) := by decide +kernel
theorem dX12_sheet_21 : decode cX12_sheet 21 = .ok (.iload_n 3, 1) := by decide +kernel
theorem dX12_sheet_22 : decode cX12_sheet 22 = .ok (.bipush 40, 2) := by decide +kernel
theorem dX12_sheet_24 : decode cX12_sheet 24 = .ok (.if_icmp .le 6, 3) := by decide +kernel
theorem dX12_sheet_27 : decode cX12_sheet 27 = .ok (.bipush (-2), 2) := by decide +kernel
theorem dX12_sheet_29 : decode cX12_sheet 29 = .ok (.ireturn, 1) := by decide +kernel
theorem dX12_sheet_30 : decode cX12_sheet 30 = .ok (.iload_n 2, 1) := by decide +kernel
theorem dX12_sheet_31 : decode cX12_sheet 31 = .ok (.iconst (-1), 1) := by decide +kernel
theorem dX12_sheet_32 : decode cX12_sheet 32 = .ok (.if_icmp .eq 10, 3) := by decide +kernel
theorem dX12_sheet_35 : decode cX12_sheet 35 = .ok (.iload_n 3, 1) := by decide +kernel
theorem dX12_sheet_36 : decode cX12_sheet 36 = .ok (.ifCond .ge 6, 3) := by decide +kernel
theorem dX12_sheet_39 : decode cX12_sheet 39 = .ok (.bipush (-14), 2) := by decide +kernel
theorem dX12_sheet_4 : decode cX12_sheet 4 = .ok (.ifCond .eq 23, 3) := by decide +kernel
theorem dX12_sheet_41 : decode cX12_sheet 41 = .ok (.ireturn, 1) := by decide +kernel
theorem dX12_sheet_42 : decode cX12_sheet 42 = .ok (.aload_n 0, 1) := by decide +kernel
theorem dX12_sheet_43 : decode cX12_sheet 43 = .ok (.getfield 38, 3) := by decide +kernel
theorem dX12_sheet_46 : decode cX12_sheet 46 = .ok (.iload_n 1, 1) := by decide +kernel
theorem dX12_sheet_47 : decode cX12_sheet 47 = .ok (.iload_n 2, 1) := by decide +kernel
theorem dX12_sheet_48 : decode cX12_sheet 48 = .ok (.iastore, 1) := by decide +kernel
theorem dX12_sheet_49 : decode cX12_sheet 49 = .ok (.aload_n 0, 1) := by decide +kernel
theorem dX12_sheet_50 : decode cX12_sheet 50 = .ok (.getfield 41, 3) := by decide +kernel
theorem dX12_sheet_53 : decode cX12_sheet 53 = .ok (.iload_n 1, 1) := by decide +kernel
theorem dX12_sheet_54 : decode cX12_sheet 54 = .ok (.iload_n 2, 1) := by decide +kernel
theorem dX12_sheet_55 : decode cX12_sheet 55 = .ok (.iconst (-1), 1) := by decide +kernel
theorem dX12_sheet_56 : decode cX12_sheet 56 = .ok (.if_icmp .ne 7, 3) := by decide +kernel
theorem dX12_sheet_59 : decode cX12_sheet 59 = .ok (.iconst 0, 1) := by decide +kernel
theorem dX12_sheet_60 : decode cX12_sheet 60 = .ok (.goto 4, 3) := by decide +kernel
theorem dX12_sheet_63 : decode cX12_sheet 63 = .ok (.iload_n 3, 1) := by decide +kernel
theorem dX12_sheet_64 : decode cX12_sheet 64 = .ok (.iastore, 1) := by decide +kernel
theorem dX12_sheet_65 : decode cX12_sheet 65 = .ok (.iconst 0, 1) := by decide +kernel
theorem dX12_sheet_66 : decode cX12_sheet 66 = .ok (.istore 4, 2) := by decide +kernel
theorem dX12_sheet_68 : decode cX12_sheet 68 = .ok (.iload 4, 2) := by decide +kernel
theorem dX12_sheet_7 : decode cX12_sheet 7 = .ok (.iload_n 2, 1) := by decide +kernel
theorem dX12_sheet_70 : decode cX12_sheet 70 = .ok (.bipush 40, 2) := by decide +kernel
theorem dX12_sheet_72 : decode cX12_sheet 72 = .ok (.if_icmp .ge 22, 3) := by decide +kernel
theorem dX12_sheet_75 : decode cX12_sheet 75 = .ok (.aload_n 0, 1) := by decide +kernel
theorem dX12_sheet_76 : decode cX12_sheet 76 = .ok (.getfield 44, 3) := by decide +kernel
theorem dX12_sheet_79 : decode cX12_sheet 79 = .ok (.bipush 40, 2) := by decide +kernel
theorem dX12_sheet_8 : decode cX12_sheet 8 = .ok (.iconst (-1), 1) := by decide +kernel
theorem dX12_sheet_81 : decode cX12_sheet 81 = .ok (.iload_n 1, 1) := by decide +kernel
theorem dX12_sheet_82 : decode cX12_sheet 82 = .ok (.imul, 1) := by decide +kernel
theorem dX12_sheet_83 : decode cX12_sheet 83 = .ok (.iload 4, 2) := by decide +kernel
theorem dX12_sheet_85 : decode cX12_sheet 85 = .ok (.iadd, 1) := by decide +kernel
theorem dX12_sheet_86 : decode cX12_sheet 86 = .ok (.iconst 0, 1) := by decide +kernel
theorem dX12_sheet_87 : decode cX12_sheet 87 = .ok (.iastore, 1) := by decide +kernel
theorem dX12_sheet_88 : decode cX12_sheet 88 = .ok (.iinc 4 1, 3) := by decide +kernel
theorem dX12_sheet_9 : decode cX12_sheet 9 = .ok (.iconst 1, 1) := by decide +kernel
theorem dX12_sheet_91 : decode cX12_sheet 91 = .ok (.goto (-23), 3) := by decide +kernel
theorem dX12_sheet_94 : decode cX12_sheet 94 = .ok (.iconst 1, 1) := by decide +kernel
theorem dX12_sheet_95 : decode cX12_sheet 95 = .ok (.ireturn, 1) := by decide +kernel
set_option maxHeartbeats 4000000 in
set_option maxRecDepth 100000 in
theorem c_X12_sheet_0 (l : Launch) (D : va_G) (cI cS : ClassId) (sz : Nat) (h0 h1 h2 h3 h4 h5 h6 h7 h8 h9 h10 h11 h12 h13 h14 h15 : Nat) (x0 x1 x2 : Int32) : Met l yX12_sheet wsX12_sheet ({ frames := 2, cells := 0, slots := 0, locals := 80 }) (PQ D cI cS [(h0, .inr (12, [.int 0, .int 1, .ref h1, .ref h2, .ref h3, .ref h4, .ref h5, .ref h6, .ref h7, .ref h8, .int 0, .int 0, .int 0, .int 0, .int 0, .int 0, .ref h9, .ref h10, .ref h11, .ref h12, .ref h13, .ref h14, .ref h15, .int 0])), (h9, .inl (cI, 4, .inl (fun _ => -1))), (h10, .inl (cI, 4, .inl (fun _ => 0))), (h11, .inl (cI, 160, .inl (fun _ => 0)))] sz [.ref h0, .int x0, .int x1, .int x2]) (QI D [(h0, .inr (12, [.int 0, .int 1, .ref h1, .ref h2, .ref h3, .ref h4, .ref h5, .ref h6, .ref h7, .ref h8, .int 0, .int 0, .int 0, .int 0, .int 0, .int 0, .ref h9, .ref h10, .ref h11, .ref h12, .ref h13, .ref h14, .ref h15, .int 0])), (h9, .inl (cI, 4, .inl (fun _ => -1))), (h10, .inl (cI, 4, .inl (fun _ => 0))), (h11, .inl (cI, 160, .inl (fun _ => 0)))] [] sz (fun r => r = if x0 < 0 then ((-2) : Int32) else (if (3 : Int32) < x0 then ((-2) : Int32) else (if x1 < (-1) then ((-2) : Int32) else (if (1 : Int32) < x1 then ((-2) : Int32) else (if x1 = (-1) then (1 : Int32) else (if x2 ≤ 40 then (if (0 : Int32) ≤ x2 then (1 : Int32) else ((-14) : Int32)) else ((-2) : Int32)))))))) 0 0 (va_A [(h0, .inr (12, [.int 0, .int 1, .ref h1, .ref h2, .ref h3, .ref h4, .ref h5, .ref h6, .ref h7, .ref h8, .int 0, .int 0, .int 0, .int 0, .int 0, .int 0, .ref h9, .ref h10, .ref h11, .ref h12, .ref h13, .ref h14, .ref h15, .int 0])), (h9, .inl (cI, 4, .inl (fun _ => -1))), (h10, .inl (cI, 4, .inl (fun _ => 0))), (h11, .inl (cI, 160, .inl (fun _ => 0)))] sz) := by
  refine Met.ofW (cc := cX12_sheet) (maxL := 5) (ret := (some .int)) (by decide) rfl ?_
  intro p e s m args below meth c s₁ B hml hv
  obtain ⟨rfl, hsz, hP, hKK, hD0⟩ := hv
  have hx := B.exec
  have hb := B.bytes
  have hr := B.returns
  have hts := atoms_spec (ws := wsX12_sheet) B.pre
  have hown : s.vm.findClass RX12 = some m.cls := findClass_of_methodNamed B.named
  have hlocks := B.notSynchronized
  have hK := hKK.1
  have hN := hKK.2
  have hin12 : ∀ w ∈ wsX120, w ∈ wsX12_sheet := by decide +kernel
  subst hsz
  have hD := hD0.self (sz := s.heap.size)
  obtain ⟨A, hAe⟩ : ∃ A, A = va_A [(h0, .inr (12, [.int 0, .int 1, .ref h1, .ref h2, .ref h3, .ref h4, .ref h5, .ref h6, .ref h7, .ref h8, .int 0, .int 0, .int 0, .int 0, .int 0, .int 0, .ref h9, .ref h10, .ref h11, .ref h12, .ref h13, .ref h14, .ref h15, .int 0])), (h9, .inl (cI, 4, .inl (fun _ => -1))), (h10, .inl (cI, 4, .inl (fun _ => 0))), (h11, .inl (cI, 160, .inl (fun _ => 0)))] s.heap.size := ⟨_, rfl⟩
  rw [← hAe] at hD
  have hA : ∀ q : Nat, s.heap.size ≤ q → A q := fun q h => by rw [hAe]; exact Or.inr h
  have hS : va_S A s.heap s.heap [] := va_S.rf
  have hl := lv_entry ([.ref h0, .int x0, .int x1, .int x2]) (n := 5) (Nat.le_of_ble_eq_true rfl)
  rw [lg_entry_eq]
  generalize (lg_sl ([.ref h0, .int x0, .int x1, .int x2]) ++ List.replicate (5 - (lg_sl ([.ref h0, .int x0, .int x1, .int x2])).length) Slot.unset).toArray = ls at hl ⊢
  have hl : lv_has ls 5 [(0, .ref h0), (1, .int x0), (2, .int x1), (3, .int x2)] := hl
  refine lv_iload_n hx hb dX12_sheet_0 rfl (lv_at hl 1 rfl) ?_
  have hPc := hP.sub (ws' := []) [] rfl
  refine lz_ss (As := [.int x0]) (rest := []) ⟨hx, hb, hml, hown, hts⟩ (c_X12_isSheet_0 l D cI cS x0) hKK hPc (va_cwS 1 hts gX12_sheet_X12_isSheet rfl rfl rfl (by decide +kernel) ⟨Nat.le_of_ble_eq_true rfl, Nat.le_of_ble_eq_true rfl⟩) rfl hl.1 rfl (Nat.le_of_ble_eq_true rfl) dX12_sheet_1 ⟨Nat.le_of_ble_eq_true rfl, Nat.le_of_ble_eq_true rfl⟩ (fun r2094 hw => ?_)
  by_cases k2095 : x0 < 0
  · rw [if_pos k2095] at hw
    subst hw
    refine lv_if_eq (tgt := 27) hx hb dX12_sheet_4 (by decide) (fun c2096 => ?_) (fun c2096 => ?_)
    · refine lv_bipush (v := (-2)) hx hb dX12_sheet_27 (by decide) ?_
      have hP9 := hP.sub (ws' := []) [] rfl
      have hD9 := hD.sub (ws' := []) [] (by decide) rfl
      subst hAe
      exact W.iret (v := (-2)) hx hb hr (fun t ht hW => ⟨⟨_, (), rfl, by rw [if_pos k2095], by rw [ht]; exact hP9, hD9⟩, hS.F ht⟩) hS.2.2 dX12_sheet_29
    · exact absurd c2096 (by decide)
  · rw [if_neg k2095] at hw
    by_cases k2097 : (3 : Int32) < x0
    · rw [if_pos k2097] at hw
      subst hw
      refine lv_if_eq (tgt := 27) hx hb dX12_sheet_4 (by decide) (fun c2098 => ?_) (fun c2098 => ?_)
      · refine lv_bipush (v := (-2)) hx hb dX12_sheet_27 (by decide) ?_
        have hP9 := hP.sub (ws' := []) [] rfl
        have hD9 := hD.sub (ws' := []) [] (by decide) rfl
        subst hAe
        exact W.iret (v := (-2)) hx hb hr (fun t ht hW => ⟨⟨_, (), rfl, by rw [if_neg k2095, if_pos k2097], by rw [ht]; exact hP9, hD9⟩, hS.F ht⟩) hS.2.2 dX12_sheet_29
      · exact absurd c2098 (by decide)
    · rw [if_neg k2097] at hw
      subst hw
      refine lv_if_eq (tgt := 27) hx hb dX12_sheet_4 (by decide) (fun c2099 => ?_) (fun c2099 => ?_)
      · exact absurd c2099 (by decide)
      · refine lv_iload_n hx hb dX12_sheet_7 rfl (lv_at hl 2 rfl) ?_
        refine lv_iconst (v := (-1)) hx hb dX12_sheet_8 (by decide) ?_
        refine lv_iconst (v := 1) hx hb dX12_sheet_9 (by decide) ?_
        have hPc := hP.sub (ws' := []) [] rfl
        refine lz_ss (As := [.int x1, .int (-1), .int 1]) (rest := []) ⟨hx, hb, hml, hown, hts⟩ (c_X12_in_13 l D cI cS x1) hKK hPc (va_cwS 3 hts gX12_sheet_X12_in rfl rfl rfl (by decide +kernel) ⟨Nat.le_of_ble_eq_true rfl, Nat.le_of_ble_eq_true rfl⟩) rfl hl.1 rfl (Nat.le_of_ble_eq_true rfl) dX12_sheet_10 ⟨Nat.le_of_ble_eq_true rfl, Nat.le_of_ble_eq_true rfl⟩ (fun r2100 hw => ?_)
        by_cases k2101 : x1 < (-1)
        · rw [if_pos k2101] at hw
          subst hw
          refine lv_if_eq (tgt := 27) hx hb dX12_sheet_13 (by decide) (fun c2102 => ?_) (fun c2102 => ?_)
          · refine lv_bipush (v := (-2)) hx hb dX12_sheet_27 (by decide) ?_
            have hP9 := hP.sub (ws' := []) [] rfl
            have hD9 := hD.sub (ws' := []) [] (by decide) rfl
            subst hAe
            exact W.iret (v := (-2)) hx hb hr (fun t ht hW => ⟨⟨_, (), rfl, by rw [if_neg k2095, if_neg k2097, if_pos k2101], by rw [ht]; exact hP9, hD9⟩, hS.F ht⟩) hS.2.2 dX12_sheet_29
          · exact absurd c2102 (by decide)
        · rw [if_neg k2101] at hw
          by_cases k2103 : (1 : Int32) < x1
          · rw [if_pos k2103] at hw
            subst hw
            refine lv_if_eq (tgt := 27) hx hb dX12_sheet_13 (by decide) (fun c2104 => ?_) (fun c2104 => ?_)
            · refine lv_bipush (v := (-2)) hx hb dX12_sheet_27 (by decide) ?_
              have hP9 := hP.sub (ws' := []) [] rfl
              have hD9 := hD.sub (ws' := []) [] (by decide) rfl
              subst hAe
              exact W.iret (v := (-2)) hx hb hr (fun t ht hW => ⟨⟨_, (), rfl, by rw [if_neg k2095, if_neg k2097, if_neg k2101, if_pos k2103], by rw [ht]; exact hP9, hD9⟩, hS.F ht⟩) hS.2.2 dX12_sheet_29
            · exact absurd c2104 (by decide)
          · rw [if_neg k2103] at hw
            subst hw
            refine lv_if_eq (tgt := 27) hx hb dX12_sheet_13 (by decide) (fun c2105 => ?_) (fun c2105 => ?_)
            · exact absurd c2105 (by decide)
            · refine lv_iload_n hx hb dX12_sheet_16 rfl (lv_at hl 2 rfl) ?_
              refine lv_iconst (v := (-1)) hx hb dX12_sheet_17 (by decide) ?_
              refine lv_icmp_eq (tgt := 30) hx hb dX12_sheet_18 (by decide) (fun c2106 => ?_) (fun c2106 => ?_)
              · subst c2106
                refine lv_iload_n hx hb dX12_sheet_30 rfl (lv_at hl 2 rfl) ?_
                refine lv_iconst (v := (-1)) hx hb dX12_sheet_31 (by decide) ?_
                refine lv_icmp_eq (tgt := 42) hx hb dX12_sheet_32 (by decide) (fun c2107 => ?_) (fun c2107 => ?_)
                · by_cases k2108 : x0 = 0
                  · subst k2108
                    refine lv_aload_n hx hb dX12_sheet_42 rfl (lv_at hl 0 rfl) ?_
                    refine va_get (D := D) (ci := 12) (v := .ref h9) (C := RX12) (T := TX12) (N := 24) hx hb hts hin12 hown hK hP 0 rfl rfl 16 (by decide) (hts (.fieldLink RX12 38 "MissedPointsModel" "sort" "[I") (by decide +kernel)) (fun _ h9 => h9) rfl dX12_sheet_43 ?_
                    refine lv_iload_n hx hb dX12_sheet_46 rfl (lv_at hl 1 rfl) ?_
                    refine lv_iload_n hx hb dX12_sheet_47 rfl (lv_at hl 2 rfl) ?_
                    refine lz_astc hx hb hK hP hD hS 1 0 rfl rfl (lz_vp (x := 0) (n := 4) (by decide) (by decide)) dX12_sheet_48 (fun H locs hP hD hS => ?_)
                    refine lv_aload_n hx hb dX12_sheet_49 rfl (lv_at hl 0 rfl) ?_
                    refine va_get (D := D) (ci := 12) (v := .ref h10) (C := RX12) (T := TX12) (N := 24) hx hb hts hin12 hown hK hP 0 rfl rfl 17 (by decide) (hts (.fieldLink RX12 41 "MissedPointsModel" "size" "[I") (by decide +kernel)) (fun _ h9 => h9) rfl dX12_sheet_50 ?_
                    refine lv_iload_n hx hb dX12_sheet_53 rfl (lv_at hl 1 rfl) ?_
                    refine lv_iload_n hx hb dX12_sheet_54 rfl (lv_at hl 2 rfl) ?_
                    refine lv_iconst (v := (-1)) hx hb dX12_sheet_55 (by decide) ?_
                    refine lv_icmp_ne (tgt := 63) hx hb dX12_sheet_56 (by decide) (fun c2109 => ?_) (fun c2109 => ?_)
                    · exact absurd c2109 (by decide)
                    · refine lv_iconst (v := 0) hx hb dX12_sheet_59 (by decide) ?_
                      refine lv_goto (tgt := 64) hx hb dX12_sheet_60 (by decide) ?_
                      refine lz_astc hx hb hK hP hD hS 2 0 rfl rfl (lz_vp (x := 0) (n := 4) (by decide) (by decide)) dX12_sheet_64 (fun H locs hP hD hS => ?_)
                      refine lv_iconst (v := 0) hx hb dX12_sheet_65 (by decide) ?_
                      refine lv_istore (lv' := [(4, .int 0), (0, .ref h0), (1, .int 0), (2, .int (-1)), (3, .int x2)]) hx hb dX12_sheet_66 hl (by decide) rfl (fun ls hl => ?_)
                      refine lv_iload hx hb dX12_sheet_68 (lv_at hl 0 rfl) ?_
                      refine lv_bipush (v := 40) hx hb dX12_sheet_70 (by decide) ?_
                      refine lv_icmp_ge (tgt := 94) hx hb dX12_sheet_72 (by decide) (fun c2110 => ?_) (fun c2110 => ?_)
                      · exact absurd c2110 (by decide)
                      · refine lv_aload_n hx hb dX12_sheet_75 rfl (lv_at hl 1 rfl) ?_
                        refine va_get (D := D) (ci := 12) (v := .ref h11) (C := RX12) (T := TX12) (N := 24) hx hb hts hin12 hown hK hP 0 rfl rfl 18 (by decide) (hts (.fieldLink RX12 44 "MissedPointsModel" "items" "[I") (by decide +kernel)) (fun _ h9 => h9) rfl dX12_sheet_76 ?_
                        refine lv_bipush (v := 40) hx hb dX12_sheet_79 (by decide) ?_
                        refine lv_iload_n hx hb dX12_sheet_81 rfl (lv_at hl 2 rfl) ?_
                        refine lv_imul hx hb dX12_sheet_82 ?_
                        refine lz_top (y := 0) (by decide) ?_
                        refine lv_iload hx hb dX12_sheet_83 (lv_at hl 0 rfl) ?_
                        refine lv_iadd hx hb dX12_sheet_85 ?_
                        refine lz_top (y := 0) (by decide) ?_
                        refine lv_iconst (v := 0) hx hb dX12_sheet_86 (by decide) ?_
                        refine lz_astc hx hb hK hP hD hS 3 0 rfl rfl (lz_vp (x := 0) (n := 160) (by decide) (by decide)) dX12_sheet_87 (fun H locs hP hD hS => ?_)
                        refine lv_iinc (v := 1) (lv' := [(4, .int 1), (0, .ref h0), (1, .int 0), (2, .int (-1)), (3, .int x2)]) hx hb dX12_sheet_88 hl (k := 0) rfl (by decide) (by decide) rfl (fun ls hl => ?_)
                        refine lv_goto (tgt := 68) hx hb dX12_sheet_91 (by decide) ?_
                        refine lv_iload hx hb dX12_sheet_68 (lv_at hl 0 rfl) ?_
                        refine lv_bipush (v := 40) hx hb dX12_sheet_70 (by decide) ?_
                        refine lv_icmp_ge (tgt := 94) hx hb dX12_sheet_72 (by decide) (fun c2111 => ?_) (fun c2111 => ?_)
                        · exact absurd c2111 (by decide)
                        · refine lv_aload_n hx hb dX12_sheet_75 rfl (lv_at hl 1 rfl) ?_
                          refine va_get (D := D) (ci := 12) (v := .ref h11) (C := RX12) (T := TX12) (N := 24) hx hb hts hin12 hown hK hP 0 rfl rfl 18 (by decide) (hts (.fieldLink RX12 44 "MissedPointsModel" "items" "[I") (by decide +kernel)) (fun _ h9 => h9) rfl dX12_sheet_76 ?_
                          refine lv_bipush (v := 40) hx hb dX12_sheet_79 (by decide) ?_
                          refine lv_iload_n hx hb dX12_sheet_81 rfl (lv_at hl 2 rfl) ?_
                          refine lv_imul hx hb dX12_sheet_82 ?_
                          refine lz_top (y := 0) (by decide) ?_
                          refine lv_iload hx hb dX12_sheet_83 (lv_at hl 0 rfl) ?_
                          refine lv_iadd hx hb dX12_sheet_85 ?_
                          refine lz_top (y := 1) (by decide) ?_
                          refine lv_iconst (v := 0) hx hb dX12_sheet_86 (by decide) ?_
                          refine lz_astc hx hb hK hP hD hS 3 0 rfl rfl (lz_vp (x := 1) (n := 160) (by decide) (by decide)) dX12_sheet_87 (fun H locs hP hD hS => ?_)
                          refine lv_iinc (v := 2) (lv' := [(4, .int 2), (0, .ref h0), (1, .int 0), (2, .int (-1)), (3, .int x2)]) hx hb dX12_sheet_88 hl (k := 0) rfl (by decide) (by decide) rfl (fun ls hl => ?_)
                          refine lv_goto (tgt := 68) hx hb dX12_sheet_91 (by decide) ?_
                          refine lv_iload hx hb dX12_sheet_68 (lv_at hl 0 rfl) ?_
                          refine lv_bipush (v := 40) hx hb dX12_sheet_70 (by decide) ?_
                          refine lv_icmp_ge (tgt := 94) hx hb dX12_sheet_72 (by decide) (fun c2112 => ?_) (fun c2112 => ?_)
                          · exact absurd c2112 (by decide)
                          · refine lv_aload_n hx hb dX12_sheet_75 rfl (lv_at hl 1 rfl) ?_
                            refine va_get (D := D) (ci := 12) (v := .ref h11) (C := RX12) (T := TX12) (N := 24) hx hb hts hin12 hown hK hP 0 rfl rfl 18 (by decide) (hts (.fieldLink RX12 44 "MissedPointsModel" "items" "[I") (by decide +kernel)) (fun _ h9 => h9) rfl dX12_sheet_76 ?_
                            refine lv_bipush (v := 40) hx hb dX12_sheet_79 (by decide) ?_
                            refine lv_iload_n hx hb dX12_sheet_81 rfl (lv_at hl 2 rfl) ?_
                            refine lv_imul hx hb dX12_sheet_82 ?_
                            refine lz_top (y := 0) (by decide) ?_
                            refine lv_iload hx hb dX12_sheet_83 (lv_at hl 0 rfl) ?_
                            refine lv_iadd hx hb dX12_sheet_85 ?_
                            refine lz_top (y := 2) (by decide) ?_
                            refine lv_iconst (v := 0) hx hb dX12_sheet_86 (by decide) ?_
                            refine lz_astc hx hb hK hP hD hS 3 0 rfl rfl (lz_vp (x := 2) (n := 160) (by decide) (by decide)) dX12_sheet_87 (fun H locs hP hD hS => ?_)
                            refine lv_iinc (v := 3) (lv' := [(4, .int 3), (0, .ref h0), (1, .int 0), (2, .int (-1)), (3, .int x2)]) hx hb dX12_sheet_88 hl (k := 0) rfl (by decide) (by decide) rfl (fun ls hl => ?_)
                            refine lv_goto (tgt := 68) hx hb dX12_sheet_91 (by decide) ?_
                            refine lv_iload hx hb dX12_sheet_68 (lv_at hl 0 rfl) ?_
                            refine lv_bipush (v := 40) hx hb dX12_sheet_70 (by decide) ?_
                            refine lv_icmp_ge (tgt := 94) hx hb dX12_sheet_72 (by decide) (fun c2113 => ?_) (fun c2113 => ?_)
                            · exact absurd c2113 (by decide)
                            · refine lv_aload_n hx hb dX12_sheet_75 rfl (lv_at hl 1 rfl) ?_
                              refine va_get (D := D) (ci := 12) (v := .ref h11) (C := RX12) (T := TX12) (N := 24) hx hb hts hin12 hown hK hP 0 rfl rfl 18 (by decide) (hts (.fieldLink RX12 44 "MissedPointsModel" "items" "[I") (by decide +kernel)) (fun _ h9 => h9) rfl dX12_sheet_76 ?_
                              refine lv_bipush (v := 40) hx hb dX12_sheet_79 (by decide) ?_
                              refine lv_iload_n hx hb dX12_sheet_81 rfl (lv_at hl 2 rfl) ?_
                              refine lv_imul hx hb dX12_sheet_82 ?_
                              refine lz_top (y := 0) (by decide) ?_
                              refine lv_iload hx hb dX12_sheet_83 (lv_at hl 0 rfl) ?_
                              refine lv_iadd hx hb dX12_sheet_85 ?_
                              refine lz_top (y := 3) (by decide) ?_
                              refine lv_iconst (v := 0) hx hb dX12_sheet_86 (by decide) ?_
                              refine lz_astc hx hb hK hP hD hS 3 0 rfl rfl (lz_vp (x := 3) (n := 160) (by decide) (by decide)) dX12_sheet_87 (fun H locs hP hD hS => ?_)
                              refine lv_iinc (v := 4) (lv' := [(4, .int 4), (0, .ref h0), (1, .int 0), (2, .int (-1)), (3, .int x2)]) hx hb dX12_sheet_88 hl (k := 0) rfl (by decide) (by decide) rfl (fun ls hl => ?_)
                              refine lv_goto (tgt := 68) hx hb dX12_sheet_91 (by decide) ?_
                              refine lv_iload hx hb dX12_sheet_68 (lv_at hl 0 rfl) ?_
                              refine lv_bipush (v := 40) hx hb dX12_sheet_70 (by decide) ?_
                              refine lv_icmp_ge (tgt := 94) hx hb dX12_sheet_72 (by decide) (fun c2114 => ?_) (fun c2114 => ?_)
                              · exact absurd c2114 (by decide)
                              · refine lv_aload_n hx hb dX12_sheet_75 rfl (lv_at hl 1 rfl) ?_
                                refine va_get (D := D) (ci := 12) (v := .ref h11) (C := RX12) (T := TX12) (N := 24) hx hb hts hin12 hown hK hP 0 rfl rfl 18 (by decide) (hts (.fieldLink RX12 44 "MissedPointsModel" "items" "[I") (by decide +kernel)) (fun _ h9 => h9) rfl dX12_sheet_76 ?_
                                refine lv_bipush (v := 40) hx hb dX12_sheet_79 (by decide) ?_
                                refine lv_iload_n hx hb dX12_sheet_81 rfl (lv_at hl 2 rfl) ?_
                                refine lv_imul hx hb dX12_sheet_82 ?_
                                refine lz_top (y := 0) (by decide) ?_
                                refine lv_iload hx hb dX12_sheet_83 (lv_at hl 0 rfl) ?_
                                refine lv_iadd hx hb dX12_sheet_85 ?_
                                refine lz_top (y := 4) (by decide) ?_
                                refine lv_iconst (v := 0) hx hb dX12_sheet_86 (by decide) ?_
                                refine lz_astc hx hb hK hP hD hS 3 0 rfl rfl (lz_vp (x := 4) (n := 160) (by decide) (by decide)) dX12_sheet_87 (fun H locs hP hD hS => ?_)
                                refine lv_iinc (v := 5) (lv' := [(4, .int 5), (0, .ref h0), (1, .int 0), (2, .int (-1)), (3, .int x2)]) hx hb dX12_sheet_88 hl (k := 0) rfl (by decide) (by decide) rfl (fun ls hl => ?_)
                                refine lv_goto (tgt := 68) hx hb dX12_sheet_91 (by decide) ?_
                                refine lv_iload hx hb dX12_sheet_68 (lv_at hl 0 rfl) ?_
                                refine lv_bipush (v := 40) hx hb dX12_sheet_70 (by decide) ?_
                                refine lv_icmp_ge (tgt := 94) hx hb dX12_sheet_72 (by decide) (fun c2115 => ?_) (fun c2115 => ?_)
                                · exact absurd c2115 (by decide)
                                · refine lv_aload_n hx hb dX12_sheet_75 rfl (lv_at hl 1 rfl) ?_
                                  refine va_get (D := D) (ci := 12) (v := .ref h11) (C := RX12) (T := TX12) (N := 24) hx hb hts hin12 hown hK hP 0 rfl rfl 18 (by decide) (hts (.fieldLink RX12 44 "MissedPointsModel" "items" "[I") (by decide +kernel)) (fun _ h9 => h9) rfl dX12_sheet_76 ?_
                                  refine lv_bipush (v := 40) hx hb dX12_sheet_79 (by decide) ?_
                                  refine lv_iload_n hx hb dX12_sheet_81 rfl (lv_at hl 2 rfl) ?_
                                  refine lv_imul hx hb dX12_sheet_82 ?_
                                  refine lz_top (y := 0) (by decide) ?_
                                  refine lv_iload hx hb dX12_sheet_83 (lv_at hl 0 rfl) ?_
                                  refine lv_iadd hx hb dX12_sheet_85 ?_
                                  refine lz_top (y := 5) (by decide) ?_
                                  refine lv_iconst (v := 0) hx hb dX12_sheet_86 (by decide) ?_
                                  refine lz_astc hx hb hK hP hD hS 3 0 rfl rfl (lz_vp (x := 5) (n := 160) (by decide) (by decide)) dX12_sheet_87 (fun H locs hP hD hS => ?_)
                                  refine lv_iinc (v := 6) (lv' := [(4, .int 6), (0, .ref h0), (1, .int 0), (2, .int (-1)), (3, .int x2)]) hx hb dX12_sheet_88 hl (k := 0) rfl (by decide) (by decide) rfl (fun ls hl => ?_)
                                  refine lv_goto (tgt := 68) hx hb dX12_sheet_91 (by decide) ?_
                                  refine lv_iload hx hb dX12_sheet_68 (lv_at hl 0 rfl) ?_
                                  refine lv_bipush (v := 40) hx hb dX12_sheet_70 (by decide) ?_
                                  refine lv_icmp_ge (tgt := 94) hx hb dX12_sheet_72 (by decide) (fun c2116 => ?_) (fun c2116 => ?_)
                                  · exact absurd c2116 (by decide)
                                  · refine lv_aload_n hx hb dX12_sheet_75 rfl (lv_at hl 1 rfl) ?_
                                    refine va_get (D := D) (ci := 12) (v := .ref h11) (C := RX12) (T := TX12) (N := 24) hx hb hts hin12 hown hK hP 0 rfl rfl 18 (by decide) (hts (.fieldLink RX12 44 "MissedPointsModel" "items" "[I") (by decide +kernel)) (fun _ h9 => h9) rfl dX12_sheet_76 ?_
                                    refine lv_bipush (v := 40) hx hb dX12_sheet_79 (by decide) ?_
                                    refine lv_iload_n hx hb dX12_sheet_81 rfl (lv_at hl 2 rfl) ?_
                                    refine lv_imul hx hb dX12_sheet_82 ?_
                                    refine lz_top (y := 0) (by decide) ?_
                                    refine lv_iload hx hb dX12_sheet_83 (lv_at hl 0 rfl) ?_
                                    refine lv_iadd hx hb dX12_sheet_85 ?_
                                    refine lz_top (y := 6) (by decide) ?_
                                    refine lv_iconst (v := 0) hx hb dX12_sheet_86 (by decide) ?_
                                    refine lz_astc hx hb hK hP hD hS 3 0 rfl rfl (lz_vp (x := 6) (n := 160) (by decide) (by decide)) dX12_sheet_87 (fun H locs hP hD hS => ?_)
                                    refine lv_iinc (v := 7) (lv' := [(4, .int 7), (0, .ref h0), (1, .int 0), (2, .int (-1)), (3, .int x2)]) hx hb dX12_sheet_88 hl (k := 0) rfl (by decide) (by decide) rfl (fun ls hl => ?_)
                                    refine lv_goto (tgt := 68) hx hb dX12_sheet_91 (by decide) ?_
                                    refine lv_iload hx hb dX12_sheet_68 (lv_at hl 0 rfl) ?_
                                    refine lv_bipush (v := 40) hx hb dX12_sheet_70 (by decide) ?_
                                    refine lv_icmp_ge (tgt := 94) hx hb dX12_sheet_72 (by decide) (fun c2117 => ?_) (fun c2117 => ?_)
                                    · exact absurd c2117 (by decide)
                                    · refine lv_aload_n hx hb dX12_sheet_75 rfl (lv_at hl 1 rfl) ?_
                                      refine va_get (D := D) (ci := 12) (v := .ref h11) (C := RX12) (T := TX12) (N := 24) hx hb hts hin12 hown hK hP 0 rfl rfl 18 (by decide) (hts (.fieldLink RX12 44 "MissedPointsModel" "items" "[I") (by decide +kernel)) (fun _ h9 => h9) rfl dX12_sheet_76 ?_
                                      refine lv_bipush (v := 40) hx hb dX12_sheet_79 (by decide) ?_
                                      refine lv_iload_n hx hb dX12_sheet_81 rfl (lv_at hl 2 rfl) ?_
                                      refine lv_imul hx hb dX12_sheet_82 ?_
                                      refine lz_top (y := 0) (by decide) ?_
                                      refine lv_iload hx hb dX12_sheet_83 (lv_at hl 0 rfl) ?_
                                      refine lv_iadd hx hb dX12_sheet_85 ?_
                                      refine lz_top (y := 7) (by decide) ?_
                                      refine lv_iconst (v := 0) hx hb dX12_sheet_86 (by decide) ?_
                                      refine lz_astc hx hb hK hP hD hS 3 0 rfl rfl (lz_vp (x := 7) (n := 160) (by decide) (by decide)) dX12_sheet_87 (fun H locs hP hD hS => ?_)
                                      refine lv_iinc (v := 8) (lv' := [(4, .int 8), (0, .ref h0), (1, .int 0), (2, .int (-1)), (3, .int x2)]) hx hb dX12_sheet_88 hl (k := 0) rfl (by decide) (by decide) rfl (fun ls hl => ?_)
                                      refine lv_goto (tgt := 68) hx hb dX12_sheet_91 (by decide) ?_
                                      refine lv_iload hx hb dX12_sheet_68 (lv_at hl 0 rfl) ?_
                                      refine lv_bipush (v := 40) hx hb dX12_sheet_70 (by decide) ?_
                                      refine lv_icmp_ge (tgt := 94) hx hb dX12_sheet_72 (by decide) (fun c2118 => ?_) (fun c2118 => ?_)
                                      · exact absurd c2118 (by decide)
                                      · refine lv_aload_n hx hb dX12_sheet_75 rfl (lv_at hl 1 rfl) ?_
                                        refine va_get (D := D) (ci := 12) (v := .ref h11) (C := RX12) (T := TX12) (N := 24) hx hb hts hin12 hown hK hP 0 rfl rfl 18 (by decide) (hts (.fieldLink RX12 44 "MissedPointsModel" "items" "[I") (by decide +kernel)) (fun _ h9 => h9) rfl dX12_sheet_76 ?_
                                        refine lv_bipush (v := 40) hx hb dX12_sheet_79 (by decide) ?_
                                        refine lv_iload_n hx hb dX12_sheet_81 rfl (lv_at hl 2 rfl) ?_
                                        refine lv_imul hx hb dX12_sheet_82 ?_
                                        refine lz_top (y := 0) (by decide) ?_
                                        refine lv_iload hx hb dX12_sheet_83 (lv_at hl 0 rfl) ?_
                                        refine lv_iadd hx hb dX12_sheet_85 ?_
                                        refine lz_top (y := 8) (by decide) ?_
                                        refine lv_iconst (v := 0) hx hb dX12_sheet_86 (by decide) ?_
                                        refine lz_astc hx hb hK hP hD hS 3 0 rfl rfl (lz_vp (x := 8) (n := 160) (by decide) (by decide)) dX12_sheet_87 (fun H locs hP hD hS => ?_)
                                        refine lv_iinc (v := 9) (lv' := [(4, .int 9), (0, .ref h0), (1, .int 0), (2, .int (-1)), (3, .int x2)]) hx hb dX12_sheet_88 hl (k := 0) rfl (by decide) (by decide) rfl (fun ls hl => ?_)
                                        refine lv_goto (tgt := 68) hx hb dX12_sheet_91 (by decide) ?_
                                        refine lv_iload hx hb dX12_sheet_68 (lv_at hl 0 rfl) ?_
                                        refine lv_bipush (v := 40) hx hb dX12_sheet_70 (by decide) ?_
                                        refine lv_icmp_ge (tgt := 94) hx hb dX12_sheet_72 (by decide) (fun c2119 => ?_) (fun c2119 => ?_)
                                        · exact absurd c2119 (by decide)
                                        · refine lv_aload_n hx hb dX12_sheet_75 rfl (lv_at hl 1 rfl) ?_
                                          refine va_get (D := D) (ci := 12) (v := .ref h11) (C := RX12) (T := TX12) (N := 24) hx hb hts hin12 hown hK hP 0 rfl rfl 18 (by decide) (hts (.fieldLink RX12 44 "MissedPointsModel" "items" "[I") (by decide +kernel)) (fun _ h9 => h9) rfl dX12_sheet_76 ?_
                                          refine lv_bipush (v := 40) hx hb dX12_sheet_79 (by decide) ?_
                                          refine lv_iload_n hx hb dX12_sheet_81 rfl (lv_at hl 2 rfl) ?_
                                          refine lv_imul hx hb dX12_sheet_82 ?_
                                          refine lz_top (y := 0) (by decide) ?_
                                          refine lv_iload hx hb dX12_sheet_83 (lv_at hl 0 rfl) ?_
                                          refine lv_iadd hx hb dX12_sheet_85 ?_
                                          refine lz_top (y := 9) (by decide) ?_
                                          refine lv_iconst (v := 0) hx hb dX12_sheet_86 (by decide) ?_
                                          refine lz_astc hx hb hK hP hD hS 3 0 rfl rfl (lz_vp (x := 9) (n := 160) (by decide) (by decide)) dX12_sheet_87 (fun H locs hP hD hS => ?_)
                                          refine lv_iinc (v := 10) (lv' := [(4, .int 10), (0, .ref h0), (1, .int 0), (2, .int (-1)), (3, .int x2)]) hx hb dX12_sheet_88 hl (k := 0) rfl (by decide) (by decide) rfl (fun ls hl => ?_)
                                          refine lv_goto (tgt := 68) hx hb dX12_sheet_91 (by decide) ?_
                                          refine lv_iload hx hb dX12_sheet_68 (lv_at hl 0 rfl) ?_
                                          refine lv_bipush (v := 40) hx hb dX12_sheet_70 (by decide) ?_
                                          refine lv_icmp_ge (tgt := 94) hx hb dX12_sheet_72 (by decide) (fun c2120 => ?_) (fun c2120 => ?_)
                                          · exact absurd c2120 (by decide)
                                          · refine lv_aload_n hx hb dX12_sheet_75 rfl (lv_at hl 1 rfl) ?_
                                            refine va_get (D := D) (ci := 12) (v := .ref h11) (C := RX12) (T := TX12) (N := 24) hx hb hts hin12 hown hK hP 0 rfl rfl 18 (by decide) (hts (.fieldLink RX12 44 "MissedPointsModel" "items" "[I") (by decide +kernel)) (fun _ h9 => h9) rfl dX12_sheet_76 ?_
                                            refine lv_bipush (v := 40) hx hb dX12_sheet_79 (by decide) ?_
                                            refine lv_iload_n hx hb dX12_sheet_81 rfl (lv_at hl 2 rfl) ?_
                                            refine lv_imul hx hb dX12_sheet_82 ?_
                                            refine lz_top (y := 0) (by decide) ?_
                                            refine lv_iload hx hb dX12_sheet_83 (lv_at hl 0 rfl) ?_
                                            refine lv_iadd hx hb dX12_sheet_85 ?_
                                            refine lz_top (y := 10) (by decide) ?_
                                            refine lv_iconst (v := 0) hx hb dX12_sheet_86 (by decide) ?_
                                            refine lz_astc hx hb hK hP hD hS 3 0 rfl rfl (lz_vp (x := 10) (n := 160) (by decide) (by decide)) dX12_sheet_87 (fun H locs hP hD hS => ?_)
                                            refine lv_iinc (v := 11) (lv' := [(4, .int 11), (0, .ref h0), (1, .int 0), (2, .int (-1)), (3, .int x2)]) hx hb dX12_sheet_88 hl (k := 0) rfl (by decide) (by decide) rfl (fun ls hl => ?_)
                                            refine lv_goto (tgt := 68) hx hb dX12_sheet_91 (by decide) ?_
                                            refine lv_iload hx hb dX12_sheet_68 (lv_at hl 0 rfl) ?_
                                            refine lv_bipush (v := 40) hx hb dX12_sheet_70 (by decide) ?_
                                            refine lv_icmp_ge (tgt := 94) hx hb dX12_sheet_72 (by decide) (fun c2121 => ?_) (fun c2121 => ?_)
                                            · exact absurd c2121 (by decide)
                                            · refine lv_aload_n hx hb dX12_sheet_75 rfl (lv_at hl 1 rfl) ?_
                                              refine va_get (D := D) (ci := 12) (v := .ref h11) (C := RX12) (T := TX12) (N := 24) hx hb hts hin12 hown hK hP 0 rfl rfl 18 (by decide) (hts (.fieldLink RX12 44 "MissedPointsModel" "items" "[I") (by decide +kernel)) (fun _ h9 => h9) rfl dX12_sheet_76 ?_
                                              refine lv_bipush (v := 40) hx hb dX12_sheet_79 (by decide) ?_
                                              refine lv_iload_n hx hb dX12_sheet_81 rfl (lv_at hl 2 rfl) ?_
                                              refine lv_imul hx hb dX12_sheet_82 ?_
                                              refine lz_top (y := 0) (by decide) ?_
                                              refine lv_iload hx hb dX12_sheet_83 (lv_at hl 0 rfl) ?_
                                              refine lv_iadd hx hb dX12_sheet_85 ?_
                                              refine lz_top (y := 11) (by decide) ?_
                                              refine lv_iconst (v := 0) hx hb dX12_sheet_86 (by decide) ?_
                                              refine lz_astc hx hb hK hP hD hS 3 0 rfl rfl (lz_vp (x := 11) (n := 160) (by decide) (by decide)) dX12_sheet_87 (fun H locs hP hD hS => ?_)
                                              refine lv_iinc (v := 12) (lv' := [(4, .int 12), (0, .ref h0), (1, .int 0), (2, .int (-1)), (3, .int x2)]) hx hb dX12_sheet_88 hl (k := 0) rfl (by decide) (by decide) rfl (fun ls hl => ?_)
                                              refine lv_goto (tgt := 68) hx hb dX12_sheet_91 (by decide) ?_
                                              refine lv_iload hx hb dX12_sheet_68 (lv_at hl 0 rfl) ?_
                                              refine lv_bipush (v := 40) hx hb dX12_sheet_70 (by decide) ?_
                                              refine lv_icmp_ge (tgt := 94) hx hb dX12_sheet_72 (by decide) (fun c2122 => ?_) (fun c2122 => ?_)
                                              · exact absurd c2122 (by decide)
                                              · refine lv_aload_n hx hb dX12_sheet_75 rfl (lv_at hl 1 rfl) ?_
                                                refine va_get (D := D) (ci := 12) (v := .ref h11) (C := RX12) (T := TX12) (N := 24) hx hb hts hin12 hown hK hP 0 rfl rfl 18 (by decide) (hts (.fieldLink RX12 44 "MissedPointsModel" "items" "[I") (by decide +kernel)) (fun _ h9 => h9) rfl dX12_sheet_76 ?_
                                                refine lv_bipush (v := 40) hx hb dX12_sheet_79 (by decide) ?_
                                                refine lv_iload_n hx hb dX12_sheet_81 rfl (lv_at hl 2 rfl) ?_
                                                refine lv_imul hx hb dX12_sheet_82 ?_
                                                refine lz_top (y := 0) (by decide) ?_
                                                refine lv_iload hx hb dX12_sheet_83 (lv_at hl 0 rfl) ?_
                                                refine lv_iadd hx hb dX12_sheet_85 ?_
                                                refine lz_top (y := 12) (by decide) ?_
                                                refine lv_iconst (v := 0) hx hb dX12_sheet_86 (by decide) ?_
                                                refine lz_astc hx hb hK hP hD hS 3 0 rfl rfl (lz_vp (x := 12) (n := 160) (by decide) (by decide)) dX12_sheet_87 (fun H locs hP hD hS => ?_)
                                                refine lv_iinc (v := 13) (lv' := [(4, .int 13), (0, .ref h0), (1, .int 0), (2, .int (-1)), (3, .int x2)]) hx hb dX12_sheet_88 hl (k := 0) rfl (by decide) (by decide) rfl (fun ls hl => ?_)
                                                refine lv_goto (tgt := 68) hx hb dX12_sheet_91 (by decide) ?_
                                                refine lv_iload hx hb dX12_sheet_68 (lv_at hl 0 rfl) ?_
                                                refine lv_bipush (v := 40) hx hb dX12_sheet_70 (by decide) ?_
                                                refine lv_icmp_ge (tgt := 94) hx hb dX12_sheet_72 (by decide) (fun c2123 => ?_) (fun c2123 => ?_)
                                                · exact absurd c2123 (by decide)
                                                · refine lv_aload_n hx hb dX12_sheet_75 rfl (lv_at hl 1 rfl) ?_
                                                  refine va_get (D := D) (ci := 12) (v := .ref h11) (C := RX12) (T := TX12) (N := 24) hx hb hts hin12 hown hK hP 0 rfl rfl 18 (by decide) (hts (.fieldLink RX12 44 "MissedPointsModel" "items" "[I") (by decide +kernel)) (fun _ h9 => h9) rfl dX12_sheet_76 ?_
                                                  refine lv_bipush (v := 40) hx hb dX12_sheet_79 (by decide) ?_
                                                  refine lv_iload_n hx hb dX12_sheet_81 rfl (lv_at hl 2 rfl) ?_
                                                  refine lv_imul hx hb dX12_sheet_82 ?_
                                                  refine lz_top (y := 0) (by decide) ?_
                                                  refine lv_iload hx hb dX12_sheet_83 (lv_at hl 0 rfl) ?_
                                                  refine lv_iadd hx hb dX12_sheet_85 ?_
                                                  refine lz_top (y := 13) (by decide) ?_
                                                  refine lv_iconst (v := 0) hx hb dX12_sheet_86 (by decide) ?_
                                                  refine lz_astc hx hb hK hP hD hS 3 0 rfl rfl (lz_vp (x := 13) (n := 160) (by decide) (by decide)) dX12_sheet_87 (fun H locs hP hD hS => ?_)
                                                  refine lv_iinc (v := 14) (lv' := [(4, .int 14), (0, .ref h0), (1, .int 0), (2, .int (-1)), (3, .int x2)]) hx hb dX12_sheet_88 hl (k := 0) rfl (by decide) (by decide) rfl (fun ls hl => ?_)
                                                  refine lv_goto (tgt := 68) hx hb dX12_sheet_91 (by decide) ?_
                                                  refine lv_iload hx hb dX12_sheet_68 (lv_at hl 0 rfl) ?_
                                                  refine lv_bipush (v := 40) hx hb dX12_sheet_70 (by decide) ?_
                                                  refine lv_icmp_ge (tgt := 94) hx hb dX12_sheet_72 (by decide) (fun c2124 => ?_) (fun c2124 => ?_)
                                                  · exact absurd c2124 (by decide)
                                                  · refine lv_aload_n hx hb dX12_sheet_75 rfl (lv_at hl 1 rfl) ?_
                                                    refine va_get (D := D) (ci := 12) (v := .ref h11) (C := RX12) (T := TX12) (N := 24) hx hb hts hin12 hown hK hP 0 rfl rfl 18 (by decide) (hts (.fieldLink RX12 44 "MissedPointsModel" "items" "[I") (by decide +kernel)) (fun _ h9 => h9) rfl dX12_sheet_76 ?_
                                                    refine lv_bipush (v := 40) hx hb dX12_sheet_79 (by decide) ?_
                                                    refine lv_iload_n hx hb dX12_sheet_81 rfl (lv_at hl 2 rfl) ?_
                                                    refine lv_imul hx hb dX12_sheet_82 ?_
                                                    refine lz_top (y := 0) (by decide) ?_
                                                    refine lv_iload hx hb dX12_sheet_83 (lv_at hl 0 rfl) ?_
                                                    refine lv_iadd hx hb dX12_sheet_85 ?_
                                                    refine lz_top (y := 14) (by decide) ?_
                                                    refine lv_iconst (v := 0) hx hb dX12_sheet_86 (by decide) ?_
                                                    refine lz_astc hx hb hK hP hD hS 3 0 rfl rfl (lz_vp (x := 14) (n := 160) (by decide) (by decide)) dX12_sheet_87 (fun H locs hP hD hS => ?_)
                                                    refine lv_iinc (v := 15) (lv' := [(4, .int 15), (0, .ref h0), (1, .int 0), (2, .int (-1)), (3, .int x2)]) hx hb dX12_sheet_88 hl (k := 0) rfl (by decide) (by decide) rfl (fun ls hl => ?_)
                                                    refine lv_goto (tgt := 68) hx hb dX12_sheet_91 (by decide) ?_
                                                    refine lv_iload hx hb dX12_sheet_68 (lv_at hl 0 rfl) ?_
                                                    refine lv_bipush (v := 40) hx hb dX12_sheet_70 (by decide) ?_
                                                    refine lv_icmp_ge (tgt := 94) hx hb dX12_sheet_72 (by decide) (fun c2125 => ?_) (fun c2125 => ?_)
                                                    · exact absurd c2125 (by decide)
                                                    · refine lv_aload_n hx hb dX12_sheet_75 rfl (lv_at hl 1 rfl) ?_
                                                      refine va_get (D := D) (ci := 12) (v := .ref h11) (C := RX12) (T := TX12) (N := 24) hx hb hts hin12 hown hK hP 0 rfl rfl 18 (by decide) (hts (.fieldLink RX12 44 "MissedPointsModel" "items" "[I") (by decide +kernel)) (fun _ h9 => h9) rfl dX12_sheet_76 ?_
                                                      refine lv_bipush (v := 40) hx hb dX12_sheet_79 (by decide) ?_
                                                      refine lv_iload_n hx hb dX12_sheet_81 rfl (lv_at hl 2 rfl) ?_
                                                      refine lv_imul hx hb dX12_sheet_82 ?_
                                                      refine lz_top (y := 0) (by decide) ?_
                                                      refine lv_iload hx hb dX12_sheet_83 (lv_at hl 0 rfl) ?_
                                                      refine lv_iadd hx hb dX12_sheet_85 ?_
                                                      refine lz_top (y := 15) (by decide) ?_
                                                      refine lv_iconst (v := 0) hx hb dX12_sheet_86 (by decide) ?_
                                                      refine lz_astc hx hb hK hP hD hS 3 0 rfl rfl (lz_vp (x := 15) (n := 160) (by decide) (by decide)) dX12_sheet_87 (fun H locs hP hD hS => ?_)
                                                      refine lv_iinc (v := 16) (lv' := [(4, .int 16), (0, .ref h0), (1, .int 0), (2, .int (-1)), (3, .int x2)]) hx hb dX12_sheet_88 hl (k := 0) rfl (by decide) (by decide) rfl (fun ls hl => ?_)
                                                      refine lv_goto (tgt := 68) hx hb dX12_sheet_91 (by decide) ?_
                                                      refine lv_iload hx hb dX12_sheet_68 (lv_at hl 0 rfl) ?_
                                                      refine lv_bipush (v := 40) hx hb dX12_sheet_70 (by decide) ?_
                                                      refine lv_icmp_ge (tgt := 94) hx hb dX12_sheet_72 (by decide) (fun c2126 => ?_) (fun c2126 => ?_)
                                                      · exact absurd c2126 (by decide)
                                                      · refine lv_aload_n hx hb dX12_sheet_75 rfl (lv_at hl 1 rfl) ?_
                                                        refine va_get (D := D) (ci := 12) (v := .ref h11) (C := RX12) (T := TX12) (N := 24) hx hb hts hin12 hown hK hP 0 rfl rfl 18 (by decide) (hts (.fieldLink RX12 44 "MissedPointsModel" "items" "[I") (by decide +kernel)) (fun _ h9 => h9) rfl dX12_sheet_76 ?_
                                                        refine lv_bipush (v := 40) hx hb dX12_sheet_79 (by decide) ?_
                                                        refine lv_iload_n hx hb dX12_sheet_81 rfl (lv_at hl 2 rfl) ?_
                                                        refine lv_imul hx hb dX12_sheet_82 ?_
                                                        refine lz_top (y := 0) (by decide) ?_
                                                        refine lv_iload hx hb dX12_sheet_83 (lv_at hl 0 rfl) ?_
                                                        refine lv_iadd hx hb dX12_sheet_85 ?_
                                                        refine lz_top (y := 16) (by decide) ?_
                                                        refine lv_iconst (v := 0) hx hb dX12_sheet_86 (by decide) ?_
                                                        refine lz_astc hx hb hK hP hD hS 3 0 rfl rfl (lz_vp (x := 16) (n := 160) (by decide) (by decide)) dX12_sheet_87 (fun H locs hP hD hS => ?_)
                                                        refine lv_iinc (v := 17) (lv' := [(4, .int 17), (0, .ref h0), (1, .int 0), (2, .int (-1)), (3, .int x2)]) hx hb dX12_sheet_88 hl (k := 0) rfl (by decide) (by decide) rfl (fun ls hl => ?_)
                                                        refine lv_goto (tgt := 68) hx hb dX12_sheet_91 (by decide) ?_
                                                        refine lv_iload hx hb dX12_sheet_68 (lv_at hl 0 rfl) ?_
                                                        refine lv_bipush (v := 40) hx hb dX12_sheet_70 (by decide) ?_
                                                        refine lv_icmp_ge (tgt := 94) hx hb dX12_sheet_72 (by decide) (fun c2127 => ?_) (fun c2127 => ?_)
                                                        · exact absurd c2127 (by decide)
                                                        · refine lv_aload_n hx hb dX12_sheet_75 rfl (lv_at hl 1 rfl) ?_
                                                          refine va_get (D := D) (ci := 12) (v := .ref h11) (C := RX12) (T := TX12) (N := 24) hx hb hts hin12 hown hK hP 0 rfl rfl 18 (by decide) (hts (.fieldLink RX12 44 "MissedPointsModel" "items" "[I") (by decide +kernel)) (fun _ h9 => h9) rfl dX12_sheet_76 ?_
                                                          refine lv_bipush (v := 40) hx hb dX12_sheet_79 (by decide) ?_
                                                          refine lv_iload_n hx hb dX12_sheet_81 rfl (lv_at hl 2 rfl) ?_
                                                          refine lv_imul hx hb dX12_sheet_82 ?_
                                                          refine lz_top (y := 0) (by decide) ?_
                                                          refine lv_iload hx hb dX12_sheet_83 (lv_at hl 0 rfl) ?_
                                                          refine lv_iadd hx hb dX12_sheet_85 ?_
                                                          refine lz_top (y := 17) (by decide) ?_
                                                          refine lv_iconst (v := 0) hx hb dX12_sheet_86 (by decide) ?_
                                                          refine lz_astc hx hb hK hP hD hS 3 0 rfl rfl (lz_vp (x := 17) (n := 160) (by decide) (by decide)) dX12_sheet_87 (fun H locs hP hD hS => ?_)
                                                          refine lv_iinc (v := 18) (lv' := [(4, .int 18), (0, .ref h0), (1, .int 0), (2, .int (-1)), (3, .int x2)]) hx hb dX12_sheet_88 hl (k := 0) rfl (by decide) (by decide) rfl (fun ls hl => ?_)
                                                          refine lv_goto (tgt := 68) hx hb dX12_sheet_91 (by decide) ?_
                                                          refine lv_iload hx hb dX12_sheet_68 (lv_at hl 0 rfl) ?_
                                                          refine lv_bipush (v := 40) hx hb dX12_sheet_70 (by decide) ?_
                                                          refine lv_icmp_ge (tgt := 94) hx hb dX12_sheet_72 (by decide) (fun c2128 => ?_) (fun c2128 => ?_)
                                                          · exact absurd c2128 (by decide)
                                                          · refine lv_aload_n hx hb dX12_sheet_75 rfl (lv_at hl 1 rfl) ?_
                                                            refine va_get (D := D) (ci := 12) (v := .ref h11) (C := RX12) (T := TX12) (N := 24) hx hb hts hin12 hown hK hP 0 rfl rfl 18 (by decide) (hts (.fieldLink RX12 44 "MissedPointsModel" "items" "[I") (by decide +kernel)) (fun _ h9 => h9) rfl dX12_sheet_76 ?_
                                                            refine lv_bipush (v := 40) hx hb dX12_sheet_79 (by decide) ?_
                                                            refine lv_iload_n hx hb dX12_sheet_81 rfl (lv_at hl 2 rfl) ?_
                                                            refine lv_imul hx hb dX12_sheet_82 ?_
                                                            refine lz_top (y := 0) (by decide) ?_
                                                            refine lv_iload hx hb dX12_sheet_83 (lv_at hl 0 rfl) ?_
                                                            refine lv_iadd hx hb dX12_sheet_85 ?_
                                                            refine lz_top (y := 18) (by decide) ?_
                                                            refine lv_iconst (v := 0) hx hb dX12_sheet_86 (by decide) ?_
                                                            refine lz_astc hx hb hK hP hD hS 3 0 rfl rfl (lz_vp (x := 18) (n := 160) (by decide) (by decide)) dX12_sheet_87 (fun H locs hP hD hS => ?_)
                                                            refine lv_iinc (v := 19) (lv' := [(4, .int 19), (0, .ref h0), (1, .int 0), (2, .int (-1)), (3, .int x2)]) hx hb dX12_sheet_88 hl (k := 0) rfl (by decide) (by decide) rfl (fun ls hl => ?_)
                                                            refine lv_goto (tgt := 68) hx hb dX12_sheet_91 (by decide) ?_
                                                            refine lv_iload hx hb dX12_sheet_68 (lv_at hl 0 rfl) ?_
                                                            refine lv_bipush (v := 40) hx hb dX12_sheet_70 (by decide) ?_
                                                            refine lv_icmp_ge (tgt := 94) hx hb dX12_sheet_72 (by decide) (fun c2129 => ?_) (fun c2129 => ?_)
                                                            · exact absurd c2129 (by decide)
                                                            · refine lv_aload_n hx hb dX12_sheet_75 rfl (lv_at hl 1 rfl) ?_
                                                              refine va_get (D := D) (ci := 12) (v := .ref h11) (C := RX12) (T := TX12) (N := 24) hx hb hts hin12 hown hK hP 0 rfl rfl 18 (by decide) (hts (.fieldLink RX12 44 "MissedPointsModel" "items" "[I") (by decide +kernel)) (fun _ h9 => h9) rfl dX12_sheet_76 ?_
                                                              refine lv_bipush (v := 40) hx hb dX12_sheet_79 (by decide) ?_
                                                              refine lv_iload_n hx hb dX12_sheet_81 rfl (lv_at hl 2 rfl) ?_
                                                              refine lv_imul hx hb dX12_sheet_82 ?_
                                                              refine lz_top (y := 0) (by decide) ?_
                                                              refine lv_iload hx hb dX12_sheet_83 (lv_at hl 0 rfl) ?_
                                                              refine lv_iadd hx hb dX12_sheet_85 ?_
                                                              refine lz_top (y := 19) (by decide) ?_
                                                              refine lv_iconst (v := 0) hx hb dX12_sheet_86 (by decide) ?_
                                                              refine lz_astc hx hb hK hP hD hS 3 0 rfl rfl (lz_vp (x := 19) (n := 160) (by decide) (by decide)) dX12_sheet_87 (fun H locs hP hD hS => ?_)
                                                              refine lv_iinc (v := 20) (lv' := [(4, .int 20), (0, .ref h0), (1, .int 0), (2, .int (-1)), (3, .int x2)]) hx hb dX12_sheet_88 hl (k := 0) rfl (by decide) (by decide) rfl (fun ls hl => ?_)
                                                              refine lv_goto (tgt := 68) hx hb dX12_sheet_91 (by decide) ?_
                                                              refine lv_iload hx hb dX12_sheet_68 (lv_at hl 0 rfl) ?_
                                                              refine lv_bipush (v := 40) hx hb dX12_sheet_70 (by decide) ?_
                                                              refine lv_icmp_ge (tgt := 94) hx hb dX12_sheet_72 (by decide) (fun c2130 => ?_) (fun c2130 => ?_)
                                                              · exact absurd c2130 (by decide)
                                                              · refine lv_aload_n hx hb dX12_sheet_75 rfl (lv_at hl 1 rfl) ?_
                                                                refine va_get (D := D) (ci := 12) (v := .ref h11) (C := RX12) (T := TX12) (N := 24) hx hb hts hin12 hown hK hP 0 rfl rfl 18 (by decide) (hts (.fieldLink RX12 44 "MissedPointsModel" "items" "[I") (by decide +kernel)) (fun _ h9 => h9) rfl dX12_sheet_76 ?_
                                                                refine lv_bipush (v := 40) hx hb dX12_sheet_79 (by decide) ?_
                                                                refine lv_iload_n hx hb dX12_sheet_81 rfl (lv_at hl 2 rfl) ?_
                                                                refine lv_imul hx hb dX12_sheet_82 ?_
                                                                refine lz_top (y := 0) (by decide) ?_
                                                                refine lv_iload hx hb dX12_sheet_83 (lv_at hl 0 rfl) ?_
                                                                refine lv_iadd hx hb dX12_sheet_85 ?_
                                                                refine lz_top (y := 20) (by decide) ?_
                                                                refine lv_iconst (v := 0) hx hb dX12_sheet_86 (by decide) ?_
                                                                refine lz_astc hx hb hK hP hD hS 3 0 rfl rfl (lz_vp (x := 20) (n := 160) (by decide) (by decide)) dX12_sheet_87 (fun H locs hP hD hS => ?_)
                                                                refine lv_iinc (v := 21) (lv' := [(4, .int 21), (0, .ref h0), (1, .int 0), (2, .int (-1)), (3, .int x2)]) hx hb dX12_sheet_88 hl (k := 0) rfl (by decide) (by decide) rfl (fun ls hl => ?_)
                                                                refine lv_goto (tgt := 68) hx hb dX12_sheet_91 (by decide) ?_
                                                                refine lv_iload hx hb dX12_sheet_68 (lv_at hl 0 rfl) ?_
                                                                refine lv_bipush (v := 40) hx hb dX12_sheet_70 (by decide) ?_
                                                                refine lv_icmp_ge (tgt := 94) hx hb dX12_sheet_72 (by decide) (fun c2131 => ?_) (fun c2131 => ?_)
                                                                · exact absurd c2131 (by decide)
                                                                · refine lv_aload_n hx hb dX12_sheet_75 rfl (lv_at hl 1 rfl) ?_
                                                                  refine va_get (D := D) (ci := 12) (v := .ref h11) (C := RX12) (T := TX12) (N := 24) hx hb hts hin12 hown hK hP 0 rfl rfl 18 (by decide) (hts (.fieldLink RX12 44 "MissedPointsModel" "items" "[I") (by decide +kernel)) (fun _ h9 => h9) rfl dX12_sheet_76 ?_
                                                                  refine lv_bipush (v := 40) hx hb dX12_sheet_79 (by decide) ?_
                                                                  refine lv_iload_n hx hb dX12_sheet_81 rfl (lv_at hl 2 rfl) ?_
                                                                  refine lv_imul hx hb dX12_sheet_82 ?_
                                                                  refine lz_top (y := 0) (by decide) ?_
                                                                  refine lv_iload hx hb dX12_sheet_83 (lv_at hl 0 rfl) ?_
                                                                  refine lv_iadd hx hb dX12_sheet_85 ?_
                                                                  refine lz_top (y := 21) (by decide) ?_
                                                                  refine lv_iconst (v := 0) hx hb dX12_sheet_86 (by decide) ?_
                                                                  refine lz_astc hx hb hK hP hD hS 3 0 rfl rfl (lz_vp (x := 21) (n := 160) (by decide) (by decide)) dX12_sheet_87 (fun H locs hP hD hS => ?_)
                                                                  refine lv_iinc (v := 22) (lv' := [(4, .int 22), (0, .ref h0), (1, .int 0), (2, .int (-1)), (3, .int x2)]) hx hb dX12_sheet_88 hl (k := 0) rfl (by decide) (by decide) rfl (fun ls hl => ?_)
                                                                  refine lv_goto (tgt := 68) hx hb dX12_sheet_91 (by decide) ?_
                                                                  refine lv_iload hx hb dX12_sheet_68 (lv_at hl 0 rfl) ?_
                                                                  refine lv_bipush (v := 40) hx hb dX12_sheet_70 (by decide) ?_
                                                                  refine lv_icmp_ge (tgt := 94) hx hb dX12_sheet_72 (by decide) (fun c2132 => ?_) (fun c2132 => ?_)
                                                                  · exact absurd c2132 (by decide)
                                                                  · refine lv_aload_n hx hb dX12_sheet_75 rfl (lv_at hl 1 rfl) ?_
                                                                    refine va_get (D := D) (ci := 12) (v := .ref h11) (C := RX12) (T := TX12) (N := 24) hx hb hts hin12 hown hK hP 0 rfl rfl 18 (by decide) (hts (.fieldLink RX12 44 "MissedPointsModel" "items" "[I") (by decide +kernel)) (fun _ h9 => h9) rfl dX12_sheet_76 ?_
                                                                    refine lv_bipush (v := 40) hx hb dX12_sheet_79 (by decide) ?_
                                                                    refine lv_iload_n hx hb dX12_sheet_81 rfl (lv_at hl 2 rfl) ?_
                                                                    refine lv_imul hx hb dX12_sheet_82 ?_
                                                                    refine lz_top (y := 0) (by decide) ?_
                                                                    refine lv_iload hx hb dX12_sheet_83 (lv_at hl 0 rfl) ?_
                                                                    refine lv_iadd hx hb dX12_sheet_85 ?_
                                                                    refine lz_top (y := 22) (by decide) ?_
                                                                    refine lv_iconst (v := 0) hx hb dX12_sheet_86 (by decide) ?_
                                                                    refine lz_astc hx hb hK hP hD hS 3 0 rfl rfl (lz_vp (x := 22) (n := 160) (by decide) (by decide)) dX12_sheet_87 (fun H locs hP hD hS => ?_)
                                                                    refine lv_iinc (v := 23) (lv' := [(4, .int 23), (0, .ref h0), (1, .int 0), (2, .int (-1)), (3, .int x2)]) hx hb dX12_sheet_88 hl (k := 0) rfl (by decide) (by decide) rfl (fun ls hl => ?_)
                                                                    refine lv_goto (tgt := 68) hx hb dX12_sheet_91 (by decide) ?_
                                                                    refine lv_iload hx hb dX12_sheet_68 (lv_at hl 0 rfl) ?_
                                                                    refine lv_bipush (v := 40) hx hb dX12_sheet_70 (by decide) ?_
                                                                    refine lv_icmp_ge (tgt := 94) hx hb dX12_sheet_72 (by decide) (fun c2133 => ?_) (fun c2133 => ?_)
                                                                    · exact absurd c2133 (by decide)
                                                                    · refine lv_aload_n hx hb dX12_sheet_75 rfl (lv_at hl 1 rfl) ?_
                                                                      refine va_get (D := D) (ci := 12) (v := .ref h11) (C := RX12) (T := TX12) (N := 24) hx hb hts hin12 hown hK hP 0 rfl rfl 18 (by decide) (hts (.fieldLink RX12 44 "MissedPointsModel" "items" "[I") (by decide +kernel)) (fun _ h9 => h9) rfl dX12_sheet_76 ?_
                                                                      refine lv_bipush (v := 40) hx hb dX12_sheet_79 (by decide) ?_
                                                                      refine lv_iload_n hx hb dX12_sheet_81 rfl (lv_at hl 2 rfl) ?_
                                                                      refine lv_imul hx hb dX12_sheet_82 ?_
                                                                      refine lz_top (y := 0) (by decide) ?_
                                                                      refine lv_iload hx hb dX12_sheet_83 (lv_at hl 0 rfl) ?_
                                                                      refine lv_iadd hx hb dX12_sheet_85 ?_
                                                                      refine lz_top (y := 23) (by decide) ?_
                                                                      refine lv_iconst (v := 0) hx hb dX12_sheet_86 (by decide) ?_
                                                                      refine lz_astc hx hb hK hP hD hS 3 0 rfl rfl (lz_vp (x := 23) (n := 160) (by decide) (by decide)) dX12_sheet_87 (fun H locs hP hD hS => ?_)
                                                                      refine lv_iinc (v := 24) (lv' := [(4, .int 24), (0, .ref h0), (1, .int 0), (2, .int (-1)), (3, .int x2)]) hx hb dX12_sheet_88 hl (k := 0) rfl (by decide) (by decide) rfl (fun ls hl => ?_)
                                                                      refine lv_goto (tgt := 68) hx hb dX12_sheet_91 (by decide) ?_
                                                                      refine lv_iload hx hb dX12_sheet_68 (lv_at hl 0 rfl) ?_
                                                                      refine lv_bipush (v := 40) hx hb dX12_sheet_70 (by decide) ?_
                                                                      refine lv_icmp_ge (tgt := 94) hx hb dX12_sheet_72 (by decide) (fun c2134 => ?_) (fun c2134 => ?_)
                                                                      · exact absurd c2134 (by decide)
                                                                      · refine lv_aload_n hx hb dX12_sheet_75 rfl (lv_at hl 1 rfl) ?_
                                                                        refine va_get (D := D) (ci := 12) (v := .ref h11) (C := RX12) (T := TX12) (N := 24) hx hb hts hin12 hown hK hP 0 rfl rfl 18 (by decide) (hts (.fieldLink RX12 44 "MissedPointsModel" "items" "[I") (by decide +kernel)) (fun _ h9 => h9) rfl dX12_sheet_76 ?_
                                                                        refine lv_bipush (v := 40) hx hb dX12_sheet_79 (by decide) ?_
                                                                        refine lv_iload_n hx hb dX12_sheet_81 rfl (lv_at hl 2 rfl) ?_
                                                                        refine lv_imul hx hb dX12_sheet_82 ?_
                                                                        refine lz_top (y := 0) (by decide) ?_
                                                                        refine lv_iload hx hb dX12_sheet_83 (lv_at hl 0 rfl) ?_
                                                                        refine lv_iadd hx hb dX12_sheet_85 ?_
                                                                        refine lz_top (y := 24) (by decide) ?_
                                                                        refine lv_iconst (v := 0) hx hb dX12_sheet_86 (by decide) ?_
                                                                        refine lz_astc hx hb hK hP hD hS 3 0 rfl rfl (lz_vp (x := 24) (n := 160) (by decide) (by decide)) dX12_sheet_87 (fun H locs hP hD hS => ?_)
                                                                        refine lv_iinc (v := 25) (lv' := [(4, .int 25), (0, .ref h0), (1, .int 0), (2, .int (-1)), (3, .int x2)]) hx hb dX12_sheet_88 hl (k := 0) rfl (by decide) (by decide) rfl (fun ls hl => ?_)
                                                                        refine lv_goto (tgt := 68) hx hb dX12_sheet_91 (by decide) ?_
                                                                        refine lv_iload hx hb dX12_sheet_68 (lv_at hl 0 rfl) ?_
                                                                        refine lv_bipush (v := 40) hx hb dX12_sheet_70 (by decide) ?_
                                                                        refine lv_icmp_ge (tgt := 94) hx hb dX12_sheet_72 (by decide) (fun c2135 => ?_) (fun c2135 => ?_)
                                                                        · exact absurd c2135 (by decide)
                                                                        · refine lv_aload_n hx hb dX12_sheet_75 rfl (lv_at hl 1 rfl) ?_
                                                                          refine va_get (D := D) (ci := 12) (v := .ref h11) (C := RX12) (T := TX12) (N := 24) hx hb hts hin12 hown hK hP 0 rfl rfl 18 (by decide) (hts (.fieldLink RX12 44 "MissedPointsModel" "items" "[I") (by decide +kernel)) (fun _ h9 => h9) rfl dX12_sheet_76 ?_
                                                                          refine lv_bipush (v := 40) hx hb dX12_sheet_79 (by decide) ?_
                                                                          refine lv_iload_n hx hb dX12_sheet_81 rfl (lv_at hl 2 rfl) ?_
                                                                          refine lv_imul hx hb dX12_sheet_82 ?_
                                                                          refine lz_top (y := 0) (by decide) ?_
                                                                          refine lv_iload hx hb dX12_sheet_83 (lv_at hl 0 rfl) ?_
                                                                          refine lv_iadd hx hb dX12_sheet_85 ?_
                                                                          refine lz_top (y := 25) (by decide) ?_
                                                                          refine lv_iconst (v := 0) hx hb dX12_sheet_86 (by decide) ?_
                                                                          refine lz_astc hx hb hK hP hD hS 3 0 rfl rfl (lz_vp (x := 25) (n := 160) (by decide) (by decide)) dX12_sheet_87 (fun H locs hP hD hS => ?_)
                                                                          refine lv_iinc (v := 26) (lv' := [(4, .int 26), (0, .ref h0), (1, .int 0), (2, .int (-1)), (3, .int x2)]) hx hb dX12_sheet_88 hl (k := 0) rfl (by decide) (by decide) rfl (fun ls hl => ?_)
                                                                          refine lv_goto (tgt := 68) hx hb dX12_sheet_91 (by decide) ?_
                                                                          refine lv_iload hx hb dX12_sheet_68 (lv_at hl 0 rfl) ?_
                                                                          refine lv_bipush (v := 40) hx hb dX12_sheet_70 (by decide) ?_
                                                                          refine lv_icmp_ge (tgt := 94) hx hb dX12_sheet_72 (by decide) (fun c2136 => ?_) (fun c2136 => ?_)
                                                                          · exact absurd c2136 (by decide)
                                                                          · refine lv_aload_n hx hb dX12_sheet_75 rfl (lv_at hl 1 rfl) ?_
                                                                            refine va_get (D := D) (ci := 12) (v := .ref h11) (C := RX12) (T := TX12) (N := 24) hx hb hts hin12 hown hK hP 0 rfl rfl 18 (by decide) (hts (.fieldLink RX12 44 "MissedPointsModel" "items" "[I") (by decide +kernel)) (fun _ h9 => h9) rfl dX12_sheet_76 ?_
                                                                            refine lv_bipush (v := 40) hx hb dX12_sheet_79 (by decide) ?_
                                                                            refine lv_iload_n hx hb dX12_sheet_81 rfl (lv_at hl 2 rfl) ?_
                                                                            refine lv_imul hx hb dX12_sheet_82 ?_
                                                                            refine lz_top (y := 0) (by decide) ?_
                                                                            refine lv_iload hx hb dX12_sheet_83 (lv_at hl 0 rfl) ?_
                                                                            refine lv_iadd hx hb dX12_sheet_85 ?_
                                                                            refine lz_top (y := 26) (by decide) ?_
                                                                            refine lv_iconst (v := 0) hx hb dX12_sheet_86 (by decide) ?_
                                                                            refine lz_astc hx hb hK hP hD hS 3 0 rfl rfl (lz_vp (x := 26) (n := 160) (by decide) (by decide)) dX12_sheet_87 (fun H locs hP hD hS => ?_)
                                                                            refine lv_iinc (v := 27) (lv' := [(4, .int 27), (0, .ref h0), (1, .int 0), (2, .int (-1)), (3, .int x2)]) hx hb dX12_sheet_88 hl (k := 0) rfl (by decide) (by decide) rfl (fun ls hl => ?_)
                                                                            refine lv_goto (tgt := 68) hx hb dX12_sheet_91 (by decide) ?_
                                                                            refine lv_iload hx hb dX12_sheet_68 (lv_at hl 0 rfl) ?_
                                                                            refine lv_bipush (v := 40) hx hb dX12_sheet_70 (by decide) ?_
                                                                            refine lv_icmp_ge (tgt := 94) hx hb dX12_sheet_72 (by decide) (fun c2137 => ?_) (fun c2137 => ?_)
                                                                            · exact absurd c2137 (by decide)
                                                                            · refine lv_aload_n hx hb dX12_sheet_75 rfl (lv_at hl 1 rfl) ?_
                                                                              refine va_get (D := D) (ci := 12) (v := .ref h11) (C := RX12) (T := TX12) (N := 24) hx hb hts hin12 hown hK hP 0 rfl rfl 18 (by decide) (hts (.fieldLink RX12 44 "MissedPointsModel" "items" "[I") (by decide +kernel)) (fun _ h9 => h9) rfl dX12_sheet_76 ?_
                                                                              refine lv_bipush (v := 40) hx hb dX12_sheet_79 (by decide) ?_
                                                                              refine lv_iload_n hx hb dX12_sheet_81 rfl (lv_at hl 2 rfl) ?_
                                                                              refine lv_imul hx hb dX12_sheet_82 ?_
                                                                              refine lz_top (y := 0) (by decide) ?_
                                                                              refine lv_iload hx hb dX12_sheet_83 (lv_at hl 0 rfl) ?_
                                                                              refine lv_iadd hx hb dX12_sheet_85 ?_
                                                                              refine lz_top (y := 27) (by decide) ?_
                                                                              refine lv_iconst (v := 0) hx hb dX12_sheet_86 (by decide) ?_
                                                                              refine lz_astc hx hb hK hP hD hS 3 0 rfl rfl (lz_vp (x := 27) (n := 160) (by decide) (by decide)) dX12_sheet_87 (fun H locs hP hD hS => ?_)
                                                                              refine lv_iinc (v := 28) (lv' := [(4, .int 28), (0, .ref h0), (1, .int 0), (2, .int (-1)), (3, .int x2)]) hx hb dX12_sheet_88 hl (k := 0) rfl (by decide) (by decide) rfl (fun ls hl => ?_)
                                                                              refine lv_goto (tgt := 68) hx hb dX12_sheet_91 (by decide) ?_
                                                                              refine lv_iload hx hb dX12_sheet_68 (lv_at hl 0 rfl) ?_
                                                                              refine lv_bipush (v := 40) hx hb dX12_sheet_70 (by decide) ?_
                                                                              refine lv_icmp_ge (tgt := 94) hx hb dX12_sheet_72 (by decide) (fun c2138 => ?_) (fun c2138 => ?_)
                                                                              · exact absurd c2138 (by decide)
                                                                              · refine lv_aload_n hx hb dX12_sheet_75 rfl (lv_at hl 1 rfl) ?_
                                                                                refine va_get (D := D) (ci := 12) (v := .ref h11) (C := RX12) (T := TX12) (N := 24) hx hb hts hin12 hown hK hP 0 rfl rfl 18 (by decide) (hts (.fieldLink RX12 44 "MissedPointsModel" "items" "[I") (by decide +kernel)) (fun _ h9 => h9) rfl dX12_sheet_76 ?_
                                                                                refine lv_bipush (v := 40) hx hb dX12_sheet_79 (by decide) ?_
                                                                                refine lv_iload_n hx hb dX12_sheet_81 rfl (lv_at hl 2 rfl) ?_
                                                                                refine lv_imul hx hb dX12_sheet_82 ?_
                                                                                refine lz_top (y := 0) (by decide) ?_
                                                                                refine lv_iload hx hb dX12_sheet_83 (lv_at hl 0 rfl) ?_
                                                                                refine lv_iadd hx hb dX12_sheet_85 ?_
                                                                                refine lz_top (y := 28) (by decide) ?_
                                                                                refine lv_iconst (v := 0) hx hb dX12_sheet_86 (by decide) ?_
                                                                                refine lz_astc hx hb hK hP hD hS 3 0 rfl rfl (lz_vp (x := 28) (n := 160) (by decide) (by decide)) dX12_sheet_87 (fun H locs hP hD hS => ?_)
                                                                                refine lv_iinc (v := 29) (lv' := [(4, .int 29), (0, .ref h0), (1, .int 0), (2, .int (-1)), (3, .int x2)]) hx hb dX12_sheet_88 hl (k := 0) rfl (by decide) (by decide) rfl (fun ls hl => ?_)
                                                                                refine lv_goto (tgt := 68) hx hb dX12_sheet_91 (by decide) ?_
                                                                                refine lv_iload hx hb dX12_sheet_68 (lv_at hl 0 rfl) ?_
                                                                                refine lv_bipush (v := 40) hx hb dX12_sheet_70 (by decide) ?_
                                                                                refine lv_icmp_ge (tgt := 94) hx hb dX12_sheet_72 (by decide) (fun c2139 => ?_) (fun c2139 => ?_)
                                                                                · exact absurd c2139 (by decide)
                                                                                · refine lv_aload_n hx hb dX12_sheet_75 rfl (lv_at hl 1 rfl) ?_
                                                                                  refine va_get (D := D) (ci := 12) (v := .ref h11) (C := RX12) (T := TX12) (N := 24) hx hb hts hin12 hown hK hP 0 rfl rfl 18 (by decide) (hts (.fieldLink RX12 44 "MissedPointsModel" "items" "[I") (by decide +kernel)) (fun _ h9 => h9) rfl dX12_sheet_76 ?_
                                                                                  refine lv_bipush (v := 40) hx hb dX12_sheet_79 (by decide) ?_
                                                                                  refine lv_iload_n hx hb dX12_sheet_81 rfl (lv_at hl 2 rfl) ?_
                                                                                  refine lv_imul hx hb dX12_sheet_82 ?_
                                                                                  refine lz_top (y := 0) (by decide) ?_
                                                                                  refine lv_iload hx hb dX12_sheet_83 (lv_at hl 0 rfl) ?_
                                                                                  refine lv_iadd hx hb dX12_sheet_85 ?_
                                                                                  refine lz_top (y := 29) (by decide) ?_
                                                                                  refine lv_iconst (v := 0) hx hb dX12_sheet_86 (by decide) ?_
                                                                                  refine lz_astc hx hb hK hP hD hS 3 0 rfl rfl (lz_vp (x := 29) (n := 160) (by decide) (by decide)) dX12_sheet_87 (fun H locs hP hD hS => ?_)
                                                                                  refine lv_iinc (v := 30) (lv' := [(4, .int 30), (0, .ref h0), (1, .int 0), (2, .int (-1)), (3, .int x2)]) hx hb dX12_sheet_88 hl (k := 0) rfl (by decide) (by decide) rfl (fun ls hl => ?_)
                                                                                  refine lv_goto (tgt := 68) hx hb dX12_sheet_91 (by decide) ?_
                                                                                  refine lv_iload hx hb dX12_sheet_68 (lv_at hl 0 rfl) ?_
                                                                                  refine lv_bipush (v := 40) hx hb dX12_sheet_70 (by decide) ?_
                                                                                  refine lv_icmp_ge (tgt := 94) hx hb dX12_sheet_72 (by decide) (fun c2140 => ?_) (fun c2140 => ?_)
                                                                                  · exact absurd c2140 (by decide)
                                                                                  · refine lv_aload_n hx hb dX12_sheet_75 rfl (lv_at hl 1 rfl) ?_
                                                                                    refine va_get (D := D) (ci := 12) (v := .ref h11) (C := RX12) (T := TX12) (N := 24) hx hb hts hin12 hown hK hP 0 rfl rfl 18 (by decide) (hts (.fieldLink RX12 44 "MissedPointsModel" "items" "[I") (by decide +kernel)) (fun _ h9 => h9) rfl dX12_sheet_76 ?_
                                                                                    refine lv_bipush (v := 40) hx hb dX12_sheet_79 (by decide) ?_
                                                                                    refine lv_iload_n hx hb dX12_sheet_81 rfl (lv_at hl 2 rfl) ?_
                                                                                    refine lv_imul hx hb dX12_sheet_82 ?_
                                                                                    refine lz_top (y := 0) (by decide) ?_
                                                                                    refine lv_iload hx hb dX12_sheet_83 (lv_at hl 0 rfl) ?_
                                                                                    refine lv_iadd hx hb dX12_sheet_85 ?_
                                                                                    refine lz_top (y := 30) (by decide) ?_
                                                                                    refine lv_iconst (v := 0) hx hb dX12_sheet_86 (by decide) ?_
                                                                                    refine lz_astc hx hb hK hP hD hS 3 0 rfl rfl (lz_vp (x := 30) (n := 160) (by decide) (by decide)) dX12_sheet_87 (fun H locs hP hD hS => ?_)
                                                                                    refine lv_iinc (v := 31) (lv' := [(4, .int 31), (0, .ref h0), (1, .int 0), (2, .int (-1)), (3, .int x2)]) hx hb dX12_sheet_88 hl (k := 0) rfl (by decide) (by decide) rfl (fun ls hl => ?_)
                                                                                    refine lv_goto (tgt := 68) hx hb dX12_sheet_91 (by decide) ?_
                                                                                    refine lv_iload hx hb dX12_sheet_68 (lv_at hl 0 rfl) ?_
                                                                                    refine lv_bipush (v := 40) hx hb dX12_sheet_70 (by decide) ?_
                                                                                    refine lv_icmp_ge (tgt := 94) hx hb dX12_sheet_72 (by decide) (fun c2141 => ?_) (fun c2141 => ?_)
                                                                                    · exact absurd c2141 (by decide)
                                                                                    · refine lv_aload_n hx hb dX12_sheet_75 rfl (lv_at hl 1 rfl) ?_
                                                                                      refine va_get (D := D) (ci := 12) (v := .ref h11) (C := RX12) (T := TX12) (N := 24) hx hb hts hin12 hown hK hP 0 rfl rfl 18 (by decide) (hts (.fieldLink RX12 44 "MissedPointsModel" "items" "[I") (by decide +kernel)) (fun _ h9 => h9) rfl dX12_sheet_76 ?_
                                                                                      refine lv_bipush (v := 40) hx hb dX12_sheet_79 (by decide) ?_
                                                                                      refine lv_iload_n hx hb dX12_sheet_81 rfl (lv_at hl 2 rfl) ?_
                                                                                      refine lv_imul hx hb dX12_sheet_82 ?_
                                                                                      refine lz_top (y := 0) (by decide) ?_
                                                                                      refine lv_iload hx hb dX12_sheet_83 (lv_at hl 0 rfl) ?_
                                                                                      refine lv_iadd hx hb dX12_sheet_85 ?_
                                                                                      refine lz_top (y := 31) (by decide) ?_
                                                                                      refine lv_iconst (v := 0) hx hb dX12_sheet_86 (by decide) ?_
                                                                                      refine lz_astc hx hb hK hP hD hS 3 0 rfl rfl (lz_vp (x := 31) (n := 160) (by decide) (by decide)) dX12_sheet_87 (fun H locs hP hD hS => ?_)
                                                                                      refine lv_iinc (v := 32) (lv' := [(4, .int 32), (0, .ref h0), (1, .int 0), (2, .int (-1)), (3, .int x2)]) hx hb dX12_sheet_88 hl (k := 0) rfl (by decide) (by decide) rfl (fun ls hl => ?_)
                                                                                      refine lv_goto (tgt := 68) hx hb dX12_sheet_91 (by decide) ?_
                                                                                      refine lv_iload hx hb dX12_sheet_68 (lv_at hl 0 rfl) ?_
                                                                                      refine lv_bipush (v := 40) hx hb dX12_sheet_70 (by decide) ?_
                                                                                      refine lv_icmp_ge (tgt := 94) hx hb dX12_sheet_72 (by decide) (fun c2142 => ?_) (fun c2142 => ?_)
                                                                                      · exact absurd c2142 (by decide)
                                                                                      · refine lv_aload_n hx hb dX12_sheet_75 rfl (lv_at hl 1 rfl) ?_
                                                                                        refine va_get (D := D) (ci := 12) (v := .ref h11) (C := RX12) (T := TX12) (N := 24) hx hb hts hin12 hown hK hP 0 rfl rfl 18 (by decide) (hts (.fieldLink RX12 44 "MissedPointsModel" "items" "[I") (by decide +kernel)) (fun _ h9 => h9) rfl dX12_sheet_76 ?_
                                                                                        refine lv_bipush (v := 40) hx hb dX12_sheet_79 (by decide) ?_
                                                                                        refine lv_iload_n hx hb dX12_sheet_81 rfl (lv_at hl 2 rfl) ?_
                                                                                        refine lv_imul hx hb dX12_sheet_82 ?_
                                                                                        refine lz_top (y := 0) (by decide) ?_
                                                                                        refine lv_iload hx hb dX12_sheet_83 (lv_at hl 0 rfl) ?_
                                                                                        refine lv_iadd hx hb dX12_sheet_85 ?_
                                                                                        refine lz_top (y := 32) (by decide) ?_
                                                                                        refine lv_iconst (v := 0) hx hb dX12_sheet_86 (by decide) ?_
                                                                                        refine lz_astc hx hb hK hP hD hS 3 0 rfl rfl (lz_vp (x := 32) (n := 160) (by decide) (by decide)) dX12_sheet_87 (fun H locs hP hD hS => ?_)
                                                                                        refine lv_iinc (v := 33) (lv' := [(4, .int 33), (0, .ref h0), (1, .int 0), (2, .int (-1)), (3, .int x2)]) hx hb dX12_sheet_88 hl (k := 0) rfl (by decide) (by decide) rfl (fun ls hl => ?_)
                                                                                        refine lv_goto (tgt := 68) hx hb dX12_sheet_91 (by decide) ?_
                                                                                        refine lv_iload hx hb dX12_sheet_68 (lv_at hl 0 rfl) ?_
                                                                                        refine lv_bipush (v := 40) hx hb dX12_sheet_70 (by decide) ?_
                                                                                        refine lv_icmp_ge (tgt := 94) hx hb dX12_sheet_72 (by decide) (fun c2143 => ?_) (fun c2143 => ?_)
                                                                                        · exact absurd c2143 (by decide)
                                                                                        · refine lv_aload_n hx hb dX12_sheet_75 rfl (lv_at hl 1 rfl) ?_
                                                                                          refine va_get (D := D) (ci := 12) (v := .ref h11) (C := RX12) (T := TX12) (N := 24) hx hb hts hin12 hown hK hP 0 rfl rfl 18 (by decide) (hts (.fieldLink RX12 44 "MissedPointsModel" "items" "[I") (by decide +kernel)) (fun _ h9 => h9) rfl dX12_sheet_76 ?_
                                                                                          refine lv_bipush (v := 40) hx hb dX12_sheet_79 (by decide) ?_
                                                                                          refine lv_iload_n hx hb dX12_sheet_81 rfl (lv_at hl 2 rfl) ?_
                                                                                          refine lv_imul hx hb dX12_sheet_82 ?_
                                                                                          refine lz_top (y := 0) (by decide) ?_
                                                                                          refine lv_iload hx hb dX12_sheet_83 (lv_at hl 0 rfl) ?_
                                                                                          refine lv_iadd hx hb dX12_sheet_85 ?_
                                                                                          refine lz_top (y := 33) (by decide) ?_
                                                                                          refine lv_iconst (v := 0) hx hb dX12_sheet_86 (by decide) ?_
                                                                                          refine lz_astc hx hb hK hP hD hS 3 0 rfl rfl (lz_vp (x := 33) (n := 160) (by decide) (by decide)) dX12_sheet_87 (fun H locs hP hD hS => ?_)
                                                                                          refine lv_iinc (v := 34) (lv' := [(4, .int 34), (0, .ref h0), (1, .int 0), (2, .int (-1)), (3, .int x2)]) hx hb dX12_sheet_88 hl (k := 0) rfl (by decide) (by decide) rfl (fun ls hl => ?_)
                                                                                          refine lv_goto (tgt := 68) hx hb dX12_sheet_91 (by decide) ?_
                                                                                          refine lv_iload hx hb dX12_sheet_68 (lv_at hl 0 rfl) ?_
                                                                                          refine lv_bipush (v := 40) hx hb dX12_sheet_70 (by decide) ?_
                                                                                          refine lv_icmp_ge (tgt := 94) hx hb dX12_sheet_72 (by decide) (fun c2144 => ?_) (fun c2144 => ?_)
                                                                                          · exact absurd c2144 (by decide)
                                                                                          · refine lv_aload_n hx hb dX12_sheet_75 rfl (lv_at hl 1 rfl) ?_
                                                                                            refine va_get (D := D) (ci := 12) (v := .ref h11) (C := RX12) (T := TX12) (N := 24) hx hb hts hin12 hown hK hP 0 rfl rfl 18 (by decide) (hts (.fieldLink RX12 44 "MissedPointsModel" "items" "[I") (by decide +kernel)) (fun _ h9 => h9) rfl dX12_sheet_76 ?_
                                                                                            refine lv_bipush (v := 40) hx hb dX12_sheet_79 (by decide) ?_
                                                                                            refine lv_iload_n hx hb dX12_sheet_81 rfl (lv_at hl 2 rfl) ?_
                                                                                            refine lv_imul hx hb dX12_sheet_82 ?_
                                                                                            refine lz_top (y := 0) (by decide) ?_
                                                                                            refine lv_iload hx hb dX12_sheet_83 (lv_at hl 0 rfl) ?_
                                                                                            refine lv_iadd hx hb dX12_sheet_85 ?_
                                                                                            refine lz_top (y := 34) (by decide) ?_
                                                                                            refine lv_iconst (v := 0) hx hb dX12_sheet_86 (by decide) ?_
                                                                                            refine lz_astc hx hb hK hP hD hS 3 0 rfl rfl (lz_vp (x := 34) (n := 160) (by decide) (by decide)) dX12_sheet_87 (fun H locs hP hD hS => ?_)
                                                                                            refine lv_iinc (v := 35) (lv' := [(4, .int 35), (0, .ref h0), (1, .int 0), (2, .int (-1)), (3, .int x2)]) hx hb dX12_sheet_88 hl (k := 0) rfl (by decide) (by decide) rfl (fun ls hl => ?_)
                                                                                            refine lv_goto (tgt := 68) hx hb dX12_sheet_91 (by decide) ?_
                                                                                            refine lv_iload hx hb dX12_sheet_68 (lv_at hl 0 rfl) ?_
                                                                                            refine lv_bipush (v := 40) hx hb dX12_sheet_70 (by decide) ?_
                                                                                            refine lv_icmp_ge (tgt := 94) hx hb dX12_sheet_72 (by decide) (fun c2145 => ?_) (fun c2145 => ?_)
                                                                                            · exact absurd c2145 (by decide)
                                                                                            · refine lv_aload_n hx hb dX12_sheet_75 rfl (lv_at hl 1 rfl) ?_
                                                                                              refine va_get (D := D) (ci := 12) (v := .ref h11) (C := RX12) (T := TX12) (N := 24) hx hb hts hin12 hown hK hP 0 rfl rfl 18 (by decide) (hts (.fieldLink RX12 44 "MissedPointsModel" "items" "[I") (by decide +kernel)) (fun _ h9 => h9) rfl dX12_sheet_76 ?_
                                                                                              refine lv_bipush (v := 40) hx hb dX12_sheet_79 (by decide) ?_
                                                                                              refine lv_iload_n hx hb dX12_sheet_81 rfl (lv_at hl 2 rfl) ?_
                                                                                              refine lv_imul hx hb dX12_sheet_82 ?_
                                                                                              refine lz_top (y := 0) (by decide) ?_
                                                                                              refine lv_iload hx hb dX12_sheet_83 (lv_at hl 0 rfl) ?_
                                                                                              refine lv_iadd hx hb dX12_sheet_85 ?_
                                                                                              refine lz_top (y := 35) (by decide) ?_
                                                                                              refine lv_iconst (v := 0) hx hb dX12_sheet_86 (by decide) ?_
                                                                                              refine lz_astc hx hb hK hP hD hS 3 0 rfl rfl (lz_vp (x := 35) (n := 160) (by decide) (by decide)) dX12_sheet_87 (fun H locs hP hD hS => ?_)
                                                                                              refine lv_iinc (v := 36) (lv' := [(4, .int 36), (0, .ref h0), (1, .int 0), (2, .int (-1)), (3, .int x2)]) hx hb dX12_sheet_88 hl (k := 0) rfl (by decide) (by decide) rfl (fun ls hl => ?_)
                                                                                              refine lv_goto (tgt := 68) hx hb dX12_sheet_91 (by decide) ?_
                                                                                              refine lv_iload hx hb dX12_sheet_68 (lv_at hl 0 rfl) ?_
                                                                                              refine lv_bipush (v := 40) hx hb dX12_sheet_70 (by decide) ?_
                                                                                              refine lv_icmp_ge (tgt := 94) hx hb dX12_sheet_72 (by decide) (fun c2146 => ?_) (fun c2146 => ?_)
                                                                                              · exact absurd c2146 (by decide)
                                                                                              · refine lv_aload_n hx hb dX12_sheet_75 rfl (lv_at hl 1 rfl) ?_
                                                                                                refine va_get (D := D) (ci := 12) (v := .ref h11) (C := RX12) (T := TX12) (N := 24) hx hb hts hin12 hown hK hP 0 rfl rfl 18 (by decide) (hts (.fieldLink RX12 44 "MissedPointsModel" "items" "[I") (by decide +kernel)) (fun _ h9 => h9) rfl dX12_sheet_76 ?_
                                                                                                refine lv_bipush (v := 40) hx hb dX12_sheet_79 (by decide) ?_
                                                                                                refine lv_iload_n hx hb dX12_sheet_81 rfl (lv_at hl 2 rfl) ?_
                                                                                                refine lv_imul hx hb dX12_sheet_82 ?_
                                                                                                refine lz_top (y := 0) (by decide) ?_
                                                                                                refine lv_iload hx hb dX12_sheet_83 (lv_at hl 0 rfl) ?_
                                                                                                refine lv_iadd hx hb dX12_sheet_85 ?_
                                                                                                refine lz_top (y := 36) (by decide) ?_
                                                                                                refine lv_iconst (v := 0) hx hb dX12_sheet_86 (by decide) ?_
                                                                                                refine lz_astc hx hb hK hP hD hS 3 0 rfl rfl (lz_vp (x := 36) (n := 160) (by decide) (by decide)) dX12_sheet_87 (fun H locs hP hD hS => ?_)
                                                                                                refine lv_iinc (v := 37) (lv' := [(4, .int 37), (0, .ref h0), (1, .int 0), (2, .int (-1)), (3, .int x2)]) hx hb dX12_sheet_88 hl (k := 0) rfl (by decide) (by decide) rfl (fun ls hl => ?_)
                                                                                                refine lv_goto (tgt := 68) hx hb dX12_sheet_91 (by decide) ?_
                                                                                                refine lv_iload hx hb dX12_sheet_68 (lv_at hl 0 rfl) ?_
                                                                                                refine lv_bipush (v := 40) hx hb dX12_sheet_70 (by decide) ?_
                                                                                                refine lv_icmp_ge (tgt := 94) hx hb dX12_sheet_72 (by decide) (fun c2147 => ?_) (fun c2147 => ?_)
                                                                                                · exact absurd c2147 (by decide)
                                                                                                · refine lv_aload_n hx hb dX12_sheet_75 rfl (lv_at hl 1 rfl) ?_
                                                                                                  refine va_get (D := D) (ci := 12) (v := .ref h11) (C := RX12) (T := TX12) (N := 24) hx hb hts hin12 hown hK hP 0 rfl rfl 18 (by decide) (hts (.fieldLink RX12 44 "MissedPointsModel" "items" "[I") (by decide +kernel)) (fun _ h9 => h9) rfl dX12_sheet_76 ?_
                                                                                                  refine lv_bipush (v := 40) hx hb dX12_sheet_79 (by decide) ?_
                                                                                                  refine lv_iload_n hx hb dX12_sheet_81 rfl (lv_at hl 2 rfl) ?_
                                                                                                  refine lv_imul hx hb dX12_sheet_82 ?_
                                                                                                  refine lz_top (y := 0) (by decide) ?_
                                                                                                  refine lv_iload hx hb dX12_sheet_83 (lv_at hl 0 rfl) ?_
                                                                                                  refine lv_iadd hx hb dX12_sheet_85 ?_
                                                                                                  refine lz_top (y := 37) (by decide) ?_
                                                                                                  refine lv_iconst (v := 0) hx hb dX12_sheet_86 (by decide) ?_
                                                                                                  refine lz_astc hx hb hK hP hD hS 3 0 rfl rfl (lz_vp (x := 37) (n := 160) (by decide) (by decide)) dX12_sheet_87 (fun H locs hP hD hS => ?_)
                                                                                                  refine lv_iinc (v := 38) (lv' := [(4, .int 38), (0, .ref h0), (1, .int 0), (2, .int (-1)), (3, .int x2)]) hx hb dX12_sheet_88 hl (k := 0) rfl (by decide) (by decide) rfl (fun ls hl => ?_)
                                                                                                  refine lv_goto (tgt := 68) hx hb dX12_sheet_91 (by decide) ?_
                                                                                                  refine lv_iload hx hb dX12_sheet_68 (lv_at hl 0 rfl) ?_
                                                                                                  refine lv_bipush (v := 40) hx hb dX12_sheet_70 (by decide) ?_
                                                                                                  refine lv_icmp_ge (tgt := 94) hx hb dX12_sheet_72 (by decide) (fun c2148 => ?_) (fun c2148 => ?_)
                                                                                                  · exact absurd c2148 (by decide)
                                                                                                  · refine lv_aload_n hx hb dX12_sheet_75 rfl (lv_at hl 1 rfl) ?_
                                                                                                    refine va_get (D := D) (ci := 12) (v := .ref h11) (C := RX12) (T := TX12) (N := 24) hx hb hts hin12 hown hK hP 0 rfl rfl 18 (by decide) (hts (.fieldLink RX12 44 "MissedPointsModel" "items" "[I") (by decide +kernel)) (fun _ h9 => h9) rfl dX12_sheet_76 ?_
                                                                                                    refine lv_bipush (v := 40) hx hb dX12_sheet_79 (by decide) ?_
                                                                                                    refine lv_iload_n hx hb dX12_sheet_81 rfl (lv_at hl 2 rfl) ?_
                                                                                                    refine lv_imul hx hb dX12_sheet_82 ?_
                                                                                                    refine lz_top (y := 0) (by decide) ?_
                                                                                                    refine lv_iload hx hb dX12_sheet_83 (lv_at hl 0 rfl) ?_
                                                                                                    refine lv_iadd hx hb dX12_sheet_85 ?_
                                                                                                    refine lz_top (y := 38) (by decide) ?_
                                                                                                    refine lv_iconst (v := 0) hx hb dX12_sheet_86 (by decide) ?_
                                                                                                    refine lz_astc hx hb hK hP hD hS 3 0 rfl rfl (lz_vp (x := 38) (n := 160) (by decide) (by decide)) dX12_sheet_87 (fun H locs hP hD hS => ?_)
                                                                                                    refine lv_iinc (v := 39) (lv' := [(4, .int 39), (0, .ref h0), (1, .int 0), (2, .int (-1)), (3, .int x2)]) hx hb dX12_sheet_88 hl (k := 0) rfl (by decide) (by decide) rfl (fun ls hl => ?_)
                                                                                                    refine lv_goto (tgt := 68) hx hb dX12_sheet_91 (by decide) ?_
                                                                                                    refine lv_iload hx hb dX12_sheet_68 (lv_at hl 0 rfl) ?_
                                                                                                    refine lv_bipush (v := 40) hx hb dX12_sheet_70 (by decide) ?_
                                                                                                    refine lv_icmp_ge (tgt := 94) hx hb dX12_sheet_72 (by decide) (fun c2149 => ?_) (fun c2149 => ?_)
                                                                                                    · exact absurd c2149 (by decide)
                                                                                                    · refine lv_aload_n hx hb dX12_sheet_75 rfl (lv_at hl 1 rfl) ?_
                                                                                                      refine va_get (D := D) (ci := 12) (v := .ref h11) (C := RX12) (T := TX12) (N := 24) hx hb hts hin12 hown hK hP 0 rfl rfl 18 (by decide) (hts (.fieldLink RX12 44 "MissedPointsModel" "items" "[I") (by decide +kernel)) (fun _ h9 => h9) rfl dX12_sheet_76 ?_
                                                                                                      refine lv_bipush (v := 40) hx hb dX12_sheet_79 (by decide) ?_
                                                                                                      refine lv_iload_n hx hb dX12_sheet_81 rfl (lv_at hl 2 rfl) ?_
                                                                                                      refine lv_imul hx hb dX12_sheet_82 ?_
                                                                                                      refine lz_top (y := 0) (by decide) ?_
                                                                                                      refine lv_iload hx hb dX12_sheet_83 (lv_at hl 0 rfl) ?_
                                                                                                      refine lv_iadd hx hb dX12_sheet_85 ?_
                                                                                                      refine lz_top (y := 39) (by decide) ?_
                                                                                                      refine lv_iconst (v := 0) hx hb dX12_sheet_86 (by decide) ?_
                                                                                                      refine lz_astc hx hb hK hP hD hS 3 0 rfl rfl (lz_vp (x := 39) (n := 160) (by decide) (by decide)) dX12_sheet_87 (fun H locs hP hD hS => ?_)
                                                                                                      refine lv_iinc (v := 40) (lv' := [(4, .int 40), (0, .ref h0), (1, .int 0), (2, .int (-1)), (3, .int x2)]) hx hb dX12_sheet_88 hl (k := 0) rfl (by decide) (by decide) rfl (fun ls hl => ?_)
                                                                                                      refine lv_goto (tgt := 68) hx hb dX12_sheet_91 (by decide) ?_
                                                                                                      refine lv_iload hx hb dX12_sheet_68 (lv_at hl 0 rfl) ?_
                                                                                                      refine lv_bipush (v := 40) hx hb dX12_sheet_70 (by decide) ?_
                                                                                                      refine lv_icmp_ge (tgt := 94) hx hb dX12_sheet_72 (by decide) (fun c2150 => ?_) (fun c2150 => ?_)
                                                                                                      · refine lv_iconst (v := 1) hx hb dX12_sheet_94 (by decide) ?_
                                                                                                        have hP9 := hP.sub (ws' := []) [] rfl
                                                                                                        have hD9 := hD.sub (ws' := []) [] (by decide) rfl
                                                                                                        subst hAe
                                                                                                        exact W.iret (v := 1) hx hb hr (fun t ht hW => ⟨⟨_, (), rfl, by rw [if_neg k2095, if_neg k2097, if_neg k2101, if_neg k2103, if_pos rfl], by rw [ht]; exact hP9, hD9⟩, hS.F ht⟩) hS.2.2 dX12_sheet_95
                                                                                                      · exact absurd c2150 (by decide)
                  · by_cases k2151 : x0 = 1
                    · subst k2151
                      refine lv_aload_n hx hb dX12_sheet_42 rfl (lv_at hl 0 rfl) ?_
                      refine va_get (D := D) (ci := 12) (v := .ref h9) (C := RX12) (T := TX12) (N := 24) hx hb hts hin12 hown hK hP 0 rfl rfl 16 (by decide) (hts (.fieldLink RX12 38 "MissedPointsModel" "sort" "[I") (by decide +kernel)) (fun _ h9 => h9) rfl dX12_sheet_43 ?_
                      refine lv_iload_n hx hb dX12_sheet_46 rfl (lv_at hl 1 rfl) ?_
                      refine lv_iload_n hx hb dX12_sheet_47 rfl (lv_at hl 2 rfl) ?_
                      refine lz_astc hx hb hK hP hD hS 1 0 rfl rfl (lz_vp (x := 1) (n := 4) (by decide) (by decide)) dX12_sheet_48 (fun H locs hP hD hS => ?_)
                      refine lv_aload_n hx hb dX12_sheet_49 rfl (lv_at hl 0 rfl) ?_
                      refine va_get (D := D) (ci := 12) (v := .ref h10) (C := RX12) (T := TX12) (N := 24) hx hb hts hin12 hown hK hP 0 rfl rfl 17 (by decide) (hts (.fieldLink RX12 41 "MissedPointsModel" "size" "[I") (by decide +kernel)) (fun _ h9 => h9) rfl dX12_sheet_50 ?_
                      refine lv_iload_n hx hb dX12_sheet_53 rfl (lv_at hl 1 rfl) ?_
                      refine lv_iload_n hx hb dX12_sheet_54 rfl (lv_at hl 2 rfl) ?_
                      refine lv_iconst (v := (-1)) hx hb dX12_sheet_55 (by decide) ?_
                      refine lv_icmp_ne (tgt := 63) hx hb dX12_sheet_56 (by decide) (fun c2152 => ?_) (fun c2152 => ?_)
                      · exact absurd c2152 (by decide)
                      · refine lv_iconst (v := 0) hx hb dX12_sheet_59 (by decide) ?_
                        refine lv_goto (tgt := 64) hx hb dX12_sheet_60 (by decide) ?_
                        refine lz_astc hx hb hK hP hD hS 2 0 rfl rfl (lz_vp (x := 1) (n := 4) (by decide) (by decide)) dX12_sheet_64 (fun H locs hP hD hS => ?_)
                        refine lv_iconst (v := 0) hx hb dX12_sheet_65 (by decide) ?_
                        refine lv_istore (lv' := [(4, .int 0), (0, .ref h0), (1, .int 1), (2, .int (-1)), (3, .int x2)]) hx hb dX12_sheet_66 hl (by decide) rfl (fun ls hl => ?_)
                        refine lv_iload hx hb dX12_sheet_68 (lv_at hl 0 rfl) ?_
                        refine lv_bipush (v := 40) hx hb dX12_sheet_70 (by decide) ?_
                        refine lv_icmp_ge (tgt := 94) hx hb dX12_sheet_72 (by decide) (fun c2153 => ?_) (fun c2153 => ?_)
                        · exact absurd c2153 (by decide)
                        · refine lv_aload_n hx hb dX12_sheet_75 rfl (lv_at hl 1 rfl) ?_
                          refine va_get (D := D) (ci := 12) (v := .ref h11) (C := RX12) (T := TX12) (N := 24) hx hb hts hin12 hown hK hP 0 rfl rfl 18 (by decide) (hts (.fieldLink RX12 44 "MissedPointsModel" "items" "[I") (by decide +kernel)) (fun _ h9 => h9) rfl dX12_sheet_76 ?_
                          refine lv_bipush (v := 40) hx hb dX12_sheet_79 (by decide) ?_
                          refine lv_iload_n hx hb dX12_sheet_81 rfl (lv_at hl 2 rfl) ?_
                          refine lv_imul hx hb dX12_sheet_82 ?_
                          refine lz_top (y := 40) (by decide) ?_
                          refine lv_iload hx hb dX12_sheet_83 (lv_at hl 0 rfl) ?_
                          refine lv_iadd hx hb dX12_sheet_85 ?_
                          refine lz_top (y := 40) (by decide) ?_
                          refine lv_iconst (v := 0) hx hb dX12_sheet_86 (by decide) ?_
                          refine lz_astc hx hb hK hP hD hS 3 0 rfl rfl (lz_vp (x := 40) (n := 160) (by decide) (by decide)) dX12_sheet_87 (fun H locs hP hD hS => ?_)
                          refine lv_iinc (v := 1) (lv' := [(4, .int 1), (0, .ref h0), (1, .int 1), (2, .int (-1)), (3, .int x2)]) hx hb dX12_sheet_88 hl (k := 0) rfl (by decide) (by decide) rfl (fun ls hl => ?_)
                          refine lv_goto (tgt := 68) hx hb dX12_sheet_91 (by decide) ?_
                          refine lv_iload hx hb dX12_sheet_68 (lv_at hl 0 rfl) ?_
                          refine lv_bipush (v := 40) hx hb dX12_sheet_70 (by decide) ?_
                          refine lv_icmp_ge (tgt := 94) hx hb dX12_sheet_72 (by decide) (fun c2154 => ?_) (fun c2154 => ?_)
                          · exact absurd c2154 (by decide)
                          · refine lv_aload_n hx hb dX12_sheet_75 rfl (lv_at hl 1 rfl) ?_
                            refine va_get (D := D) (ci := 12) (v := .ref h11) (C := RX12) (T := TX12) (N := 24) hx hb hts hin12 hown hK hP 0 rfl rfl 18 (by decide) (hts (.fieldLink RX12 44 "MissedPointsModel" "items" "[I") (by decide +kernel)) (fun _ h9 => h9) rfl dX12_sheet_76 ?_
                            refine lv_bipush (v := 40) hx hb dX12_sheet_79 (by decide) ?_
                            refine lv_iload_n hx hb dX12_sheet_81 rfl (lv_at hl 2 rfl) ?_
                            refine lv_imul hx hb dX12_sheet_82 ?_
                            refine lz_top (y := 40) (by decide) ?_
                            refine lv_iload hx hb dX12_sheet_83 (lv_at hl 0 rfl) ?_
                            refine lv_iadd hx hb dX12_sheet_85 ?_
                            refine lz_top (y := 41) (by decide) ?_
                            refine lv_iconst (v := 0) hx hb dX12_sheet_86 (by decide) ?_
                            refine lz_astc hx hb hK hP hD hS 3 0 rfl rfl (lz_vp (x := 41) (n := 160) (by decide) (by decide)) dX12_sheet_87 (fun H locs hP hD hS => ?_)
                            refine lv_iinc (v := 2) (lv' := [(4, .int 2), (0, .ref h0), (1, .int 1), (2, .int (-1)), (3, .int x2)]) hx hb dX12_sheet_88 hl (k := 0) rfl (by decide) (by decide) rfl (fun ls hl => ?_)
                            refine lv_goto (tgt := 68) hx hb dX12_sheet_91 (by decide) ?_
                            refine lv_iload hx hb dX12_sheet_68 (lv_at hl 0 rfl) ?_
                            refine lv_bipush (v := 40) hx hb dX12_sheet_70 (by decide) ?_
                            refine lv_icmp_ge (tgt := 94) hx hb dX12_sheet_72 (by decide) (fun c2155 => ?_) (fun c2155 => ?_)
                            · exact absurd c2155 (by decide)
                            · refine lv_aload_n hx hb dX12_sheet_75 rfl (lv_at hl 1 rfl) ?_
                              refine va_get (D := D) (ci := 12) (v := .ref h11) (C := RX12) (T := TX12) (N := 24) hx hb hts hin12 hown hK hP 0 rfl rfl 18 (by decide) (hts (.fieldLink RX12 44 "MissedPointsModel" "items" "[I") (by decide +kernel)) (fun _ h9 => h9) rfl dX12_sheet_76 ?_
                              refine lv_bipush (v := 40) hx hb dX12_sheet_79 (by decide) ?_
                              refine lv_iload_n hx hb dX12_sheet_81 rfl (lv_at hl 2 rfl) ?_
                              refine lv_imul hx hb dX12_sheet_82 ?_
                              refine lz_top (y := 40) (by decide) ?_
                              refine lv_iload hx hb dX12_sheet_83 (lv_at hl 0 rfl) ?_
                              refine lv_iadd hx hb dX12_sheet_85 ?_
                              refine lz_top (y := 42) (by decide) ?_
                              refine lv_iconst (v := 0) hx hb dX12_sheet_86 (by decide) ?_
                              refine lz_astc hx hb hK hP hD hS 3 0 rfl rfl (lz_vp (x := 42) (n := 160) (by decide) (by decide)) dX12_sheet_87 (fun H locs hP hD hS => ?_)
                              refine lv_iinc (v := 3) (lv' := [(4, .int 3), (0, .ref h0), (1, .int 1), (2, .int (-1)), (3, .int x2)]) hx hb dX12_sheet_88 hl (k := 0) rfl (by decide) (by decide) rfl (fun ls hl => ?_)
                              refine lv_goto (tgt := 68) hx hb dX12_sheet_91 (by decide) ?_
                              refine lv_iload hx hb dX12_sheet_68 (lv_at hl 0 rfl) ?_
                              refine lv_bipush (v := 40) hx hb dX12_sheet_70 (by decide) ?_
                              refine lv_icmp_ge (tgt := 94) hx hb dX12_sheet_72 (by decide) (fun c2156 => ?_) (fun c2156 => ?_)
                              · exact absurd c2156 (by decide)
                              · refine lv_aload_n hx hb dX12_sheet_75 rfl (lv_at hl 1 rfl) ?_
                                refine va_get (D := D) (ci := 12) (v := .ref h11) (C := RX12) (T := TX12) (N := 24) hx hb hts hin12 hown hK hP 0 rfl rfl 18 (by decide) (hts (.fieldLink RX12 44 "MissedPointsModel" "items" "[I") (by decide +kernel)) (fun _ h9 => h9) rfl dX12_sheet_76 ?_
                                refine lv_bipush (v := 40) hx hb dX12_sheet_79 (by decide) ?_
                                refine lv_iload_n hx hb dX12_sheet_81 rfl (lv_at hl 2 rfl) ?_
                                refine lv_imul hx hb dX12_sheet_82 ?_
                                refine lz_top (y := 40) (by decide) ?_
                                refine lv_iload hx hb dX12_sheet_83 (lv_at hl 0 rfl) ?_
                                refine lv_iadd hx hb dX12_sheet_85 ?_
                                refine lz_top (y := 43) (by decide) ?_
                                refine lv_iconst (v := 0) hx hb dX12_sheet_86 (by decide) ?_
                                refine lz_astc hx hb hK hP hD hS 3 0 rfl rfl (lz_vp (x := 43) (n := 160) (by decide) (by decide)) dX12_sheet_87 (fun H locs hP hD hS => ?_)
                                refine lv_iinc (v := 4) (lv' := [(4, .int 4), (0, .ref h0), (1, .int 1), (2, .int (-1)), (3, .int x2)]) hx hb dX12_sheet_88 hl (k := 0) rfl (by decide) (by decide) rfl (fun ls hl => ?_)
                                refine lv_goto (tgt := 68) hx hb dX12_sheet_91 (by decide) ?_
                                refine lv_iload hx hb dX12_sheet_68 (lv_at hl 0 rfl) ?_
                                refine lv_bipush (v := 40) hx hb dX12_sheet_70 (by decide) ?_
                                refine lv_icmp_ge (tgt := 94) hx hb dX12_sheet_72 (by decide) (fun c2157 => ?_) (fun c2157 => ?_)
                                · exact absurd c2157 (by decide)
                                · refine lv_aload_n hx hb dX12_sheet_75 rfl (lv_at hl 1 rfl) ?_
                                  refine va_get (D := D) (ci := 12) (v := .ref h11) (C := RX12) (T := TX12) (N := 24) hx hb hts hin12 hown hK hP 0 rfl rfl 18 (by decide) (hts (.fieldLink RX12 44 "MissedPointsModel" "items" "[I") (by decide +kernel)) (fun _ h9 => h9) rfl dX12_sheet_76 ?_
                                  refine lv_bipush (v := 40) hx hb dX12_sheet_79 (by decide) ?_
                                  refine lv_iload_n hx hb dX12_sheet_81 rfl (lv_at hl 2 rfl) ?_
                                  refine lv_imul hx hb dX12_sheet_82 ?_
                                  refine lz_top (y := 40) (by decide) ?_
                                  refine lv_iload hx hb dX12_sheet_83 (lv_at hl 0 rfl) ?_
                                  refine lv_iadd hx hb dX12_sheet_85 ?_
                                  refine lz_top (y := 44) (by decide) ?_
                                  refine lv_iconst (v := 0) hx hb dX12_sheet_86 (by decide) ?_
                                  refine lz_astc hx hb hK hP hD hS 3 0 rfl rfl (lz_vp (x := 44) (n := 160) (by decide) (by decide)) dX12_sheet_87 (fun H locs hP hD hS => ?_)
                                  refine lv_iinc (v := 5) (lv' := [(4, .int 5), (0, .ref h0), (1, .int 1), (2, .int (-1)), (3, .int x2)]) hx hb dX12_sheet_88 hl (k := 0) rfl (by decide) (by decide) rfl (fun ls hl => ?_)
                                  refine lv_goto (tgt := 68) hx hb dX12_sheet_91 (by decide) ?_
                                  refine lv_iload hx hb dX12_sheet_68 (lv_at hl 0 rfl) ?_
                                  refine lv_bipush (v := 40) hx hb dX12_sheet_70 (by decide) ?_
                                  refine lv_icmp_ge (tgt := 94) hx hb dX12_sheet_72 (by decide) (fun c2158 => ?_) (fun c2158 => ?_)
                                  · exact absurd c2158 (by decide)
                                  · refine lv_aload_n hx hb dX12_sheet_75 rfl (lv_at hl 1 rfl) ?_
                                    refine va_get (D := D) (ci := 12) (v := .ref h11) (C := RX12) (T := TX12) (N := 24) hx hb hts hin12 hown hK hP 0 rfl rfl 18 (by decide) (hts (.fieldLink RX12 44 "MissedPointsModel" "items" "[I") (by decide +kernel)) (fun _ h9 => h9) rfl dX12_sheet_76 ?_
                                    refine lv_bipush (v := 40) hx hb dX12_sheet_79 (by decide) ?_
                                    refine lv_iload_n hx hb dX12_sheet_81 rfl (lv_at hl 2 rfl) ?_
                                    refine lv_imul hx hb dX12_sheet_82 ?_
                                    refine lz_top (y := 40) (by decide) ?_
                                    refine lv_iload hx hb dX12_sheet_83 (lv_at hl 0 rfl) ?_
                                    refine lv_iadd hx hb dX12_sheet_85 ?_
                                    refine lz_top (y := 45) (by decide) ?_
                                    refine lv_iconst (v := 0) hx hb dX12_sheet_86 (by decide) ?_
                                    refine lz_astc hx hb hK hP hD hS 3 0 rfl rfl (lz_vp (x := 45) (n := 160) (by decide) (by decide)) dX12_sheet_87 (fun H locs hP hD hS => ?_)
                                    refine lv_iinc (v := 6) (lv' := [(4, .int 6), (0, .ref h0), (1, .int 1), (2, .int (-1)), (3, .int x2)]) hx hb dX12_sheet_88 hl (k := 0) rfl (by decide) (by decide) rfl (fun ls hl => ?_)
                                    refine lv_goto (tgt := 68) hx hb dX12_sheet_91 (by decide) ?_
                                    refine lv_iload hx hb dX12_sheet_68 (lv_at hl 0 rfl) ?_
                                    refine lv_bipush (v := 40) hx hb dX12_sheet_70 (by decide) ?_
                                    refine lv_icmp_ge (tgt := 94) hx hb dX12_sheet_72 (by decide) (fun c2159 => ?_) (fun c2159 => ?_)
                                    · exact absurd c2159 (by decide)
                                    · refine lv_aload_n hx hb dX12_sheet_75 rfl (lv_at hl 1 rfl) ?_
                                      refine va_get (D := D) (ci := 12) (v := .ref h11) (C := RX12) (T := TX12) (N := 24) hx hb hts hin12 hown hK hP 0 rfl rfl 18 (by decide) (hts (.fieldLink RX12 44 "MissedPointsModel" "items" "[I") (by decide +kernel)) (fun _ h9 => h9) rfl dX12_sheet_76 ?_
                                      refine lv_bipush (v := 40) hx hb dX12_sheet_79 (by decide) ?_
                                      refine lv_iload_n hx hb dX12_sheet_81 rfl (lv_at hl 2 rfl) ?_
                                      refine lv_imul hx hb dX12_sheet_82 ?_
                                      refine lz_top (y := 40) (by decide) ?_
                                      refine lv_iload hx hb dX12_sheet_83 (lv_at hl 0 rfl) ?_
                                      refine lv_iadd hx hb dX12_sheet_85 ?_
                                      refine lz_top (y := 46) (by decide) ?_
                                      refine lv_iconst (v := 0) hx hb dX12_sheet_86 (by decide) ?_
                                      refine lz_astc hx hb hK hP hD hS 3 0 rfl rfl (lz_vp (x := 46) (n := 160) (by decide) (by decide)) dX12_sheet_87 (fun H locs hP hD hS => ?_)
                                      refine lv_iinc (v := 7) (lv' := [(4, .int 7), (0, .ref h0), (1, .int 1), (2, .int (-1)), (3, .int x2)]) hx hb dX12_sheet_88 hl (k := 0) rfl (by decide) (by decide) rfl (fun ls hl => ?_)
                                      refine lv_goto (tgt := 68) hx hb dX12_sheet_91 (by decide) ?_
                                      refine lv_iload hx hb dX12_sheet_68 (lv_at hl 0 rfl) ?_
                                      refine lv_bipush (v := 40) hx hb dX12_sheet_70 (by decide) ?_
                                      refine lv_icmp_ge (tgt := 94) hx hb dX12_sheet_72 (by decide) (fun c2160 => ?_) (fun c2160 => ?_)
                                      · exact absurd c2160 (by decide)
                                      · refine lv_aload_n hx hb dX12_sheet_75 rfl (lv_at hl 1 rfl) ?_
                                        refine va_get (D := D) (ci := 12) (v := .ref h11) (C := RX12) (T := TX12) (N := 24) hx hb hts hin12 hown hK hP 0 rfl rfl 18 (by decide) (hts (.fieldLink RX12 44 "MissedPointsModel" "items" "[I") (by decide +kernel)) (fun _ h9 => h9) rfl dX12_sheet_76 ?_
                                        refine lv_bipush (v := 40) hx hb dX12_sheet_79 (by decide) ?_
                                        refine lv_iload_n hx hb dX12_sheet_81 rfl (lv_at hl 2 rfl) ?_
                                        refine lv_imul hx hb dX12_sheet_82 ?_
                                        refine lz_top (y := 40) (by decide) ?_
                                        refine lv_iload hx hb dX12_sheet_83 (lv_at hl 0 rfl) ?_
                                        refine lv_iadd hx hb dX12_sheet_85 ?_
                                        refine lz_top (y := 47) (by decide) ?_
                                        refine lv_iconst (v := 0) hx hb dX12_sheet_86 (by decide) ?_
                                        refine lz_astc hx hb hK hP hD hS 3 0 rfl rfl (lz_vp (x := 47) (n := 160) (by decide) (by decide)) dX12_sheet_87 (fun H locs hP hD hS => ?_)
                                        refine lv_iinc (v := 8) (lv' := [(4, .int 8), (0, .ref h0), (1, .int 1), (2, .int (-1)), (3, .int x2)]) hx hb dX12_sheet_88 hl (k := 0) rfl (by decide) (by decide) rfl (fun ls hl => ?_)
                                        refine lv_goto (tgt := 68) hx hb dX12_sheet_91 (by decide) ?_
                                        refine lv_iload hx hb dX12_sheet_68 (lv_at hl 0 rfl) ?_
                                        refine lv_bipush (v := 40) hx hb dX12_sheet_70 (by decide) ?_
                                        refine lv_icmp_ge (tgt := 94) hx hb dX12_sheet_72 (by decide) (fun c2161 => ?_) (fun c2161 => ?_)
                                        · exact absurd c2161 (by decide)
                                        · refine lv_aload_n hx hb dX12_sheet_75 rfl (lv_at hl 1 rfl) ?_
                                          refine va_get (D := D) (ci := 12) (v := .ref h11) (C := RX12) (T := TX12) (N := 24) hx hb hts hin12 hown hK hP 0 rfl rfl 18 (by decide) (hts (.fieldLink RX12 44 "MissedPointsModel" "items" "[I") (by decide +kernel)) (fun _ h9 => h9) rfl dX12_sheet_76 ?_
                                          refine lv_bipush (v := 40) hx hb dX12_sheet_79 (by decide) ?_
                                          refine lv_iload_n hx hb dX12_sheet_81 rfl (lv_at hl 2 rfl) ?_
                                          refine lv_imul hx hb dX12_sheet_82 ?_
                                          refine lz_top (y := 40) (by decide) ?_
                                          refine lv_iload hx hb dX12_sheet_83 (lv_at hl 0 rfl) ?_
                                          refine lv_iadd hx hb dX12_sheet_85 ?_
                                          refine lz_top (y := 48) (by decide) ?_
                                          refine lv_iconst (v := 0) hx hb dX12_sheet_86 (by decide) ?_
                                          refine lz_astc hx hb hK hP hD hS 3 0 rfl rfl (lz_vp (x := 48) (n := 160) (by decide) (by decide)) dX12_sheet_87 (fun H locs hP hD hS => ?_)
                                          refine lv_iinc (v := 9) (lv' := [(4, .int 9), (0, .ref h0), (1, .int 1), (2, .int (-1)), (3, .int x2)]) hx hb dX12_sheet_88 hl (k := 0) rfl (by decide) (by decide) rfl (fun ls hl => ?_)
                                          refine lv_goto (tgt := 68) hx hb dX12_sheet_91 (by decide) ?_
                                          refine lv_iload hx hb dX12_sheet_68 (lv_at hl 0 rfl) ?_
                                          refine lv_bipush (v := 40) hx hb dX12_sheet_70 (by decide) ?_
                                          refine lv_icmp_ge (tgt := 94) hx hb dX12_sheet_72 (by decide) (fun c2162 => ?_) (fun c2162 => ?_)
                                          · exact absurd c2162 (by decide)
                                          · refine lv_aload_n hx hb dX12_sheet_75 rfl (lv_at hl 1 rfl) ?_
                                            refine va_get (D := D) (ci := 12) (v := .ref h11) (C := RX12) (T := TX12) (N := 24) hx hb hts hin12 hown hK hP 0 rfl rfl 18 (by decide) (hts (.fieldLink RX12 44 "MissedPointsModel" "items" "[I") (by decide +kernel)) (fun _ h9 => h9) rfl dX12_sheet_76 ?_
                                            refine lv_bipush (v := 40) hx hb dX12_sheet_79 (by decide) ?_
                                            refine lv_iload_n hx hb dX12_sheet_81 rfl (lv_at hl 2 rfl) ?_
                                            refine lv_imul hx hb dX12_sheet_82 ?_
                                            refine lz_top (y := 40) (by decide) ?_
                                            refine lv_iload hx hb dX12_sheet_83 (lv_at hl 0 rfl) ?_
                                            refine lv_iadd hx hb dX12_sheet_85 ?_
                                            refine lz_top (y := 49) (by decide) ?_
                                            refine lv_iconst (v := 0) hx hb dX12_sheet_86 (by decide) ?_
                                            refine lz_astc hx hb hK hP hD hS 3 0 rfl rfl (lz_vp (x := 49) (n := 160) (by decide) (by decide)) dX12_sheet_87 (fun H locs hP hD hS => ?_)
                                            refine lv_iinc (v := 10) (lv' := [(4, .int 10), (0, .ref h0), (1, .int 1), (2, .int (-1)), (3, .int x2)]) hx hb dX12_sheet_88 hl (k := 0) rfl (by decide) (by decide) rfl (fun ls hl => ?_)
                                            refine lv_goto (tgt := 68) hx hb dX12_sheet_91 (by decide) ?_
                                            refine lv_iload hx hb dX12_sheet_68 (lv_at hl 0 rfl) ?_
                                            refine lv_bipush (v := 40) hx hb dX12_sheet_70 (by decide) ?_
                                            refine lv_icmp_ge (tgt := 94) hx hb dX12_sheet_72 (by decide) (fun c2163 => ?_) (fun c2163 => ?_)
                                            · exact absurd c2163 (by decide)
                                            · refine lv_aload_n hx hb dX12_sheet_75 rfl (lv_at hl 1 rfl) ?_
                                              refine va_get (D := D) (ci := 12) (v := .ref h11) (C := RX12) (T := TX12) (N := 24) hx hb hts hin12 hown hK hP 0 rfl rfl 18 (by decide) (hts (.fieldLink RX12 44 "MissedPointsModel" "items" "[I") (by decide +kernel)) (fun _ h9 => h9) rfl dX12_sheet_76 ?_
                                              refine lv_bipush (v := 40) hx hb dX12_sheet_79 (by decide) ?_
                                              refine lv_iload_n hx hb dX12_sheet_81 rfl (lv_at hl 2 rfl) ?_
                                              refine lv_imul hx hb dX12_sheet_82 ?_
                                              refine lz_top (y := 40) (by decide) ?_
                                              refine lv_iload hx hb dX12_sheet_83 (lv_at hl 0 rfl) ?_
                                              refine lv_iadd hx hb dX12_sheet_85 ?_
                                              refine lz_top (y := 50) (by decide) ?_
                                              refine lv_iconst (v := 0) hx hb dX12_sheet_86 (by decide) ?_
                                              refine lz_astc hx hb hK hP hD hS 3 0 rfl rfl (lz_vp (x := 50) (n := 160) (by decide) (by decide)) dX12_sheet_87 (fun H locs hP hD hS => ?_)
                                              refine lv_iinc (v := 11) (lv' := [(4, .int 11), (0, .ref h0), (1, .int 1), (2, .int (-1)), (3, .int x2)]) hx hb dX12_sheet_88 hl (k := 0) rfl (by decide) (by decide) rfl (fun ls hl => ?_)
                                              refine lv_goto (tgt := 68) hx hb dX12_sheet_91 (by decide) ?_
                                              refine lv_iload hx hb dX12_sheet_68 (lv_at hl 0 rfl) ?_
                                              refine lv_bipush (v := 40) hx hb dX12_sheet_70 (by decide) ?_
                                              refine lv_icmp_ge (tgt := 94) hx hb dX12_sheet_72 (by decide) (fun c2164 => ?_) (fun c2164 => ?_)
                                              · exact absurd c2164 (by decide)
                                              · refine lv_aload_n hx hb dX12_sheet_75 rfl (lv_at hl 1 rfl) ?_
                                                refine va_get (D := D) (ci := 12) (v := .ref h11) (C := RX12) (T := TX12) (N := 24) hx hb hts hin12 hown hK hP 0 rfl rfl 18 (by decide) (hts (.fieldLink RX12 44 "MissedPointsModel" "items" "[I") (by decide +kernel)) (fun _ h9 => h9) rfl dX12_sheet_76 ?_
                                                refine lv_bipush (v := 40) hx hb dX12_sheet_79 (by decide) ?_
                                                refine lv_iload_n hx hb dX12_sheet_81 rfl (lv_at hl 2 rfl) ?_
                                                refine lv_imul hx hb dX12_sheet_82 ?_
                                                refine lz_top (y := 40) (by decide) ?_
                                                refine lv_iload hx hb dX12_sheet_83 (lv_at hl 0 rfl) ?_
                                                refine lv_iadd hx hb dX12_sheet_85 ?_
                                                refine lz_top (y := 51) (by decide) ?_
                                                refine lv_iconst (v := 0) hx hb dX12_sheet_86 (by decide) ?_
                                                refine lz_astc hx hb hK hP hD hS 3 0 rfl rfl (lz_vp (x := 51) (n := 160) (by decide) (by decide)) dX12_sheet_87 (fun H locs hP hD hS => ?_)
                                                refine lv_iinc (v := 12) (lv' := [(4, .int 12), (0, .ref h0), (1, .int 1), (2, .int (-1)), (3, .int x2)]) hx hb dX12_sheet_88 hl (k := 0) rfl (by decide) (by decide) rfl (fun ls hl => ?_)
                                                refine lv_goto (tgt := 68) hx hb dX12_sheet_91 (by decide) ?_
                                                refine lv_iload hx hb dX12_sheet_68 (lv_at hl 0 rfl) ?_
                                                refine lv_bipush (v := 40) hx hb dX12_sheet_70 (by decide) ?_
                                                refine lv_icmp_ge (tgt := 94) hx hb dX12_sheet_72 (by decide) (fun c2165 => ?_) (fun c2165 => ?_)
                                                · exact absurd c2165 (by decide)
                                                · refine lv_aload_n hx hb dX12_sheet_75 rfl (lv_at hl 1 rfl) ?_
                                                  refine va_get (D := D) (ci := 12) (v := .ref h11) (C := RX12) (T := TX12) (N := 24) hx hb hts hin12 hown hK hP 0 rfl rfl 18 (by decide) (hts (.fieldLink RX12 44 "MissedPointsModel" "items" "[I") (by decide +kernel)) (fun _ h9 => h9) rfl dX12_sheet_76 ?_
                                                  refine lv_bipush (v := 40) hx hb dX12_sheet_79 (by decide) ?_
                                                  refine lv_iload_n hx hb dX12_sheet_81 rfl (lv_at hl 2 rfl) ?_
                                                  refine lv_imul hx hb dX12_sheet_82 ?_
                                                  refine lz_top (y := 40) (by decide) ?_
                                                  refine lv_iload hx hb dX12_sheet_83 (lv_at hl 0 rfl) ?_
                                                  refine lv_iadd hx hb dX12_sheet_85 ?_
                                                  refine lz_top (y := 52) (by decide) ?_
                                                  refine lv_iconst (v := 0) hx hb dX12_sheet_86 (by decide) ?_
                                                  refine lz_astc hx hb hK hP hD hS 3 0 rfl rfl (lz_vp (x := 52) (n := 160) (by decide) (by decide)) dX12_sheet_87 (fun H locs hP hD hS => ?_)
                                                  refine lv_iinc (v := 13) (lv' := [(4, .int 13), (0, .ref h0), (1, .int 1), (2, .int (-1)), (3, .int x2)]) hx hb dX12_sheet_88 hl (k := 0) rfl (by decide) (by decide) rfl (fun ls hl => ?_)
                                                  refine lv_goto (tgt := 68) hx hb dX12_sheet_91 (by decide) ?_
                                                  refine lv_iload hx hb dX12_sheet_68 (lv_at hl 0 rfl) ?_
                                                  refine lv_bipush (v := 40) hx hb dX12_sheet_70 (by decide) ?_
                                                  refine lv_icmp_ge (tgt := 94) hx hb dX12_sheet_72 (by decide) (fun c2166 => ?_) (fun c2166 => ?_)
                                                  · exact absurd c2166 (by decide)
                                                  · refine lv_aload_n hx hb dX12_sheet_75 rfl (lv_at hl 1 rfl) ?_
                                                    refine va_get (D := D) (ci := 12) (v := .ref h11) (C := RX12) (T := TX12) (N := 24) hx hb hts hin12 hown hK hP 0 rfl rfl 18 (by decide) (hts (.fieldLink RX12 44 "MissedPointsModel" "items" "[I") (by decide +kernel)) (fun _ h9 => h9) rfl dX12_sheet_76 ?_
                                                    refine lv_bipush (v := 40) hx hb dX12_sheet_79 (by decide) ?_
                                                    refine lv_iload_n hx hb dX12_sheet_81 rfl (lv_at hl 2 rfl) ?_
                                                    refine lv_imul hx hb dX12_sheet_82 ?_
                                                    refine lz_top (y := 40) (by decide) ?_
                                                    refine lv_iload hx hb dX12_sheet_83 (lv_at hl 0 rfl) ?_
                                                    refine lv_iadd hx hb dX12_sheet_85 ?_
                                                    refine lz_top (y := 53) (by decide) ?_
                                                    refine lv_iconst (v := 0) hx hb dX12_sheet_86 (by decide) ?_
                                                    refine lz_astc hx hb hK hP hD hS 3 0 rfl rfl (lz_vp (x := 53) (n := 160) (by decide) (by decide)) dX12_sheet_87 (fun H locs hP hD hS => ?_)
                                                    refine lv_iinc (v := 14) (lv' := [(4, .int 14), (0, .ref h0), (1, .int 1), (2, .int (-1)), (3, .int x2)]) hx hb dX12_sheet_88 hl (k := 0) rfl (by decide) (by decide) rfl (fun ls hl => ?_)
                                                    refine lv_goto (tgt := 68) hx hb dX12_sheet_91 (by decide) ?_
                                                    refine lv_iload hx hb dX12_sheet_68 (lv_at hl 0 rfl) ?_
                                                    refine lv_bipush (v := 40) hx hb dX12_sheet_70 (by decide) ?_
                                                    refine lv_icmp_ge (tgt := 94) hx hb dX12_sheet_72 (by decide) (fun c2167 => ?_) (fun c2167 => ?_)
                                                    · exact absurd c2167 (by decide)
                                                    · refine lv_aload_n hx hb dX12_sheet_75 rfl (lv_at hl 1 rfl) ?_
                                                      refine va_get (D := D) (ci := 12) (v := .ref h11) (C := RX12) (T := TX12) (N := 24) hx hb hts hin12 hown hK hP 0 rfl rfl 18 (by decide) (hts (.fieldLink RX12 44 "MissedPointsModel" "items" "[I") (by decide +kernel)) (fun _ h9 => h9) rfl dX12_sheet_76 ?_
                                                      refine lv_bipush (v := 40) hx hb dX12_sheet_79 (by decide) ?_
                                                      refine lv_iload_n hx hb dX12_sheet_81 rfl (lv_at hl 2 rfl) ?_
                                                      refine lv_imul hx hb dX12_sheet_82 ?_
                                                      refine lz_top (y := 40) (by decide) ?_
                                                      refine lv_iload hx hb dX12_sheet_83 (lv_at hl 0 rfl) ?_
                                                      refine lv_iadd hx hb dX12_sheet_85 ?_
                                                      refine lz_top (y := 54) (by decide) ?_
                                                      refine lv_iconst (v := 0) hx hb dX12_sheet_86 (by decide) ?_
                                                      refine lz_astc hx hb hK hP hD hS 3 0 rfl rfl (lz_vp (x := 54) (n := 160) (by decide) (by decide)) dX12_sheet_87 (fun H locs hP hD hS => ?_)
                                                      refine lv_iinc (v := 15) (lv' := [(4, .int 15), (0, .ref h0), (1, .int 1), (2, .int (-1)), (3, .int x2)]) hx hb dX12_sheet_88 hl (k := 0) rfl (by decide) (by decide) rfl (fun ls hl => ?_)
                                                      refine lv_goto (tgt := 68) hx hb dX12_sheet_91 (by decide) ?_
                                                      refine lv_iload hx hb dX12_sheet_68 (lv_at hl 0 rfl) ?_
                                                      refine lv_bipush (v := 40) hx hb dX12_sheet_70 (by decide) ?_
                                                      refine lv_icmp_ge (tgt := 94) hx hb dX12_sheet_72 (by decide) (fun c2168 => ?_) (fun c2168 => ?_)
                                                      · exact absurd c2168 (by decide)
                                                      · refine lv_aload_n hx hb dX12_sheet_75 rfl (lv_at hl 1 rfl) ?_
                                                        refine va_get (D := D) (ci := 12) (v := .ref h11) (C := RX12) (T := TX12) (N := 24) hx hb hts hin12 hown hK hP 0 rfl rfl 18 (by decide) (hts (.fieldLink RX12 44 "MissedPointsModel" "items" "[I") (by decide +kernel)) (fun _ h9 => h9) rfl dX12_sheet_76 ?_
                                                        refine lv_bipush (v := 40) hx hb dX12_sheet_79 (by decide) ?_
                                                        refine lv_iload_n hx hb dX12_sheet_81 rfl (lv_at hl 2 rfl) ?_
                                                        refine lv_imul hx hb dX12_sheet_82 ?_
                                                        refine lz_top (y := 40) (by decide) ?_
                                                        refine lv_iload hx hb dX12_sheet_83 (lv_at hl 0 rfl) ?_
                                                        refine lv_iadd hx hb dX12_sheet_85 ?_
                                                        refine lz_top (y := 55) (by decide) ?_
                                                        refine lv_iconst (v := 0) hx hb dX12_sheet_86 (by decide) ?_
                                                        refine lz_astc hx hb hK hP hD hS 3 0 rfl rfl (lz_vp (x := 55) (n := 160) (by decide) (by decide)) dX12_sheet_87 (fun H locs hP hD hS => ?_)
                                                        refine lv_iinc (v := 16) (lv' := [(4, .int 16), (0, .ref h0), (1, .int 1), (2, .int (-1)), (3, .int x2)]) hx hb dX12_sheet_88 hl (k := 0) rfl (by decide) (by decide) rfl (fun ls hl => ?_)
                                                        refine lv_goto (tgt := 68) hx hb dX12_sheet_91 (by decide) ?_
                                                        refine lv_iload hx hb dX12_sheet_68 (lv_at hl 0 rfl) ?_
                                                        refine lv_bipush (v := 40) hx hb dX12_sheet_70 (by decide) ?_
                                                        refine lv_icmp_ge (tgt := 94) hx hb dX12_sheet_72 (by decide) (fun c2169 => ?_) (fun c2169 => ?_)
                                                        · exact absurd c2169 (by decide)
                                                        · refine lv_aload_n hx hb dX12_sheet_75 rfl (lv_at hl 1 rfl) ?_
                                                          refine va_get (D := D) (ci := 12) (v := .ref h11) (C := RX12) (T := TX12) (N := 24) hx hb hts hin12 hown hK hP 0 rfl rfl 18 (by decide) (hts (.fieldLink RX12 44 "MissedPointsModel" "items" "[I") (by decide +kernel)) (fun _ h9 => h9) rfl dX12_sheet_76 ?_
                                                          refine lv_bipush (v := 40) hx hb dX12_sheet_79 (by decide) ?_
                                                          refine lv_iload_n hx hb dX12_sheet_81 rfl (lv_at hl 2 rfl) ?_
                                                          refine lv_imul hx hb dX12_sheet_82 ?_
                                                          refine lz_top (y := 40) (by decide) ?_
                                                          refine lv_iload hx hb dX12_sheet_83 (lv_at hl 0 rfl) ?_
                                                          refine lv_iadd hx hb dX12_sheet_85 ?_
                                                          refine lz_top (y := 56) (by decide) ?_
                                                          refine lv_iconst (v := 0) hx hb dX12_sheet_86 (by decide) ?_
                                                          refine lz_astc hx hb hK hP hD hS 3 0 rfl rfl (lz_vp (x := 56) (n := 160) (by decide) (by decide)) dX12_sheet_87 (fun H locs hP hD hS => ?_)
                                                          refine lv_iinc (v := 17) (lv' := [(4, .int 17), (0, .ref h0), (1, .int 1), (2, .int (-1)), (3, .int x2)]) hx hb dX12_sheet_88 hl (k := 0) rfl (by decide) (by decide) rfl (fun ls hl => ?_)
                                                          refine lv_goto (tgt := 68) hx hb dX12_sheet_91 (by decide) ?_
                                                          refine lv_iload hx hb dX12_sheet_68 (lv_at hl 0 rfl) ?_
                                                          refine lv_bipush (v := 40) hx hb dX12_sheet_70 (by decide) ?_
                                                          refine lv_icmp_ge (tgt := 94) hx hb dX12_sheet_72 (by decide) (fun c2170 => ?_) (fun c2170 => ?_)
                                                          · exact absurd c2170 (by decide)
                                                          · refine lv_aload_n hx hb dX12_sheet_75 rfl (lv_at hl 1 rfl) ?_
                                                            refine va_get (D := D) (ci := 12) (v := .ref h11) (C := RX12) (T := TX12) (N := 24) hx hb hts hin12 hown hK hP 0 rfl rfl 18 (by decide) (hts (.fieldLink RX12 44 "MissedPointsModel" "items" "[I") (by decide +kernel)) (fun _ h9 => h9) rfl dX12_sheet_76 ?_
                                                            refine lv_bipush (v := 40) hx hb dX12_sheet_79 (by decide) ?_
                                                            refine lv_iload_n hx hb dX12_sheet_81 rfl (lv_at hl 2 rfl) ?_
                                                            refine lv_imul hx hb dX12_sheet_82 ?_
                                                            refine lz_top (y := 40) (by decide) ?_
                                                            refine lv_iload hx hb dX12_sheet_83 (lv_at hl 0 rfl) ?_
                                                            refine lv_iadd hx hb dX12_sheet_85 ?_
                                                            refine lz_top (y := 57) (by decide) ?_
                                                            refine lv_iconst (v := 0) hx hb dX12_sheet_86 (by decide) ?_
                                                            refine lz_astc hx hb hK hP hD hS 3 0 rfl rfl (lz_vp (x := 57) (n := 160) (by decide) (by decide)) dX12_sheet_87 (fun H locs hP hD hS => ?_)
                                                            refine lv_iinc (v := 18) (lv' := [(4, .int 18), (0, .ref h0), (1, .int 1), (2, .int (-1)), (3, .int x2)]) hx hb dX12_sheet_88 hl (k := 0) rfl (by decide) (by decide) rfl (fun ls hl => ?_)
                                                            refine lv_goto (tgt := 68) hx hb dX12_sheet_91 (by decide) ?_
                                                            refine lv_iload hx hb dX12_sheet_68 (lv_at hl 0 rfl) ?_
                                                            refine lv_bipush (v := 40) hx hb dX12_sheet_70 (by decide) ?_
                                                            refine lv_icmp_ge (tgt := 94) hx hb dX12_sheet_72 (by decide) (fun c2171 => ?_) (fun c2171 => ?_)
                                                            · exact absurd c2171 (by decide)
                                                            · refine lv_aload_n hx hb dX12_sheet_75 rfl (lv_at hl 1 rfl) ?_
                                                              refine va_get (D := D) (ci := 12) (v := .ref h11) (C := RX12) (T := TX12) (N := 24) hx hb hts hin12 hown hK hP 0 rfl rfl 18 (by decide) (hts (.fieldLink RX12 44 "MissedPointsModel" "items" "[I") (by decide +kernel)) (fun _ h9 => h9) rfl dX12_sheet_76 ?_
                                                              refine lv_bipush (v := 40) hx hb dX12_sheet_79 (by decide) ?_
                                                              refine lv_iload_n hx hb dX12_sheet_81 rfl (lv_at hl 2 rfl) ?_
                                                              refine lv_imul hx hb dX12_sheet_82 ?_
                                                              refine lz_top (y := 40) (by decide) ?_
                                                              refine lv_iload hx hb dX12_sheet_83 (lv_at hl 0 rfl) ?_
                                                              refine lv_iadd hx hb dX12_sheet_85 ?_
                                                              refine lz_top (y := 58) (by decide) ?_
                                                              refine lv_iconst (v := 0) hx hb dX12_sheet_86 (by decide) ?_
                                                              refine lz_astc hx hb hK hP hD hS 3 0 rfl rfl (lz_vp (x := 58) (n := 160) (by decide) (by decide)) dX12_sheet_87 (fun H locs hP hD hS => ?_)
                                                              refine lv_iinc (v := 19) (lv' := [(4, .int 19), (0, .ref h0), (1, .int 1), (2, .int (-1)), (3, .int x2)]) hx hb dX12_sheet_88 hl (k := 0) rfl (by decide) (by decide) rfl (fun ls hl => ?_)
                                                              refine lv_goto (tgt := 68) hx hb dX12_sheet_91 (by decide) ?_
                                                              refine lv_iload hx hb dX12_sheet_68 (lv_at hl 0 rfl) ?_
                                                              refine lv_bipush (v := 40) hx hb dX12_sheet_70 (by decide) ?_
                                                              refine lv_icmp_ge (tgt := 94) hx hb dX12_sheet_72 (by decide) (fun c2172 => ?_) (fun c2172 => ?_)
                                                              · exact absurd c2172 (by decide)
                                                              · refine lv_aload_n hx hb dX12_sheet_75 rfl (lv_at hl 1 rfl) ?_
                                                                refine va_get (D := D) (ci := 12) (v := .ref h11) (C := RX12) (T := TX12) (N := 24) hx hb hts hin12 hown hK hP 0 rfl rfl 18 (by decide) (hts (.fieldLink RX12 44 "MissedPointsModel" "items" "[I") (by decide +kernel)) (fun _ h9 => h9) rfl dX12_sheet_76 ?_
                                                                refine lv_bipush (v := 40) hx hb dX12_sheet_79 (by decide) ?_
                                                                refine lv_iload_n hx hb dX12_sheet_81 rfl (lv_at hl 2 rfl) ?_
                                                                refine lv_imul hx hb dX12_sheet_82 ?_
                                                                refine lz_top (y := 40) (by decide) ?_
                                                                refine lv_iload hx hb dX12_sheet_83 (lv_at hl 0 rfl) ?_
                                                                refine lv_iadd hx hb dX12_sheet_85 ?_
                                                                refine lz_top (y := 59) (by decide) ?_
                                                                refine lv_iconst (v := 0) hx hb dX12_sheet_86 (by decide) ?_
                                                                refine lz_astc hx hb hK hP hD hS 3 0 rfl rfl (lz_vp (x := 59) (n := 160) (by decide) (by decide)) dX12_sheet_87 (fun H locs hP hD hS => ?_)
                                                                refine lv_iinc (v := 20) (lv' := [(4, .int 20), (0, .ref h0), (1, .int 1), (2, .int (-1)), (3, .int x2)]) hx hb dX12_sheet_88 hl (k := 0) rfl (by decide) (by decide) rfl (fun ls hl => ?_)
                                                                refine lv_goto (tgt := 68) hx hb dX12_sheet_91 (by decide) ?_
                                                                refine lv_iload hx hb dX12_sheet_68 (lv_at hl 0 rfl) ?_
                                                                refine lv_bipush (v := 40) hx hb dX12_sheet_70 (by decide) ?_
                                                                refine lv_icmp_ge (tgt := 94) hx hb dX12_sheet_72 (by decide) (fun c2173 => ?_) (fun c2173 => ?_)
                                                                · exact absurd c2173 (by decide)
                                                                · refine lv_aload_n hx hb dX12_sheet_75 rfl (lv_at hl 1 rfl) ?_
                                                                  refine va_get (D := D) (ci := 12) (v := .ref h11) (C := RX12) (T := TX12) (N := 24) hx hb hts hin12 hown hK hP 0 rfl rfl 18 (by decide) (hts (.fieldLink RX12 44 "MissedPointsModel" "items" "[I") (by decide +kernel)) (fun _ h9 => h9) rfl dX12_sheet_76 ?_
                                                                  refine lv_bipush (v := 40) hx hb dX12_sheet_79 (by decide) ?_
                                                                  refine lv_iload_n hx hb dX12_sheet_81 rfl (lv_at hl 2 rfl) ?_
                                                                  refine lv_imul hx hb dX12_sheet_82 ?_
                                                                  refine lz_top (y := 40) (by decide) ?_
                                                                  refine lv_iload hx hb dX12_sheet_83 (lv_at hl 0 rfl) ?_
                                                                  refine lv_iadd hx hb dX12_sheet_85 ?_
                                                                  refine lz_top (y := 60) (by decide) ?_
                                                                  refine lv_iconst (v := 0) hx hb dX12_sheet_86 (by decide) ?_
                                                                  refine lz_astc hx hb hK hP hD hS 3 0 rfl rfl (lz_vp (x := 60) (n := 160) (by decide) (by decide)) dX12_sheet_87 (fun H locs hP hD hS => ?_)
                                                                  refine lv_iinc (v := 21) (lv' := [(4, .int 21), (0, .ref h0), (1, .int 1), (2, .int (-1)), (3, .int x2)]) hx hb dX12_sheet_88 hl (k := 0) rfl (by decide) (by decide) rfl (fun ls hl => ?_)
                                                                  refine lv_goto (tgt := 68) hx hb dX12_sheet_91 (by decide) ?_
                                                                  refine lv_iload hx hb dX12_sheet_68 (lv_at hl 0 rfl) ?_
                                                                  refine lv_bipush (v := 40) hx hb dX12_sheet_70 (by decide) ?_
                                                                  refine lv_icmp_ge (tgt := 94) hx hb dX12_sheet_72 (by decide) (fun c2174 => ?_) (fun c2174 => ?_)
                                                                  · exact absurd c2174 (by decide)
                                                                  · refine lv_aload_n hx hb dX12_sheet_75 rfl (lv_at hl 1 rfl) ?_
                                                                    refine va_get (D := D) (ci := 12) (v := .ref h11) (C := RX12) (T := TX12) (N := 24) hx hb hts hin12 hown hK hP 0 rfl rfl 18 (by decide) (hts (.fieldLink RX12 44 "MissedPointsModel" "items" "[I") (by decide +kernel)) (fun _ h9 => h9) rfl dX12_sheet_76 ?_
                                                                    refine lv_bipush (v := 40) hx hb dX12_sheet_79 (by decide) ?_
                                                                    refine lv_iload_n hx hb dX12_sheet_81 rfl (lv_at hl 2 rfl) ?_
                                                                    refine lv_imul hx hb dX12_sheet_82 ?_
                                                                    refine lz_top (y := 40) (by decide) ?_
                                                                    refine lv_iload hx hb dX12_sheet_83 (lv_at hl 0 rfl) ?_
                                                                    refine lv_iadd hx hb dX12_sheet_85 ?_
                                                                    refine lz_top (y := 61) (by decide) ?_
                                                                    refine lv_iconst (v := 0) hx hb dX12_sheet_86 (by decide) ?_
                                                                    refine lz_astc hx hb hK hP hD hS 3 0 rfl rfl (lz_vp (x := 61) (n := 160) (by decide) (by decide)) dX12_sheet_87 (fun H locs hP hD hS => ?_)
                                                                    refine lv_iinc (v := 22) (lv' := [(4, .int 22), (0, .ref h0), (1, .int 1), (2, .int (-1)), (3, .int x2)]) hx hb dX12_sheet_88 hl (k := 0) rfl (by decide) (by decide) rfl (fun ls hl => ?_)
                                                                    refine lv_goto (tgt := 68) hx hb dX12_sheet_91 (by decide) ?_
                                                                    refine lv_iload hx hb dX12_sheet_68 (lv_at hl 0 rfl) ?_
                                                                    refine lv_bipush (v := 40) hx hb dX12_sheet_70 (by decide) ?_
                                                                    refine lv_icmp_ge (tgt := 94) hx hb dX12_sheet_72 (by decide) (fun c2175 => ?_) (fun c2175 => ?_)
                                                                    · exact absurd c2175 (by decide)
                                                                    · refine lv_aload_n hx hb dX12_sheet_75 rfl (lv_at hl 1 rfl) ?_
                                                                      refine va_get (D := D) (ci := 12) (v := .ref h11) (C := RX12) (T := TX12) (N := 24) hx hb hts hin12 hown hK hP 0 rfl rfl 18 (by decide) (hts (.fieldLink RX12 44 "MissedPointsModel" "items" "[I") (by decide +kernel)) (fun _ h9 => h9) rfl dX12_sheet_76 ?_
                                                                      refine lv_bipush (v := 40) hx hb dX12_sheet_79 (by decide) ?_
                                                                      refine lv_iload_n hx hb dX12_sheet_81 rfl (lv_at hl 2 rfl) ?_
                                                                      refine lv_imul hx hb dX12_sheet_82 ?_
                                                                      refine lz_top (y := 40) (by decide) ?_
                                                                      refine lv_iload hx hb dX12_sheet_83 (lv_at hl 0 rfl) ?_
                                                                      refine lv_iadd hx hb dX12_sheet_85 ?_
                                                                      refine lz_top (y := 62) (by decide) ?_
                                                                      refine lv_iconst (v := 0) hx hb dX12_sheet_86 (by decide) ?_
                                                                      refine lz_astc hx hb hK hP hD hS 3 0 rfl rfl (lz_vp (x := 62) (n := 160) (by decide) (by decide)) dX12_sheet_87 (fun H locs hP hD hS => ?_)
                                                                      refine lv_iinc (v := 23) (lv' := [(4, .int 23), (0, .ref h0), (1, .int 1), (2, .int (-1)), (3, .int x2)]) hx hb dX12_sheet_88 hl (k := 0) rfl (by decide) (by decide) rfl (fun ls hl => ?_)
                                                                      refine lv_goto (tgt := 68) hx hb dX12_sheet_91 (by decide) ?_
                                                                      refine lv_iload hx hb dX12_sheet_68 (lv_at hl 0 rfl) ?_
                                                                      refine lv_bipush (v := 40) hx hb dX12_sheet_70 (by decide) ?_
                                                                      refine lv_icmp_ge (tgt := 94) hx hb dX12_sheet_72 (by decide) (fun c2176 => ?_) (fun c2176 => ?_)
                                                                      · exact absurd c2176 (by decide)
                                                                      · refine lv_aload_n hx hb dX12_sheet_75 rfl (lv_at hl 1 rfl) ?_
                                                                        refine va_get (D := D) (ci := 12) (v := .ref h11) (C := RX12) (T := TX12) (N := 24) hx hb hts hin12 hown hK hP 0 rfl rfl 18 (by decide) (hts (.fieldLink RX12 44 "MissedPointsModel" "items" "[I") (by decide +kernel)) (fun _ h9 => h9) rfl dX12_sheet_76 ?_
                                                                        refine lv_bipush (v := 40) hx hb dX12_sheet_79 (by decide) ?_
                                                                        refine lv_iload_n hx hb dX12_sheet_81 rfl (lv_at hl 2 rfl) ?_
                                                                        refine lv_imul hx hb dX12_sheet_82 ?_
                                                                        refine lz_top (y := 40) (by decide) ?_
                                                                        refine lv_iload hx hb dX12_sheet_83 (lv_at hl 0 rfl) ?_
                                                                        refine lv_iadd hx hb dX12_sheet_85 ?_
                                                                        refine lz_top (y := 63) (by decide) ?_
                                                                        refine lv_iconst (v := 0) hx hb dX12_sheet_86 (by decide) ?_
                                                                        refine lz_astc hx hb hK hP hD hS 3 0 rfl rfl (lz_vp (x := 63) (n := 160) (by decide) (by decide)) dX12_sheet_87 (fun H locs hP hD hS => ?_)
                                                                        refine lv_iinc (v := 24) (lv' := [(4, .int 24), (0, .ref h0), (1, .int 1), (2, .int (-1)), (3, .int x2)]) hx hb dX12_sheet_88 hl (k := 0) rfl (by decide) (by decide) rfl (fun ls hl => ?_)
                                                                        refine lv_goto (tgt := 68) hx hb dX12_sheet_91 (by decide) ?_
                                                                        refine lv_iload hx hb dX12_sheet_68 (lv_at hl 0 rfl) ?_
                                                                        refine lv_bipush (v := 40) hx hb dX12_sheet_70 (by decide) ?_
                                                                        refine lv_icmp_ge (tgt := 94) hx hb dX12_sheet_72 (by decide) (fun c2177 => ?_) (fun c2177 => ?_)
                                                                        · exact absurd c2177 (by decide)
                                                                        · refine lv_aload_n hx hb dX12_sheet_75 rfl (lv_at hl 1 rfl) ?_
                                                                          refine va_get (D := D) (ci := 12) (v := .ref h11) (C := RX12) (T := TX12) (N := 24) hx hb hts hin12 hown hK hP 0 rfl rfl 18 (by decide) (hts (.fieldLink RX12 44 "MissedPointsModel" "items" "[I") (by decide +kernel)) (fun _ h9 => h9) rfl dX12_sheet_76 ?_
                                                                          refine lv_bipush (v := 40) hx hb dX12_sheet_79 (by decide) ?_
                                                                          refine lv_iload_n hx hb dX12_sheet_81 rfl (lv_at hl 2 rfl) ?_
                                                                          refine lv_imul hx hb dX12_sheet_82 ?_
                                                                          refine lz_top (y := 40) (by decide) ?_
                                                                          refine lv_iload hx hb dX12_sheet_83 (lv_at hl 0 rfl) ?_
                                                                          refine lv_iadd hx hb dX12_sheet_85 ?_
                                                                          refine lz_top (y := 64) (by decide) ?_
                                                                          refine lv_iconst (v := 0) hx hb dX12_sheet_86 (by decide) ?_
                                                                          refine lz_astc hx hb hK hP hD hS 3 0 rfl rfl (lz_vp (x := 64) (n := 160) (by decide) (by decide)) dX12_sheet_87 (fun H locs hP hD hS => ?_)
                                                                          refine lv_iinc (v := 25) (lv' := [(4, .int 25), (0, .ref h0), (1, .int 1), (2, .int (-1)), (3, .int x2)]) hx hb dX12_sheet_88 hl (k := 0) rfl (by decide) (by decide) rfl (fun ls hl => ?_)
                                                                          refine lv_goto (tgt := 68) hx hb dX12_sheet_91 (by decide) ?_
                                                                          refine lv_iload hx hb dX12_sheet_68 (lv_at hl 0 rfl) ?_
                                                                          refine lv_bipush (v := 40) hx hb dX12_sheet_70 (by decide) ?_
                                                                          refine lv_icmp_ge (tgt := 94) hx hb dX12_sheet_72 (by decide) (fun c2178 => ?_) (fun c2178 => ?_)
                                                                          · exact absurd c2178 (by decide)
                                                                          · refine lv_aload_n hx hb dX12_sheet_75 rfl (lv_at hl 1 rfl) ?_
                                                                            refine va_get (D := D) (ci := 12) (v := .ref h11) (C := RX12) (T := TX12) (N := 24) hx hb hts hin12 hown hK hP 0 rfl rfl 18 (by decide) (hts (.fieldLink RX12 44 "MissedPointsModel" "items" "[I") (by decide +kernel)) (fun _ h9 => h9) rfl dX12_sheet_76 ?_
                                                                            refine lv_bipush (v := 40) hx hb dX12_sheet_79 (by decide) ?_
                                                                            refine lv_iload_n hx hb dX12_sheet_81 rfl (lv_at hl 2 rfl) ?_
                                                                            refine lv_imul hx hb dX12_sheet_82 ?_
                                                                            refine lz_top (y := 40) (by decide) ?_
                                                                            refine lv_iload hx hb dX12_sheet_83 (lv_at hl 0 rfl) ?_
                                                                            refine lv_iadd hx hb dX12_sheet_85 ?_
                                                                            refine lz_top (y := 65) (by decide) ?_
                                                                            refine lv_iconst (v := 0) hx hb dX12_sheet_86 (by decide) ?_
                                                                            refine lz_astc hx hb hK hP hD hS 3 0 rfl rfl (lz_vp (x := 65) (n := 160) (by decide) (by decide)) dX12_sheet_87 (fun H locs hP hD hS => ?_)
                                                                            refine lv_iinc (v := 26) (lv' := [(4, .int 26), (0, .ref h0), (1, .int 1), (2, .int (-1)), (3, .int x2)]) hx hb dX12_sheet_88 hl (k := 0) rfl (by decide) (by decide) rfl (fun ls hl => ?_)
                                                                            refine lv_goto (tgt := 68) hx hb dX12_sheet_91 (by decide) ?_
                                                                            refine lv_iload hx hb dX12_sheet_68 (lv_at hl 0 rfl) ?_
                                                                            refine lv_bipush (v := 40) hx hb dX12_sheet_70 (by decide) ?_
                                                                            refine lv_icmp_ge (tgt := 94) hx hb dX12_sheet_72 (by decide) (fun c2179 => ?_) (fun c2179 => ?_)
                                                                            · exact absurd c2179 (by decide)
                                                                            · refine lv_aload_n hx hb dX12_sheet_75 rfl (lv_at hl 1 rfl) ?_
                                                                              refine va_get (D := D) (ci := 12) (v := .ref h11) (C := RX12) (T := TX12) (N := 24) hx hb hts hin12 hown hK hP 0 rfl rfl 18 (by decide) (hts (.fieldLink RX12 44 "MissedPointsModel" "items" "[I") (by decide +kernel)) (fun _ h9 => h9) rfl dX12_sheet_76 ?_
                                                                              refine lv_bipush (v := 40) hx hb dX12_sheet_79 (by decide) ?_
                                                                              refine lv_iload_n hx hb dX12_sheet_81 rfl (lv_at hl 2 rfl) ?_
                                                                              refine lv_imul hx hb dX12_sheet_82 ?_
                                                                              refine lz_top (y := 40) (by decide) ?_
                                                                              refine lv_iload hx hb dX12_sheet_83 (lv_at hl 0 rfl) ?_
                                                                              refine lv_iadd hx hb dX12_sheet_85 ?_
                                                                              refine lz_top (y := 66) (by decide) ?_
                                                                              refine lv_iconst (v := 0) hx hb dX12_sheet_86 (by decide) ?_
                                                                              refine lz_astc hx hb hK hP hD hS 3 0 rfl rfl (lz_vp (x := 66) (n := 160) (by decide) (by decide)) dX12_sheet_87 (fun H locs hP hD hS => ?_)
                                                                              refine lv_iinc (v := 27) (lv' := [(4, .int 27), (0, .ref h0), (1, .int 1), (2, .int (-1)), (3, .int x2)]) hx hb dX12_sheet_88 hl (k := 0) rfl (by decide) (by decide) rfl (fun ls hl => ?_)
                                                                              refine lv_goto (tgt := 68) hx hb dX12_sheet_91 (by decide) ?_
                                                                              refine lv_iload hx hb dX12_sheet_68 (lv_at hl 0 rfl) ?_
                                                                              refine lv_bipush (v := 40) hx hb dX12_sheet_70 (by decide) ?_
                                                                              refine lv_icmp_ge (tgt := 94) hx hb dX12_sheet_72 (by decide) (fun c2180 => ?_) (fun c2180 => ?_)
                                                                              · exact absurd c2180 (by decide)
                                                                              · refine lv_aload_n hx hb dX12_sheet_75 rfl (lv_at hl 1 rfl) ?_
                                                                                refine va_get (D := D) (ci := 12) (v := .ref h11) (C := RX12) (T := TX12) (N := 24) hx hb hts hin12 hown hK hP 0 rfl rfl 18 (by decide) (hts (.fieldLink RX12 44 "MissedPointsModel" "items" "[I") (by decide +kernel)) (fun _ h9 => h9) rfl dX12_sheet_76 ?_
                                                                                refine lv_bipush (v := 40) hx hb dX12_sheet_79 (by decide) ?_
                                                                                refine lv_iload_n hx hb dX12_sheet_81 rfl (lv_at hl 2 rfl) ?_
                                                                                refine lv_imul hx hb dX12_sheet_82 ?_
                                                                                refine lz_top (y := 40) (by decide) ?_
                                                                                refine lv_iload hx hb dX12_sheet_83 (lv_at hl 0 rfl) ?_
                                                                                refine lv_iadd hx hb dX12_sheet_85 ?_
                                                                                refine lz_top (y := 67) (by decide) ?_
                                                                                refine lv_iconst (v := 0) hx hb dX12_sheet_86 (by decide) ?_
                                                                                refine lz_astc hx hb hK hP hD hS 3 0 rfl rfl (lz_vp (x := 67) (n := 160) (by decide) (by decide)) dX12_sheet_87 (fun H locs hP hD hS => ?_)
                                                                                refine lv_iinc (v := 28) (lv' := [(4, .int 28), (0, .ref h0), (1, .int 1), (2, .int (-1)), (3, .int x2)]) hx hb dX12_sheet_88 hl (k := 0) rfl (by decide) (by decide) rfl (fun ls hl => ?_)
                                                                                refine lv_goto (tgt := 68) hx hb dX12_sheet_91 (by decide) ?_
                                                                                refine lv_iload hx hb dX12_sheet_68 (lv_at hl 0 rfl) ?_
                                                                                refine lv_bipush (v := 40) hx hb dX12_sheet_70 (by decide) ?_
                                                                                refine lv_icmp_ge (tgt := 94) hx hb dX12_sheet_72 (by decide) (fun c2181 => ?_) (fun c2181 => ?_)
                                                                                · exact absurd c2181 (by decide)
                                                                                · refine lv_aload_n hx hb dX12_sheet_75 rfl (lv_at hl 1 rfl) ?_
                                                                                  refine va_get (D := D) (ci := 12) (v := .ref h11) (C := RX12) (T := TX12) (N := 24) hx hb hts hin12 hown hK hP 0 rfl rfl 18 (by decide) (hts (.fieldLink RX12 44 "MissedPointsModel" "items" "[I") (by decide +kernel)) (fun _ h9 => h9) rfl dX12_sheet_76 ?_
                                                                                  refine lv_bipush (v := 40) hx hb dX12_sheet_79 (by decide) ?_
                                                                                  refine lv_iload_n hx hb dX12_sheet_81 rfl (lv_at hl 2 rfl) ?_
                                                                                  refine lv_imul hx hb dX12_sheet_82 ?_
                                                                                  refine lz_top (y := 40) (by decide) ?_
                                                                                  refine lv_iload hx hb dX12_sheet_83 (lv_at hl 0 rfl) ?_
                                                                                  refine lv_iadd hx hb dX12_sheet_85 ?_
                                                                                  refine lz_top (y := 68) (by decide) ?_
                                                                                  refine lv_iconst (v := 0) hx hb dX12_sheet_86 (by decide) ?_
                                                                                  refine lz_astc hx hb hK hP hD hS 3 0 rfl rfl (lz_vp (x := 68) (n := 160) (by decide) (by decide)) dX12_sheet_87 (fun H locs hP hD hS => ?_)
                                                                                  refine lv_iinc (v := 29) (lv' := [(4, .int 29), (0, .ref h0), (1, .int 1), (2, .int (-1)), (3, .int x2)]) hx hb dX12_sheet_88 hl (k := 0) rfl (by decide) (by decide) rfl (fun ls hl => ?_)
                                                                                  refine lv_goto (tgt := 68) hx hb dX12_sheet_91 (by decide) ?_
                                                                                  refine lv_iload hx hb dX12_sheet_68 (lv_at hl 0 rfl) ?_
                                                                                  refine lv_bipush (v := 40) hx hb dX12_sheet_70 (by decide) ?_
                                                                                  refine lv_icmp_ge (tgt := 94) hx hb dX12_sheet_72 (by decide) (fun c2182 => ?_) (fun c2182 => ?_)
                                                                                  · exact absurd c2182 (by decide)
                                                                                  · refine lv_aload_n hx hb dX12_sheet_75 rfl (lv_at hl 1 rfl) ?_
                                                                                    refine va_get (D := D) (ci := 12) (v := .ref h11) (C := RX12) (T := TX12) (N := 24) hx hb hts hin12 hown hK hP 0 rfl rfl 18 (by decide) (hts (.fieldLink RX12 44 "MissedPointsModel" "items" "[I") (by decide +kernel)) (fun _ h9 => h9) rfl dX12_sheet_76 ?_
                                                                                    refine lv_bipush (v := 40) hx hb dX12_sheet_79 (by decide) ?_
                                                                                    refine lv_iload_n hx hb dX12_sheet_81 rfl (lv_at hl 2 rfl) ?_
                                                                                    refine lv_imul hx hb dX12_sheet_82 ?_
                                                                                    refine lz_top (y := 40) (by decide) ?_
                                                                                    refine lv_iload hx hb dX12_sheet_83 (lv_at hl 0 rfl) ?_
                                                                                    refine lv_iadd hx hb dX12_sheet_85 ?_
                                                                                    refine lz_top (y := 69) (by decide) ?_
                                                                                    refine lv_iconst (v := 0) hx hb dX12_sheet_86 (by decide) ?_
                                                                                    refine lz_astc hx hb hK hP hD hS 3 0 rfl rfl (lz_vp (x := 69) (n := 160) (by decide) (by decide)) dX12_sheet_87 (fun H locs hP hD hS => ?_)
                                                                                    refine lv_iinc (v := 30) (lv' := [(4, .int 30), (0, .ref h0), (1, .int 1), (2, .int (-1)), (3, .int x2)]) hx hb dX12_sheet_88 hl (k := 0) rfl (by decide) (by decide) rfl (fun ls hl => ?_)
                                                                                    refine lv_goto (tgt := 68) hx hb dX12_sheet_91 (by decide) ?_
                                                                                    refine lv_iload hx hb dX12_sheet_68 (lv_at hl 0 rfl) ?_
                                                                                    refine lv_bipush (v := 40) hx hb dX12_sheet_70 (by decide) ?_
                                                                                    refine lv_icmp_ge (tgt := 94) hx hb dX12_sheet_72 (by decide) (fun c2183 => ?_) (fun c2183 => ?_)
                                                                                    · exact absurd c2183 (by decide)
                                                                                    · refine lv_aload_n hx hb dX12_sheet_75 rfl (lv_at hl 1 rfl) ?_
                                                                                      refine va_get (D := D) (ci := 12) (v := .ref h11) (C := RX12) (T := TX12) (N := 24) hx hb hts hin12 hown hK hP 0 rfl rfl 18 (by decide) (hts (.fieldLink RX12 44 "MissedPointsModel" "items" "[I") (by decide +kernel)) (fun _ h9 => h9) rfl dX12_sheet_76 ?_
                                                                                      refine lv_bipush (v := 40) hx hb dX12_sheet_79 (by decide) ?_
                                                                                      refine lv_iload_n hx hb dX12_sheet_81 rfl (lv_at hl 2 rfl) ?_
                                                                                      refine lv_imul hx hb dX12_sheet_82 ?_
                                                                                      refine lz_top (y := 40) (by decide) ?_
                                                                                      refine lv_iload hx hb dX12_sheet_83 (lv_at hl 0 rfl) ?_
                                                                                      refine lv_iadd hx hb dX12_sheet_85 ?_
                                                                                      refine lz_top (y := 70) (by decide) ?_
                                                                                      refine lv_iconst (v := 0) hx hb dX12_sheet_86 (by decide) ?_
                                                                                      refine lz_astc hx hb hK hP hD hS 3 0 rfl rfl (lz_vp (x := 70) (n := 160) (by decide) (by decide)) dX12_sheet_87 (fun H locs hP hD hS => ?_)
                                                                                      refine lv_iinc (v := 31) (lv' := [(4, .int 31), (0, .ref h0), (1, .int 1), (2, .int (-1)), (3, .int x2)]) hx hb dX12_sheet_88 hl (k := 0) rfl (by decide) (by decide) rfl (fun ls hl => ?_)
                                                                                      refine lv_goto (tgt := 68) hx hb dX12_sheet_91 (by decide) ?_
                                                                                      refine lv_iload hx hb dX12_sheet_68 (lv_at hl 0 rfl) ?_
                                                                                      refine lv_bipush (v := 40) hx hb dX12_sheet_70 (by decide) ?_
                                                                                      refine lv_icmp_ge (tgt := 94) hx hb dX12_sheet_72 (by decide) (fun c2184 => ?_) (fun c2184 => ?_)
                                                                                      · exact absurd c2184 (by decide)
                                                                                      · refine lv_aload_n hx hb dX12_sheet_75 rfl (lv_at hl 1 rfl) ?_
                                                                                        refine va_get (D := D) (ci := 12) (v := .ref h11) (C := RX12) (T := TX12) (N := 24) hx hb hts hin12 hown hK hP 0 rfl rfl 18 (by decide) (hts (.fieldLink RX12 44 "MissedPointsModel" "items" "[I") (by decide +kernel)) (fun _ h9 => h9) rfl dX12_sheet_76 ?_
                                                                                        refine lv_bipush (v := 40) hx hb dX12_sheet_79 (by decide) ?_
                                                                                        refine lv_iload_n hx hb dX12_sheet_81 rfl (lv_at hl 2 rfl) ?_
                                                                                        refine lv_imul hx hb dX12_sheet_82 ?_
                                                                                        refine lz_top (y := 40) (by decide) ?_
                                                                                        refine lv_iload hx hb dX12_sheet_83 (lv_at hl 0 rfl) ?_
                                                                                        refine lv_iadd hx hb dX12_sheet_85 ?_
                                                                                        refine lz_top (y := 71) (by decide) ?_
                                                                                        refine lv_iconst (v := 0) hx hb dX12_sheet_86 (by decide) ?_
                                                                                        refine lz_astc hx hb hK hP hD hS 3 0 rfl rfl (lz_vp (x := 71) (n := 160) (by decide) (by decide)) dX12_sheet_87 (fun H locs hP hD hS => ?_)
                                                                                        refine lv_iinc (v := 32) (lv' := [(4, .int 32), (0, .ref h0), (1, .int 1), (2, .int (-1)), (3, .int x2)]) hx hb dX12_sheet_88 hl (k := 0) rfl (by decide) (by decide) rfl (fun ls hl => ?_)
                                                                                        refine lv_goto (tgt := 68) hx hb dX12_sheet_91 (by decide) ?_
                                                                                        refine lv_iload hx hb dX12_sheet_68 (lv_at hl 0 rfl) ?_
                                                                                        refine lv_bipush (v := 40) hx hb dX12_sheet_70 (by decide) ?_
                                                                                        refine lv_icmp_ge (tgt := 94) hx hb dX12_sheet_72 (by decide) (fun c2185 => ?_) (fun c2185 => ?_)
                                                                                        · exact absurd c2185 (by decide)
                                                                                        · refine lv_aload_n hx hb dX12_sheet_75 rfl (lv_at hl 1 rfl) ?_
                                                                                          refine va_get (D := D) (ci := 12) (v := .ref h11) (C := RX12) (T := TX12) (N := 24) hx hb hts hin12 hown hK hP 0 rfl rfl 18 (by decide) (hts (.fieldLink RX12 44 "MissedPointsModel" "items" "[I") (by decide +kernel)) (fun _ h9 => h9) rfl dX12_sheet_76 ?_
                                                                                          refine lv_bipush (v := 40) hx hb dX12_sheet_79 (by decide) ?_
                                                                                          refine lv_iload_n hx hb dX12_sheet_81 rfl (lv_at hl 2 rfl) ?_
                                                                                          refine lv_imul hx hb dX12_sheet_82 ?_
                                                                                          refine lz_top (y := 40) (by decide) ?_
                                                                                          refine lv_iload hx hb dX12_sheet_83 (lv_at hl 0 rfl) ?_
                                                                                          refine lv_iadd hx hb dX12_sheet_85 ?_
                                                                                          refine lz_top (y := 72) (by decide) ?_
                                                                                          refine lv_iconst (v := 0) hx hb dX12_sheet_86 (by decide) ?_
                                                                                          refine lz_astc hx hb hK hP hD hS 3 0 rfl rfl (lz_vp (x := 72) (n := 160) (by decide) (by decide)) dX12_sheet_87 (fun H locs hP hD hS => ?_)
                                                                                          refine lv_iinc (v := 33) (lv' := [(4, .int 33), (0, .ref h0), (1, .int 1), (2, .int (-1)), (3, .int x2)]) hx hb dX12_sheet_88 hl (k := 0) rfl (by decide) (by decide) rfl (fun ls hl => ?_)
                                                                                          refine lv_goto (tgt := 68) hx hb dX12_sheet_91 (by decide) ?_
                                                                                          refine lv_iload hx hb dX12_sheet_68 (lv_at hl 0 rfl) ?_
                                                                                          refine lv_bipush (v := 40) hx hb dX12_sheet_70 (by decide) ?_
                                                                                          refine lv_icmp_ge (tgt := 94) hx hb dX12_sheet_72 (by decide) (fun c2186 => ?_) (fun c2186 => ?_)
                                                                                          · exact absurd c2186 (by decide)
                                                                                          · refine lv_aload_n hx hb dX12_sheet_75 rfl (lv_at hl 1 rfl) ?_
                                                                                            refine va_get (D := D) (ci := 12) (v := .ref h11) (C := RX12) (T := TX12) (N := 24) hx hb hts hin12 hown hK hP 0 rfl rfl 18 (by decide) (hts (.fieldLink RX12 44 "MissedPointsModel" "items" "[I") (by decide +kernel)) (fun _ h9 => h9) rfl dX12_sheet_76 ?_
                                                                                            refine lv_bipush (v := 40) hx hb dX12_sheet_79 (by decide) ?_
                                                                                            refine lv_iload_n hx hb dX12_sheet_81 rfl (lv_at hl 2 rfl) ?_
                                                                                            refine lv_imul hx hb dX12_sheet_82 ?_
                                                                                            refine lz_top (y := 40) (by decide) ?_
                                                                                            refine lv_iload hx hb dX12_sheet_83 (lv_at hl 0 rfl) ?_
                                                                                            refine lv_iadd hx hb dX12_sheet_85 ?_
                                                                                            refine lz_top (y := 73) (by decide) ?_
                                                                                            refine lv_iconst (v := 0) hx hb dX12_sheet_86 (by decide) ?_
                                                                                            refine lz_astc hx hb hK hP hD hS 3 0 rfl rfl (lz_vp (x := 73) (n := 160) (by decide) (by decide)) dX12_sheet_87 (fun H locs hP hD hS => ?_)
                                                                                            refine lv_iinc (v := 34) (lv' := [(4, .int 34), (0, .ref h0), (1, .int 1), (2, .int (-1)), (3, .int x2)]) hx hb dX12_sheet_88 hl (k := 0) rfl (by decide) (by decide) rfl (fun ls hl => ?_)
                                                                                            refine lv_goto (tgt := 68) hx hb dX12_sheet_91 (by decide) ?_
                                                                                            refine lv_iload hx hb dX12_sheet_68 (lv_at hl 0 rfl) ?_
                                                                                            refine lv_bipush (v := 40) hx hb dX12_sheet_70 (by decide) ?_
                                                                                            refine lv_icmp_ge (tgt := 94) hx hb dX12_sheet_72 (by decide) (fun c2187 => ?_) (fun c2187 => ?_)
                                                                                            · exact absurd c2187 (by decide)
                                                                                            · refine lv_aload_n hx hb dX12_sheet_75 rfl (lv_at hl 1 rfl) ?_
                                                                                              refine va_get (D := D) (ci := 12) (v := .ref h11) (C := RX12) (T := TX12) (N := 24) hx hb hts hin12 hown hK hP 0 rfl rfl 18 (by decide) (hts (.fieldLink RX12 44 "MissedPointsModel" "items" "[I") (by decide +kernel)) (fun _ h9 => h9) rfl dX12_sheet_76 ?_
                                                                                              refine lv_bipush (v := 40) hx hb dX12_sheet_79 (by decide) ?_
                                                                                              refine lv_iload_n hx hb dX12_sheet_81 rfl (lv_at hl 2 rfl) ?_
                                                                                              refine lv_imul hx hb dX12_sheet_82 ?_
                                                                                              refine lz_top (y := 40) (by decide) ?_
                                                                                              refine lv_iload hx hb dX12_sheet_83 (lv_at hl 0 rfl) ?_
                                                                                              refine lv_iadd hx hb dX12_sheet_85 ?_
                                                                                              refine lz_top (y := 74) (by decide) ?_
                                                                                              refine lv_iconst (v := 0) hx hb dX12_sheet_86 (by decide) ?_
                                                                                              refine lz_astc hx hb hK hP hD hS 3 0 rfl rfl (lz_vp (x := 74) (n := 160) (by decide) (by decide)) dX12_sheet_87 (fun H locs hP hD hS => ?_)
                                                                                              refine lv_iinc (v := 35) (lv' := [(4, .int 35), (0, .ref h0), (1, .int 1), (2, .int (-1)), (3, .int x2)]) hx hb dX12_sheet_88 hl (k := 0) rfl (by decide) (by decide) rfl (fun ls hl => ?_)
                                                                                              refine lv_goto (tgt := 68) hx hb dX12_sheet_91 (by decide) ?_
                                                                                              refine lv_iload hx hb dX12_sheet_68 (lv_at hl 0 rfl) ?_
                                                                                              refine lv_bipush (v := 40) hx hb dX12_sheet_70 (by decide) ?_
                                                                                              refine lv_icmp_ge (tgt := 94) hx hb dX12_sheet_72 (by decide) (fun c2188 => ?_) (fun c2188 => ?_)
                                                                                              · exact absurd c2188 (by decide)
                                                                                              · refine lv_aload_n hx hb dX12_sheet_75 rfl (lv_at hl 1 rfl) ?_
                                                                                                refine va_get (D := D) (ci := 12) (v := .ref h11) (C := RX12) (T := TX12) (N := 24) hx hb hts hin12 hown hK hP 0 rfl rfl 18 (by decide) (hts (.fieldLink RX12 44 "MissedPointsModel" "items" "[I") (by decide +kernel)) (fun _ h9 => h9) rfl dX12_sheet_76 ?_
                                                                                                refine lv_bipush (v := 40) hx hb dX12_sheet_79 (by decide) ?_
                                                                                                refine lv_iload_n hx hb dX12_sheet_81 rfl (lv_at hl 2 rfl) ?_
                                                                                                refine lv_imul hx hb dX12_sheet_82 ?_
                                                                                                refine lz_top (y := 40) (by decide) ?_
                                                                                                refine lv_iload hx hb dX12_sheet_83 (lv_at hl 0 rfl) ?_
                                                                                                refine lv_iadd hx hb dX12_sheet_85 ?_
                                                                                                refine lz_top (y := 75) (by decide) ?_
                                                                                                refine lv_iconst (v := 0) hx hb dX12_sheet_86 (by decide) ?_
                                                                                                refine lz_astc hx hb hK hP hD hS 3 0 rfl rfl (lz_vp (x := 75) (n := 160) (by decide) (by decide)) dX12_sheet_87 (fun H locs hP hD hS => ?_)
                                                                                                refine lv_iinc (v := 36) (lv' := [(4, .int 36), (0, .ref h0), (1, .int 1), (2, .int (-1)), (3, .int x2)]) hx hb dX12_sheet_88 hl (k := 0) rfl (by decide) (by decide) rfl (fun ls hl => ?_)
                                                                                                refine lv_goto (tgt := 68) hx hb dX12_sheet_91 (by decide) ?_
                                                                                                refine lv_iload hx hb dX12_sheet_68 (lv_at hl 0 rfl) ?_
                                                                                                refine lv_bipush (v := 40) hx hb dX12_sheet_70 (by decide) ?_
                                                                                                refine lv_icmp_ge (tgt := 94) hx hb dX12_sheet_72 (by decide) (fun c2189 => ?_) (fun c2189 => ?_)
                                                                                                · exact absurd c2189 (by decide)
                                                                                                · refine lv_aload_n hx hb dX12_sheet_75 rfl (lv_at hl 1 rfl) ?_
                                                                                                  refine va_get (D := D) (ci := 12) (v := .ref h11) (C := RX12) (T := TX12) (N := 24) hx hb hts hin12 hown hK hP 0 rfl rfl 18 (by decide) (hts (.fieldLink RX12 44 "MissedPointsModel" "items" "[I") (by decide +kernel)) (fun _ h9 => h9) rfl dX12_sheet_76 ?_
                                                                                                  refine lv_bipush (v := 40) hx hb dX12_sheet_79 (by decide) ?_
                                                                                                  refine lv_iload_n hx hb dX12_sheet_81 rfl (lv_at hl 2 rfl) ?_
                                                                                                  refine lv_imul hx hb dX12_sheet_82 ?_
                                                                                                  refine lz_top (y := 40) (by decide) ?_
                                                                                                  refine lv_iload hx hb dX12_sheet_83 (lv_at hl 0 rfl) ?_
                                                                                                  refine lv_iadd hx hb dX12_sheet_85 ?_
                                                                                                  refine lz_top (y := 76) (by decide) ?_
                                                                                                  refine lv_iconst (v := 0) hx hb dX12_sheet_86 (by decide) ?_
                                                                                                  refine lz_astc hx hb hK hP hD hS 3 0 rfl rfl (lz_vp (x := 76) (n := 160) (by decide) (by decide)) dX12_sheet_87 (fun H locs hP hD hS => ?_)
                                                                                                  refine lv_iinc (v := 37) (lv' := [(4, .int 37), (0, .ref h0), (1, .int 1), (2, .int (-1)), (3, .int x2)]) hx hb dX12_sheet_88 hl (k := 0) rfl (by decide) (by decide) rfl (fun ls hl => ?_)
                                                                                                  refine lv_goto (tgt := 68) hx hb dX12_sheet_91 (by decide) ?_
                                                                                                  refine lv_iload hx hb dX12_sheet_68 (lv_at hl 0 rfl) ?_
                                                                                                  refine lv_bipush (v := 40) hx hb dX12_sheet_70 (by decide) ?_
                                                                                                  refine lv_icmp_ge (tgt := 94) hx hb dX12_sheet_72 (by decide) (fun c2190 => ?_) (fun c2190 => ?_)
                                                                                                  · exact absurd c2190 (by decide)
                                                                                                  · refine lv_aload_n hx hb dX12_sheet_75 rfl (lv_at hl 1 rfl) ?_
                                                                                                    refine va_get (D := D) (ci := 12) (v := .ref h11) (C := RX12) (T := TX12) (N := 24) hx hb hts hin12 hown hK hP 0 rfl rfl 18 (by decide) (hts (.fieldLink RX12 44 "MissedPointsModel" "items" "[I") (by decide +kernel)) (fun _ h9 => h9) rfl dX12_sheet_76 ?_
                                                                                                    refine lv_bipush (v := 40) hx hb dX12_sheet_79 (by decide) ?_
                                                                                                    refine lv_iload_n hx hb dX12_sheet_81 rfl (lv_at hl 2 rfl) ?_
                                                                                                    refine lv_imul hx hb dX12_sheet_82 ?_
                                                                                                    refine lz_top (y := 40) (by decide) ?_
                                                                                                    refine lv_iload hx hb dX12_sheet_83 (lv_at hl 0 rfl) ?_
                                                                                                    refine lv_iadd hx hb dX12_sheet_85 ?_
                                                                                                    refine lz_top (y := 77) (by decide) ?_
                                                                                                    refine lv_iconst (v := 0) hx hb dX12_sheet_86 (by decide) ?_
                                                                                                    refine lz_astc hx hb hK hP hD hS 3 0 rfl rfl (lz_vp (x := 77) (n := 160) (by decide) (by decide)) dX12_sheet_87 (fun H locs hP hD hS => ?_)
                                                                                                    refine lv_iinc (v := 38) (lv' := [(4, .int 38), (0, .ref h0), (1, .int 1), (2, .int (-1)), (3, .int x2)]) hx hb dX12_sheet_88 hl (k := 0) rfl (by decide) (by decide) rfl (fun ls hl => ?_)
                                                                                                    refine lv_goto (tgt := 68) hx hb dX12_sheet_91 (by decide) ?_
                                                                                                    refine lv_iload hx hb dX12_sheet_68 (lv_at hl 0 rfl) ?_
                                                                                                    refine lv_bipush (v := 40) hx hb dX12_sheet_70 (by decide) ?_
                                                                                                    refine lv_icmp_ge (tgt := 94) hx hb dX12_sheet_72 (by decide) (fun c2191 => ?_) (fun c2191 => ?_)
                                                                                                    · exact absurd c2191 (by decide)
                                                                                                    · refine lv_aload_n hx hb dX12_sheet_75 rfl (lv_at hl 1 rfl) ?_
                                                                                                      refine va_get (D := D) (ci := 12) (v := .ref h11) (C := RX12) (T := TX12) (N := 24) hx hb hts hin12 hown hK hP 0 rfl rfl 18 (by decide) (hts (.fieldLink RX12 44 "MissedPointsModel" "items" "[I") (by decide +kernel)) (fun _ h9 => h9) rfl dX12_sheet_76 ?_
                                                                                                      refine lv_bipush (v := 40) hx hb dX12_sheet_79 (by decide) ?_
                                                                                                      refine lv_iload_n hx hb dX12_sheet_81 rfl (lv_at hl 2 rfl) ?_
                                                                                                      refine lv_imul hx hb dX12_sheet_82 ?_
                                                                                                      refine lz_top (y := 40) (by decide) ?_
                                                                                                      refine lv_iload hx hb dX12_sheet_83 (lv_at hl 0 rfl) ?_
                                                                                                      refine lv_iadd hx hb dX12_sheet_85 ?_
                                                                                                      refine lz_top (y := 78) (by decide) ?_
                                                                                                      refine lv_iconst (v := 0) hx hb dX12_sheet_86 (by decide) ?_
                                                                                                      refine lz_astc hx hb hK hP hD hS 3 0 rfl rfl (lz_vp (x := 78) (n := 160) (by decide) (by decide)) dX12_sheet_87 (fun H locs hP hD hS => ?_)
                                                                                                      refine lv_iinc (v := 39) (lv' := [(4, .int 39), (0, .ref h0), (1, .int 1), (2, .int (-1)), (3, .int x2)]) hx hb dX12_sheet_88 hl (k := 0) rfl (by decide) (by decide) rfl (fun ls hl => ?_)
                                                                                                      refine lv_goto (tgt := 68) hx hb dX12_sheet_91 (by decide) ?_
                                                                                                      refine lv_iload hx hb dX12_sheet_68 (lv_at hl 0 rfl) ?_
                                                                                                      refine lv_bipush (v := 40) hx hb dX12_sheet_70 (by decide) ?_
                                                                                                      refine lv_icmp_ge (tgt := 94) hx hb dX12_sheet_72 (by decide) (fun c2192 => ?_) (fun c2192 => ?_)
                                                                                                      · exact absurd c2192 (by decide)
                                                                                                      · refine lv_aload_n hx hb dX12_sheet_75 rfl (lv_at hl 1 rfl) ?_
                                                                                                        refine va_get (D := D) (ci := 12) (v := .ref h11) (C := RX12) (T := TX12) (N := 24) hx hb hts hin12 hown hK hP 0 rfl rfl 18 (by decide) (hts (.fieldLink RX12 44 "MissedPointsModel" "items" "[I") (by decide +kernel)) (fun _ h9 => h9) rfl dX12_sheet_76 ?_
                                                                                                        refine lv_bipush (v := 40) hx hb dX12_sheet_79 (by decide) ?_
                                                                                                        refine lv_iload_n hx hb dX12_sheet_81 rfl (lv_at hl 2 rfl) ?_
                                                                                                        refine lv_imul hx hb dX12_sheet_82 ?_
                                                                                                        refine lz_top (y := 40) (by decide) ?_
                                                                                                        refine lv_iload hx hb dX12_sheet_83 (lv_at hl 0 rfl) ?_
                                                                                                        refine lv_iadd hx hb dX12_sheet_85 ?_
                                                                                                        refine lz_top (y := 79) (by decide) ?_
                                                                                                        refine lv_iconst (v := 0) hx hb dX12_sheet_86 (by decide) ?_
                                                                                                        refine lz_astc hx hb hK hP hD hS 3 0 rfl rfl (lz_vp (x := 79) (n := 160) (by decide) (by decide)) dX12_sheet_87 (fun H locs hP hD hS => ?_)
                                                                                                        refine lv_iinc (v := 40) (lv' := [(4, .int 40), (0, .ref h0), (1, .int 1), (2, .int (-1)), (3, .int x2)]) hx hb dX12_sheet_88 hl (k := 0) rfl (by decide) (by decide) rfl (fun ls hl => ?_)
                                                                                                        refine lv_goto (tgt := 68) hx hb dX12_sheet_91 (by decide) ?_
                                                                                                        refine lv_iload hx hb dX12_sheet_68 (lv_at hl 0 rfl) ?_
                                                                                                        refine lv_bipush (v := 40) hx hb dX12_sheet_70 (by decide) ?_
                                                                                                        refine lv_icmp_ge (tgt := 94) hx hb dX12_sheet_72 (by decide) (fun c2193 => ?_) (fun c2193 => ?_)
                                                                                                        · refine lv_iconst (v := 1) hx hb dX12_sheet_94 (by decide) ?_
                                                                                                          have hP9 := hP.sub (ws' := []) [] rfl
                                                                                                          have hD9 := hD.sub (ws' := []) [] (by decide) rfl
                                                                                                          subst hAe
                                                                                                          exact W.iret (v := 1) hx hb hr (fun t ht hW => ⟨⟨_, (), rfl, by rw [if_neg k2095, if_neg k2097, if_neg k2101, if_neg k2103, if_pos rfl], by rw [ht]; exact hP9, hD9⟩, hS.F ht⟩) hS.2.2 dX12_sheet_95
                                                                                                        · exact absurd c2193 (by decide)
                    · by_cases k2194 : x0 = 2
                      · subst k2194
                        refine lv_aload_n hx hb dX12_sheet_42 rfl (lv_at hl 0 rfl) ?_
                        refine va_get (D := D) (ci := 12) (v := .ref h9) (C := RX12) (T := TX12) (N := 24) hx hb hts hin12 hown hK hP 0 rfl rfl 16 (by decide) (hts (.fieldLink RX12 38 "MissedPointsModel" "sort" "[I") (by decide +kernel)) (fun _ h9 => h9) rfl dX12_sheet_43 ?_
                        refine lv_iload_n hx hb dX12_sheet_46 rfl (lv_at hl 1 rfl) ?_
                        refine lv_iload_n hx hb dX12_sheet_47 rfl (lv_at hl 2 rfl) ?_
                        refine lz_astc hx hb hK hP hD hS 1 0 rfl rfl (lz_vp (x := 2) (n := 4) (by decide) (by decide)) dX12_sheet_48 (fun H locs hP hD hS => ?_)
                        refine lv_aload_n hx hb dX12_sheet_49 rfl (lv_at hl 0 rfl) ?_
                        refine va_get (D := D) (ci := 12) (v := .ref h10) (C := RX12) (T := TX12) (N := 24) hx hb hts hin12 hown hK hP 0 rfl rfl 17 (by decide) (hts (.fieldLink RX12 41 "MissedPointsModel" "size" "[I") (by decide +kernel)) (fun _ h9 => h9) rfl dX12_sheet_50 ?_
                        refine lv_iload_n hx hb dX12_sheet_53 rfl (lv_at hl 1 rfl) ?_
                        refine lv_iload_n hx hb dX12_sheet_54 rfl (lv_at hl 2 rfl) ?_
                        refine lv_iconst (v := (-1)) hx hb dX12_sheet_55 (by decide) ?_
                        refine lv_icmp_ne (tgt := 63) hx hb dX12_sheet_56 (by decide) (fun c2195 => ?_) (fun c2195 => ?_)
                        · exact absurd c2195 (by decide)
                        · refine lv_iconst (v := 0) hx hb dX12_sheet_59 (by decide) ?_
                          refine lv_goto (tgt := 64) hx hb dX12_sheet_60 (by decide) ?_
                          refine lz_astc hx hb hK hP hD hS 2 0 rfl rfl (lz_vp (x := 2) (n := 4) (by decide) (by decide)) dX12_sheet_64 (fun H locs hP hD hS => ?_)
                          refine lv_iconst (v := 0) hx hb dX12_sheet_65 (by decide) ?_
                          refine lv_istore (lv' := [(4, .int 0), (0, .ref h0), (1, .int 2), (2, .int (-1)), (3, .int x2)]) hx hb dX12_sheet_66 hl (by decide) rfl (fun ls hl => ?_)
                          refine lv_iload hx hb dX12_sheet_68 (lv_at hl 0 rfl) ?_
                          refine lv_bipush (v := 40) hx hb dX12_sheet_70 (by decide) ?_
                          refine lv_icmp_ge (tgt := 94) hx hb dX12_sheet_72 (by decide) (fun c2196 => ?_) (fun c2196 => ?_)
                          · exact absurd c2196 (by decide)
                          · refine lv_aload_n hx hb dX12_sheet_75 rfl (lv_at hl 1 rfl) ?_
                            refine va_get (D := D) (ci := 12) (v := .ref h11) (C := RX12) (T := TX12) (N := 24) hx hb hts hin12 hown hK hP 0 rfl rfl 18 (by decide) (hts (.fieldLink RX12 44 "MissedPointsModel" "items" "[I") (by decide +kernel)) (fun _ h9 => h9) rfl dX12_sheet_76 ?_
                            refine lv_bipush (v := 40) hx hb dX12_sheet_79 (by decide) ?_
                            refine lv_iload_n hx hb dX12_sheet_81 rfl (lv_at hl 2 rfl) ?_
                            refine lv_imul hx hb dX12_sheet_82 ?_
                            refine lz_top (y := 80) (by decide) ?_
                            refine lv_iload hx hb dX12_sheet_83 (lv_at hl 0 rfl) ?_
                            refine lv_iadd hx hb dX12_sheet_85 ?_
                            refine lz_top (y := 80) (by decide) ?_
                            refine lv_iconst (v := 0) hx hb dX12_sheet_86 (by decide) ?_
                            refine lz_astc hx hb hK hP hD hS 3 0 rfl rfl (lz_vp (x := 80) (n := 160) (by decide) (by decide)) dX12_sheet_87 (fun H locs hP hD hS => ?_)
                            refine lv_iinc (v := 1) (lv' := [(4, .int 1), (0, .ref h0), (1, .int 2), (2, .int (-1)), (3, .int x2)]) hx hb dX12_sheet_88 hl (k := 0) rfl (by decide) (by decide) rfl (fun ls hl => ?_)
                            refine lv_goto (tgt := 68) hx hb dX12_sheet_91 (by decide) ?_
                            refine lv_iload hx hb dX12_sheet_68 (lv_at hl 0 rfl) ?_
                            refine lv_bipush (v := 40) hx hb dX12_sheet_70 (by decide) ?_
                            refine lv_icmp_ge (tgt := 94) hx hb dX12_sheet_72 (by decide) (fun c2197 => ?_) (fun c2197 => ?_)
                            · exact absurd c2197 (by decide)
                            · refine lv_aload_n hx hb dX12_sheet_75 rfl (lv_at hl 1 rfl) ?_
                              refine va_get (D := D) (ci := 12) (v := .ref h11) (C := RX12) (T := TX12) (N := 24) hx hb hts hin12 hown hK hP 0 rfl rfl 18 (by decide) (hts (.fieldLink RX12 44 "MissedPointsModel" "items" "[I") (by decide +kernel)) (fun _ h9 => h9) rfl dX12_sheet_76 ?_
                              refine lv_bipush (v := 40) hx hb dX12_sheet_79 (by decide) ?_
                              refine lv_iload_n hx hb dX12_sheet_81 rfl (lv_at hl 2 rfl) ?_
                              refine lv_imul hx hb dX12_sheet_82 ?_
                              refine lz_top (y := 80) (by decide) ?_
                              refine lv_iload hx hb dX12_sheet_83 (lv_at hl 0 rfl) ?_
                              refine lv_iadd hx hb dX12_sheet_85 ?_
                              refine lz_top (y := 81) (by decide) ?_
                              refine lv_iconst (v := 0) hx hb dX12_sheet_86 (by decide) ?_
                              refine lz_astc hx hb hK hP hD hS 3 0 rfl rfl (lz_vp (x := 81) (n := 160) (by decide) (by decide)) dX12_sheet_87 (fun H locs hP hD hS => ?_)
                              refine lv_iinc (v := 2) (lv' := [(4, .int 2), (0, .ref h0), (1, .int 2), (2, .int (-1)), (3, .int x2)]) hx hb dX12_sheet_88 hl (k := 0) rfl (by decide) (by decide) rfl (fun ls hl => ?_)
                              refine lv_goto (tgt := 68) hx hb dX12_sheet_91 (by decide) ?_
                              refine lv_iload hx hb dX12_sheet_68 (lv_at hl 0 rfl) ?_
                              refine lv_bipush (v := 40) hx hb dX12_sheet_70 (by decide) ?_
                              refine lv_icmp_ge (tgt := 94) hx hb dX12_sheet_72 (by decide) (fun c2198 => ?_) (fun c2198 => ?_)
                              · exact absurd c2198 (by decide)
                              · refine lv_aload_n hx hb dX12_sheet_75 rfl (lv_at hl 1 rfl) ?_
                                refine va_get (D := D) (ci := 12) (v := .ref h11) (C := RX12) (T := TX12) (N := 24) hx hb hts hin12 hown hK hP 0 rfl rfl 18 (by decide) (hts (.fieldLink RX12 44 "MissedPointsModel" "items" "[I") (by decide +kernel)) (fun _ h9 => h9) rfl dX12_sheet_76 ?_
                                refine lv_bipush (v := 40) hx hb dX12_sheet_79 (by decide) ?_
                                refine lv_iload_n hx hb dX12_sheet_81 rfl (lv_at hl 2 rfl) ?_
                                refine lv_imul hx hb dX12_sheet_82 ?_
                                refine lz_top (y := 80) (by decide) ?_
                                refine lv_iload hx hb dX12_sheet_83 (lv_at hl 0 rfl) ?_
                                refine lv_iadd hx hb dX12_sheet_85 ?_
                                refine lz_top (y := 82) (by decide) ?_
                                refine lv_iconst (v := 0) hx hb dX12_sheet_86 (by decide) ?_
                                refine lz_astc hx hb hK hP hD hS 3 0 rfl rfl (lz_vp (x := 82) (n := 160) (by decide) (by decide)) dX12_sheet_87 (fun H locs hP hD hS => ?_)
                                refine lv_iinc (v := 3) (lv' := [(4, .int 3), (0, .ref h0), (1, .int 2), (2, .int (-1)), (3, .int x2)]) hx hb dX12_sheet_88 hl (k := 0) rfl (by decide) (by decide) rfl (fun ls hl => ?_)
                                refine lv_goto (tgt := 68) hx hb dX12_sheet_91 (by decide) ?_
                                refine lv_iload hx hb dX12_sheet_68 (lv_at hl 0 rfl) ?_
                                refine lv_bipush (v := 40) hx hb dX12_sheet_70 (by decide) ?_
                                refine lv_icmp_ge (tgt := 94) hx hb dX12_sheet_72 (by decide) (fun c2199 => ?_) (fun c2199 => ?_)
                                · exact absurd c2199 (by decide)
                                · refine lv_aload_n hx hb dX12_sheet_75 rfl (lv_at hl 1 rfl) ?_
                                  refine va_get (D := D) (ci := 12) (v := .ref h11) (C := RX12) (T := TX12) (N := 24) hx hb hts hin12 hown hK hP 0 rfl rfl 18 (by decide) (hts (.fieldLink RX12 44 "MissedPointsModel" "items" "[I") (by decide +kernel)) (fun _ h9 => h9) rfl dX12_sheet_76 ?_
                                  refine lv_bipush (v := 40) hx hb dX12_sheet_79 (by decide) ?_
                                  refine lv_iload_n hx hb dX12_sheet_81 rfl (lv_at hl 2 rfl) ?_
                                  refine lv_imul hx hb dX12_sheet_82 ?_
                                  refine lz_top (y := 80) (by decide) ?_
                                  refine lv_iload hx hb dX12_sheet_83 (lv_at hl 0 rfl) ?_
                                  refine lv_iadd hx hb dX12_sheet_85 ?_
                                  refine lz_top (y := 83) (by decide) ?_
                                  refine lv_iconst (v := 0) hx hb dX12_sheet_86 (by decide) ?_
                                  refine lz_astc hx hb hK hP hD hS 3 0 rfl rfl (lz_vp (x := 83) (n := 160) (by decide) (by decide)) dX12_sheet_87 (fun H locs hP hD hS => ?_)
                                  refine lv_iinc (v := 4) (lv' := [(4, .int 4), (0, .ref h0), (1, .int 2), (2, .int (-1)), (3, .int x2)]) hx hb dX12_sheet_88 hl (k := 0) rfl (by decide) (by decide) rfl (fun ls hl => ?_)
                                  refine lv_goto (tgt := 68) hx hb dX12_sheet_91 (by decide) ?_
                                  refine lv_iload hx hb dX12_sheet_68 (lv_at hl 0 rfl) ?_
                                  refine lv_bipush (v := 40) hx hb dX12_sheet_70 (by decide) ?_
                                  refine lv_icmp_ge (tgt := 94) hx hb dX12_sheet_72 (by decide) (fun c2200 => ?_) (fun c2200 => ?_)
                                  · exact absurd c2200 (by decide)
                                  · refine lv_aload_n hx hb dX12_sheet_75 rfl (lv_at hl 1 rfl) ?_
                                    refine va_get (D := D) (ci := 12) (v := .ref h11) (C := RX12) (T := TX12) (N := 24) hx hb hts hin12 hown hK hP 0 rfl rfl 18 (by decide) (hts (.fieldLink RX12 44 "MissedPointsModel" "items" "[I") (by decide +kernel)) (fun _ h9 => h9) rfl dX12_sheet_76 ?_
                                    refine lv_bipush (v := 40) hx hb dX12_sheet_79 (by decide) ?_
                                    refine lv_iload_n hx hb dX12_sheet_81 rfl (lv_at hl 2 rfl) ?_
                                    refine lv_imul hx hb dX12_sheet_82 ?_
                                    refine lz_top (y := 80) (by decide) ?_
                                    refine lv_iload hx hb dX12_sheet_83 (lv_at hl 0 rfl) ?_
                                    refine lv_iadd hx hb dX12_sheet_85 ?_
                                    refine lz_top (y := 84) (by decide) ?_
                                    refine lv_iconst (v := 0) hx hb dX12_sheet_86 (by decide) ?_
                                    refine lz_astc hx hb hK hP hD hS 3 0 rfl rfl (lz_vp (x := 84) (n := 160) (by decide) (by decide)) dX12_sheet_87 (fun H locs hP hD hS => ?_)
                                    refine lv_iinc (v := 5) (lv' := [(4, .int 5), (0, .ref h0), (1, .int 2), (2, .int (-1)), (3, .int x2)]) hx hb dX12_sheet_88 hl (k := 0) rfl (by decide) (by decide) rfl (fun ls hl => ?_)
                                    refine lv_goto (tgt := 68) hx hb dX12_sheet_91 (by decide) ?_
                                    refine lv_iload hx hb dX12_sheet_68 (lv_at hl 0 rfl) ?_
                                    refine lv_bipush (v := 40) hx hb dX12_sheet_70 (by decide) ?_
                                    refine lv_icmp_ge (tgt := 94) hx hb dX12_sheet_72 (by decide) (fun c2201 => ?_) (fun c2201 => ?_)
                                    · exact absurd c2201 (by decide)
                                    · refine lv_aload_n hx hb dX12_sheet_75 rfl (lv_at hl 1 rfl) ?_
                                      refine va_get (D := D) (ci := 12) (v := .ref h11) (C := RX12) (T := TX12) (N := 24) hx hb hts hin12 hown hK hP 0 rfl rfl 18 (by decide) (hts (.fieldLink RX12 44 "MissedPointsModel" "items" "[I") (by decide +kernel)) (fun _ h9 => h9) rfl dX12_sheet_76 ?_
                                      refine lv_bipush (v := 40) hx hb dX12_sheet_79 (by decide) ?_
                                      refine lv_iload_n hx hb dX12_sheet_81 rfl (lv_at hl 2 rfl) ?_
                                      refine lv_imul hx hb dX12_sheet_82 ?_
                                      refine lz_top (y := 80) (by decide) ?_
                                      refine lv_iload hx hb dX12_sheet_83 (lv_at hl 0 rfl) ?_
                                      refine lv_iadd hx hb dX12_sheet_85 ?_
                                      refine lz_top (y := 85) (by decide) ?_
                                      refine lv_iconst (v := 0) hx hb dX12_sheet_86 (by decide) ?_
                                      refine lz_astc hx hb hK hP hD hS 3 0 rfl rfl (lz_vp (x := 85) (n := 160) (by decide) (by decide)) dX12_sheet_87 (fun H locs hP hD hS => ?_)
                                      refine lv_iinc (v := 6) (lv' := [(4, .int 6), (0, .ref h0), (1, .int 2), (2, .int (-1)), (3, .int x2)]) hx hb dX12_sheet_88 hl (k := 0) rfl (by decide) (by decide) rfl (fun ls hl => ?_)
                                      refine lv_goto (tgt := 68) hx hb dX12_sheet_91 (by decide) ?_
                                      refine lv_iload hx hb dX12_sheet_68 (lv_at hl 0 rfl) ?_
                                      refine lv_bipush (v := 40) hx hb dX12_sheet_70 (by decide) ?_
                                      refine lv_icmp_ge (tgt := 94) hx hb dX12_sheet_72 (by decide) (fun c2202 => ?_) (fun c2202 => ?_)
                                      · exact absurd c2202 (by decide)
                                      · refine lv_aload_n hx hb dX12_sheet_75 rfl (lv_at hl 1 rfl) ?_
                                        refine va_get (D := D) (ci := 12) (v := .ref h11) (C := RX12) (T := TX12) (N := 24) hx hb hts hin12 hown hK hP 0 rfl rfl 18 (by decide) (hts (.fieldLink RX12 44 "MissedPointsModel" "items" "[I") (by decide +kernel)) (fun _ h9 => h9) rfl dX12_sheet_76 ?_
                                        refine lv_bipush (v := 40) hx hb dX12_sheet_79 (by decide) ?_
                                        refine lv_iload_n hx hb dX12_sheet_81 rfl (lv_at hl 2 rfl) ?_
                                        refine lv_imul hx hb dX12_sheet_82 ?_
                                        refine lz_top (y := 80) (by decide) ?_
                                        refine lv_iload hx hb dX12_sheet_83 (lv_at hl 0 rfl) ?_
                                        refine lv_iadd hx hb dX12_sheet_85 ?_
                                        refine lz_top (y := 86) (by decide) ?_
                                        refine lv_iconst (v := 0) hx hb dX12_sheet_86 (by decide) ?_
                                        refine lz_astc hx hb hK hP hD hS 3 0 rfl rfl (lz_vp (x := 86) (n := 160) (by decide) (by decide)) dX12_sheet_87 (fun H locs hP hD hS => ?_)
                                        refine lv_iinc (v := 7) (lv' := [(4, .int 7), (0, .ref h0), (1, .int 2), (2, .int (-1)), (3, .int x2)]) hx hb dX12_sheet_88 hl (k := 0) rfl (by decide) (by decide) rfl (fun ls hl => ?_)
                                        refine lv_goto (tgt := 68) hx hb dX12_sheet_91 (by decide) ?_
                                        refine lv_iload hx hb dX12_sheet_68 (lv_at hl 0 rfl) ?_
                                        refine lv_bipush (v := 40) hx hb dX12_sheet_70 (by decide) ?_
                                        refine lv_icmp_ge (tgt := 94) hx hb dX12_sheet_72 (by decide) (fun c2203 => ?_) (fun c2203 => ?_)
                                        · exact absurd c2203 (by decide)
                                        · refine lv_aload_n hx hb dX12_sheet_75 rfl (lv_at hl 1 rfl) ?_
                                          refine va_get (D := D) (ci := 12) (v := .ref h11) (C := RX12) (T := TX12) (N := 24) hx hb hts hin12 hown hK hP 0 rfl rfl 18 (by decide) (hts (.fieldLink RX12 44 "MissedPointsModel" "items" "[I") (by decide +kernel)) (fun _ h9 => h9) rfl dX12_sheet_76 ?_
                                          refine lv_bipush (v := 40) hx hb dX12_sheet_79 (by decide) ?_
                                          refine lv_iload_n hx hb dX12_sheet_81 rfl (lv_at hl 2 rfl) ?_
                                          refine lv_imul hx hb dX12_sheet_82 ?_
                                          refine lz_top (y := 80) (by decide) ?_
                                          refine lv_iload hx hb dX12_sheet_83 (lv_at hl 0 rfl) ?_
                                          refine lv_iadd hx hb dX12_sheet_85 ?_
                                          refine lz_top (y := 87) (by decide) ?_
                                          refine lv_iconst (v := 0) hx hb dX12_sheet_86 (by decide) ?_
                                          refine lz_astc hx hb hK hP hD hS 3 0 rfl rfl (lz_vp (x := 87) (n := 160) (by decide) (by decide)) dX12_sheet_87 (fun H locs hP hD hS => ?_)
                                          refine lv_iinc (v := 8) (lv' := [(4, .int 8), (0, .ref h0), (1, .int 2), (2, .int (-1)), (3, .int x2)]) hx hb dX12_sheet_88 hl (k := 0) rfl (by decide) (by decide) rfl (fun ls hl => ?_)
                                          refine lv_goto (tgt := 68) hx hb dX12_sheet_91 (by decide) ?_
                                          refine lv_iload hx hb dX12_sheet_68 (lv_at hl 0 rfl) ?_
                                          refine lv_bipush (v := 40) hx hb dX12_sheet_70 (by decide) ?_
                                          refine lv_icmp_ge (tgt := 94) hx hb dX12_sheet_72 (by decide) (fun c2204 => ?_) (fun c2204 => ?_)
                                          · exact absurd c2204 (by decide)
                                          · refine lv_aload_n hx hb dX12_sheet_75 rfl (lv_at hl 1 rfl) ?_
                                            refine va_get (D := D) (ci := 12) (v := .ref h11) (C := RX12) (T := TX12) (N := 24) hx hb hts hin12 hown hK hP 0 rfl rfl 18 (by decide) (hts (.fieldLink RX12 44 "MissedPointsModel" "items" "[I") (by decide +kernel)) (fun _ h9 => h9) rfl dX12_sheet_76 ?_
                                            refine lv_bipush (v := 40) hx hb dX12_sheet_79 (by decide) ?_
                                            refine lv_iload_n hx hb dX12_sheet_81 rfl (lv_at hl 2 rfl) ?_
                                            refine lv_imul hx hb dX12_sheet_82 ?_
                                            refine lz_top (y := 80) (by decide) ?_
                                            refine lv_iload hx hb dX12_sheet_83 (lv_at hl 0 rfl) ?_
                                            refine lv_iadd hx hb dX12_sheet_85 ?_
                                            refine lz_top (y := 88) (by decide) ?_
                                            refine lv_iconst (v := 0) hx hb dX12_sheet_86 (by decide) ?_
                                            refine lz_astc hx hb hK hP hD hS 3 0 rfl rfl (lz_vp (x := 88) (n := 160) (by decide) (by decide)) dX12_sheet_87 (fun H locs hP hD hS => ?_)
                                            refine lv_iinc (v := 9) (lv' := [(4, .int 9), (0, .ref h0), (1, .int 2), (2, .int (-1)), (3, .int x2)]) hx hb dX12_sheet_88 hl (k := 0) rfl (by decide) (by decide) rfl (fun ls hl => ?_)
                                            refine lv_goto (tgt := 68) hx hb dX12_sheet_91 (by decide) ?_
                                            refine lv_iload hx hb dX12_sheet_68 (lv_at hl 0 rfl) ?_
                                            refine lv_bipush (v := 40) hx hb dX12_sheet_70 (by decide) ?_
                                            refine lv_icmp_ge (tgt := 94) hx hb dX12_sheet_72 (by decide) (fun c2205 => ?_) (fun c2205 => ?_)
                                            · exact absurd c2205 (by decide)
                                            · refine lv_aload_n hx hb dX12_sheet_75 rfl (lv_at hl 1 rfl) ?_
                                              refine va_get (D := D) (ci := 12) (v := .ref h11) (C := RX12) (T := TX12) (N := 24) hx hb hts hin12 hown hK hP 0 rfl rfl 18 (by decide) (hts (.fieldLink RX12 44 "MissedPointsModel" "items" "[I") (by decide +kernel)) (fun _ h9 => h9) rfl dX12_sheet_76 ?_
                                              refine lv_bipush (v := 40) hx hb dX12_sheet_79 (by decide) ?_
                                              refine lv_iload_n hx hb dX12_sheet_81 rfl (lv_at hl 2 rfl) ?_
                                              refine lv_imul hx hb dX12_sheet_82 ?_
                                              refine lz_top (y := 80) (by decide) ?_
                                              refine lv_iload hx hb dX12_sheet_83 (lv_at hl 0 rfl) ?_
                                              refine lv_iadd hx hb dX12_sheet_85 ?_
                                              refine lz_top (y := 89) (by decide) ?_
                                              refine lv_iconst (v := 0) hx hb dX12_sheet_86 (by decide) ?_
                                              refine lz_astc hx hb hK hP hD hS 3 0 rfl rfl (lz_vp (x := 89) (n := 160) (by decide) (by decide)) dX12_sheet_87 (fun H locs hP hD hS => ?_)
                                              refine lv_iinc (v := 10) (lv' := [(4, .int 10), (0, .ref h0), (1, .int 2), (2, .int (-1)), (3, .int x2)]) hx hb dX12_sheet_88 hl (k := 0) rfl (by decide) (by decide) rfl (fun ls hl => ?_)
                                              refine lv_goto (tgt := 68) hx hb dX12_sheet_91 (by decide) ?_
                                              refine lv_iload hx hb dX12_sheet_68 (lv_at hl 0 rfl) ?_
                                              refine lv_bipush (v := 40) hx hb dX12_sheet_70 (by decide) ?_
                                              refine lv_icmp_ge (tgt := 94) hx hb dX12_sheet_72 (by decide) (fun c2206 => ?_) (fun c2206 => ?_)
                                              · exact absurd c2206 (by decide)
                                              · refine lv_aload_n hx hb dX12_sheet_75 rfl (lv_at hl 1 rfl) ?_
                                                refine va_get (D := D) (ci := 12) (v := .ref h11) (C := RX12) (T := TX12) (N := 24) hx hb hts hin12 hown hK hP 0 rfl rfl 18 (by decide) (hts (.fieldLink RX12 44 "MissedPointsModel" "items" "[I") (by decide +kernel)) (fun _ h9 => h9) rfl dX12_sheet_76 ?_
                                                refine lv_bipush (v := 40) hx hb dX12_sheet_79 (by decide) ?_
                                                refine lv_iload_n hx hb dX12_sheet_81 rfl (lv_at hl 2 rfl) ?_
                                                refine lv_imul hx hb dX12_sheet_82 ?_
                                                refine lz_top (y := 80) (by decide) ?_
                                                refine lv_iload hx hb dX12_sheet_83 (lv_at hl 0 rfl) ?_
                                                refine lv_iadd hx hb dX12_sheet_85 ?_
                                                refine lz_top (y := 90) (by decide) ?_
                                                refine lv_iconst (v := 0) hx hb dX12_sheet_86 (by decide) ?_
                                                refine lz_astc hx hb hK hP hD hS 3 0 rfl rfl (lz_vp (x := 90) (n := 160) (by decide) (by decide)) dX12_sheet_87 (fun H locs hP hD hS => ?_)
                                                refine lv_iinc (v := 11) (lv' := [(4, .int 11), (0, .ref h0), (1, .int 2), (2, .int (-1)), (3, .int x2)]) hx hb dX12_sheet_88 hl (k := 0) rfl (by decide) (by decide) rfl (fun ls hl => ?_)
                                                refine lv_goto (tgt := 68) hx hb dX12_sheet_91 (by decide) ?_
                                                refine lv_iload hx hb dX12_sheet_68 (lv_at hl 0 rfl) ?_
                                                refine lv_bipush (v := 40) hx hb dX12_sheet_70 (by decide) ?_
                                                refine lv_icmp_ge (tgt := 94) hx hb dX12_sheet_72 (by decide) (fun c2207 => ?_) (fun c2207 => ?_)
                                                · exact absurd c2207 (by decide)
                                                · refine lv_aload_n hx hb dX12_sheet_75 rfl (lv_at hl 1 rfl) ?_
                                                  refine va_get (D := D) (ci := 12) (v := .ref h11) (C := RX12) (T := TX12) (N := 24) hx hb hts hin12 hown hK hP 0 rfl rfl 18 (by decide) (hts (.fieldLink RX12 44 "MissedPointsModel" "items" "[I") (by decide +kernel)) (fun _ h9 => h9) rfl dX12_sheet_76 ?_
                                                  refine lv_bipush (v := 40) hx hb dX12_sheet_79 (by decide) ?_
                                                  refine lv_iload_n hx hb dX12_sheet_81 rfl (lv_at hl 2 rfl) ?_
                                                  refine lv_imul hx hb dX12_sheet_82 ?_
                                                  refine lz_top (y := 80) (by decide) ?_
                                                  refine lv_iload hx hb dX12_sheet_83 (lv_at hl 0 rfl) ?_
                                                  refine lv_iadd hx hb dX12_sheet_85 ?_
                                                  refine lz_top (y := 91) (by decide) ?_
                                                  refine lv_iconst (v := 0) hx hb dX12_sheet_86 (by decide) ?_
                                                  refine lz_astc hx hb hK hP hD hS 3 0 rfl rfl (lz_vp (x := 91) (n := 160) (by decide) (by decide)) dX12_sheet_87 (fun H locs hP hD hS => ?_)
                                                  refine lv_iinc (v := 12) (lv' := [(4, .int 12), (0, .ref h0), (1, .int 2), (2, .int (-1)), (3, .int x2)]) hx hb dX12_sheet_88 hl (k := 0) rfl (by decide) (by decide) rfl (fun ls hl => ?_)
                                                  refine lv_goto (tgt := 68) hx hb dX12_sheet_91 (by decide) ?_
                                                  refine lv_iload hx hb dX12_sheet_68 (lv_at hl 0 rfl) ?_
                                                  refine lv_bipush (v := 40) hx hb dX12_sheet_70 (by decide) ?_
                                                  refine lv_icmp_ge (tgt := 94) hx hb dX12_sheet_72 (by decide) (fun c2208 => ?_) (fun c2208 => ?_)
                                                  · exact absurd c2208 (by decide)
                                                  · refine lv_aload_n hx hb dX12_sheet_75 rfl (lv_at hl 1 rfl) ?_
                                                    refine va_get (D := D) (ci := 12) (v := .ref h11) (C := RX12) (T := TX12) (N := 24) hx hb hts hin12 hown hK hP 0 rfl rfl 18 (by decide) (hts (.fieldLink RX12 44 "MissedPointsModel" "items" "[I") (by decide +kernel)) (fun _ h9 => h9) rfl dX12_sheet_76 ?_
                                                    refine lv_bipush (v := 40) hx hb dX12_sheet_79 (by decide) ?_
                                                    refine lv_iload_n hx hb dX12_sheet_81 rfl (lv_at hl 2 rfl) ?_
                                                    refine lv_imul hx hb dX12_sheet_82 ?_
                                                    refine lz_top (y := 80) (by decide) ?_
                                                    refine lv_iload hx hb dX12_sheet_83 (lv_at hl 0 rfl) ?_
                                                    refine lv_iadd hx hb dX12_sheet_85 ?_
                                                    refine lz_top (y := 92) (by decide) ?_
                                                    refine lv_iconst (v := 0) hx hb dX12_sheet_86 (by decide) ?_
                                                    refine lz_astc hx hb hK hP hD hS 3 0 rfl rfl (lz_vp (x := 92) (n := 160) (by decide) (by decide)) dX12_sheet_87 (fun H locs hP hD hS => ?_)
                                                    refine lv_iinc (v := 13) (lv' := [(4, .int 13), (0, .ref h0), (1, .int 2), (2, .int (-1)), (3, .int x2)]) hx hb dX12_sheet_88 hl (k := 0) rfl (by decide) (by decide) rfl (fun ls hl => ?_)
                                                    refine lv_goto (tgt := 68) hx hb dX12_sheet_91 (by decide) ?_
                                                    refine lv_iload hx hb dX12_sheet_68 (lv_at hl 0 rfl) ?_
                                                    refine lv_bipush (v := 40) hx hb dX12_sheet_70 (by decide) ?_
                                                    refine lv_icmp_ge (tgt := 94) hx hb dX12_sheet_72 (by decide) (fun c2209 => ?_) (fun c2209 => ?_)
                                                    · exact absurd c2209 (by decide)
                                                    · refine lv_aload_n hx hb dX12_sheet_75 rfl (lv_at hl 1 rfl) ?_
                                                      refine va_get (D := D) (ci := 12) (v := .ref h11) (C := RX12) (T := TX12) (N := 24) hx hb hts hin12 hown hK hP 0 rfl rfl 18 (by decide) (hts (.fieldLink RX12 44 "MissedPointsModel" "items" "[I") (by decide +kernel)) (fun _ h9 => h9) rfl dX12_sheet_76 ?_
                                                      refine lv_bipush (v := 40) hx hb dX12_sheet_79 (by decide) ?_
                                                      refine lv_iload_n hx hb dX12_sheet_81 rfl (lv_at hl 2 rfl) ?_
                                                      refine lv_imul hx hb dX12_sheet_82 ?_
                                                      refine lz_top (y := 80) (by decide) ?_
                                                      refine lv_iload hx hb dX12_sheet_83 (lv_at hl 0 rfl) ?_
                                                      refine lv_iadd hx hb dX12_sheet_85 ?_
                                                      refine lz_top (y := 93) (by decide) ?_
                                                      refine lv_iconst (v := 0) hx hb dX12_sheet_86 (by decide) ?_
                                                      refine lz_astc hx hb hK hP hD hS 3 0 rfl rfl (lz_vp (x := 93) (n := 160) (by decide) (by decide)) dX12_sheet_87 (fun H locs hP hD hS => ?_)
                                                      refine lv_iinc (v := 14) (lv' := [(4, .int 14), (0, .ref h0), (1, .int 2), (2, .int (-1)), (3, .int x2)]) hx hb dX12_sheet_88 hl (k := 0) rfl (by decide) (by decide) rfl (fun ls hl => ?_)
                                                      refine lv_goto (tgt := 68) hx hb dX12_sheet_91 (by decide) ?_
                                                      refine lv_iload hx hb dX12_sheet_68 (lv_at hl 0 rfl) ?_
                                                      refine lv_bipush (v := 40) hx hb dX12_sheet_70 (by decide) ?_
                                                      refine lv_icmp_ge (tgt := 94) hx hb dX12_sheet_72 (by decide) (fun c2210 => ?_) (fun c2210 => ?_)
                                                      · exact absurd c2210 (by decide)
                                                      · refine lv_aload_n hx hb dX12_sheet_75 rfl (lv_at hl 1 rfl) ?_
                                                        refine va_get (D := D) (ci := 12) (v := .ref h11) (C := RX12) (T := TX12) (N := 24) hx hb hts hin12 hown hK hP 0 rfl rfl 18 (by decide) (hts (.fieldLink RX12 44 "MissedPointsModel" "items" "[I") (by decide +kernel)) (fun _ h9 => h9) rfl dX12_sheet_76 ?_
                                                        refine lv_bipush (v := 40) hx hb dX12_sheet_79 (by decide) ?_
                                                        refine lv_iload_n hx hb dX12_sheet_81 rfl (lv_at hl 2 rfl) ?_
                                                        refine lv_imul hx hb dX12_sheet_82 ?_
                                                        refine lz_top (y := 80) (by decide) ?_
                                                        refine lv_iload hx hb dX12_sheet_83 (lv_at hl 0 rfl) ?_
                                                        refine lv_iadd hx hb dX12_sheet_85 ?_
                                                        refine lz_top (y := 94) (by decide) ?_
                                                        refine lv_iconst (v := 0) hx hb dX12_sheet_86 (by decide) ?_
                                                        refine lz_astc hx hb hK hP hD hS 3 0 rfl rfl (lz_vp (x := 94) (n := 160) (by decide) (by decide)) dX12_sheet_87 (fun H locs hP hD hS => ?_)
                                                        refine lv_iinc (v := 15) (lv' := [(4, .int 15), (0, .ref h0), (1, .int 2), (2, .int (-1)), (3, .int x2)]) hx hb dX12_sheet_88 hl (k := 0) rfl (by decide) (by decide) rfl (fun ls hl => ?_)
                                                        refine lv_goto (tgt := 68) hx hb dX12_sheet_91 (by decide) ?_
                                                        refine lv_iload hx hb dX12_sheet_68 (lv_at hl 0 rfl) ?_
                                                        refine lv_bipush (v := 40) hx hb dX12_sheet_70 (by decide) ?_
                                                        refine lv_icmp_ge (tgt := 94) hx hb dX12_sheet_72 (by decide) (fun c2211 => ?_) (fun c2211 => ?_)
                                                        · exact absurd c2211 (by decide)
                                                        · refine lv_aload_n hx hb dX12_sheet_75 rfl (lv_at hl 1 rfl) ?_
                                                          refine va_get (D := D) (ci := 12) (v := .ref h11) (C := RX12) (T := TX12) (N := 24) hx hb hts hin12 hown hK hP 0 rfl rfl 18 (by decide) (hts (.fieldLink RX12 44 "MissedPointsModel" "items" "[I") (by decide +kernel)) (fun _ h9 => h9) rfl dX12_sheet_76 ?_
                                                          refine lv_bipush (v := 40) hx hb dX12_sheet_79 (by decide) ?_
                                                          refine lv_iload_n hx hb dX12_sheet_81 rfl (lv_at hl 2 rfl) ?_
                                                          refine lv_imul hx hb dX12_sheet_82 ?_
                                                          refine lz_top (y := 80) (by decide) ?_
                                                          refine lv_iload hx hb dX12_sheet_83 (lv_at hl 0 rfl) ?_
                                                          refine lv_iadd hx hb dX12_sheet_85 ?_
                                                          refine lz_top (y := 95) (by decide) ?_
                                                          refine lv_iconst (v := 0) hx hb dX12_sheet_86 (by decide) ?_
                                                          refine lz_astc hx hb hK hP hD hS 3 0 rfl rfl (lz_vp (x := 95) (n := 160) (by decide) (by decide)) dX12_sheet_87 (fun H locs hP hD hS => ?_)
                                                          refine lv_iinc (v := 16) (lv' := [(4, .int 16), (0, .ref h0), (1, .int 2), (2, .int (-1)), (3, .int x2)]) hx hb dX12_sheet_88 hl (k := 0) rfl (by decide) (by decide) rfl (fun ls hl => ?_)
                                                          refine lv_goto (tgt := 68) hx hb dX12_sheet_91 (by decide) ?_
                                                          refine lv_iload hx hb dX12_sheet_68 (lv_at hl 0 rfl) ?_
                                                          refine lv_bipush (v := 40) hx hb dX12_sheet_70 (by decide) ?_
                                                          refine lv_icmp_ge (tgt := 94) hx hb dX12_sheet_72 (by decide) (fun c2212 => ?_) (fun c2212 => ?_)
                                                          · exact absurd c2212 (by decide)
                                                          · refine lv_aload_n hx hb dX12_sheet_75 rfl (lv_at hl 1 rfl) ?_
                                                            refine va_get (D := D) (ci := 12) (v := .ref h11) (C := RX12) (T := TX12) (N := 24) hx hb hts hin12 hown hK hP 0 rfl rfl 18 (by decide) (hts (.fieldLink RX12 44 "MissedPointsModel" "items" "[I") (by decide +kernel)) (fun _ h9 => h9) rfl dX12_sheet_76 ?_
                                                            refine lv_bipush (v := 40) hx hb dX12_sheet_79 (by decide) ?_
                                                            refine lv_iload_n hx hb dX12_sheet_81 rfl (lv_at hl 2 rfl) ?_
                                                            refine lv_imul hx hb dX12_sheet_82 ?_
                                                            refine lz_top (y := 80) (by decide) ?_
                                                            refine lv_iload hx hb dX12_sheet_83 (lv_at hl 0 rfl) ?_
                                                            refine lv_iadd hx hb dX12_sheet_85 ?_
                                                            refine lz_top (y := 96) (by decide) ?_
                                                            refine lv_iconst (v := 0) hx hb dX12_sheet_86 (by decide) ?_
                                                            refine lz_astc hx hb hK hP hD hS 3 0 rfl rfl (lz_vp (x := 96) (n := 160) (by decide) (by decide)) dX12_sheet_87 (fun H locs hP hD hS => ?_)
                                                            refine lv_iinc (v := 17) (lv' := [(4, .int 17), (0, .ref h0), (1, .int 2), (2, .int (-1)), (3, .int x2)]) hx hb dX12_sheet_88 hl (k := 0) rfl (by decide) (by decide) rfl (fun ls hl => ?_)
                                                            refine lv_goto (tgt := 68) hx hb dX12_sheet_91 (by decide) ?_
                                                            refine lv_iload hx hb dX12_sheet_68 (lv_at hl 0 rfl) ?_
                                                            refine lv_bipush (v := 40) hx hb dX12_sheet_70 (by decide) ?_
                                                            refine lv_icmp_ge (tgt := 94) hx hb dX12_sheet_72 (by decide) (fun c2213 => ?_) (fun c2213 => ?_)
                                                            · exact absurd c2213 (by decide)
                                                            · refine lv_aload_n hx hb dX12_sheet_75 rfl (lv_at hl 1 rfl) ?_
                                                              refine va_get (D := D) (ci := 12) (v := .ref h11) (C := RX12) (T := TX12) (N := 24) hx hb hts hin12 hown hK hP 0 rfl rfl 18 (by decide) (hts (.fieldLink RX12 44 "MissedPointsModel" "items" "[I") (by decide +kernel)) (fun _ h9 => h9) rfl dX12_sheet_76 ?_
                                                              refine lv_bipush (v := 40) hx hb dX12_sheet_79 (by decide) ?_
                                                              refine lv_iload_n hx hb dX12_sheet_81 rfl (lv_at hl 2 rfl) ?_
                                                              refine lv_imul hx hb dX12_sheet_82 ?_
                                                              refine lz_top (y := 80) (by decide) ?_
                                                              refine lv_iload hx hb dX12_sheet_83 (lv_at hl 0 rfl) ?_
                                                              refine lv_iadd hx hb dX12_sheet_85 ?_
                                                              refine lz_top (y := 97) (by decide) ?_
                                                              refine lv_iconst (v := 0) hx hb dX12_sheet_86 (by decide) ?_
                                                              refine lz_astc hx hb hK hP hD hS 3 0 rfl rfl (lz_vp (x := 97) (n := 160) (by decide) (by decide)) dX12_sheet_87 (fun H locs hP hD hS => ?_)
                                                              refine lv_iinc (v := 18) (lv' := [(4, .int 18), (0, .ref h0), (1, .int 2), (2, .int (-1)), (3, .int x2)]) hx hb dX12_sheet_88 hl (k := 0) rfl (by decide) (by decide) rfl (fun ls hl => ?_)
                                                              refine lv_goto (tgt := 68) hx hb dX12_sheet_91 (by decide) ?_
                                                              refine lv_iload hx hb dX12_sheet_68 (lv_at hl 0 rfl) ?_
                                                              refine lv_bipush (v := 40) hx hb dX12_sheet_70 (by decide) ?_
                                                              refine lv_icmp_ge (tgt := 94) hx hb dX12_sheet_72 (by decide) (fun c2214 => ?_) (fun c2214 => ?_)
                                                              · exact absurd c2214 (by decide)
                                                              · refine lv_aload_n hx hb dX12_sheet_75 rfl (lv_at hl 1 rfl) ?_
                                                                refine va_get (D := D) (ci := 12) (v := .ref h11) (C := RX12) (T := TX12) (N := 24) hx hb hts hin12 hown hK hP 0 rfl rfl 18 (by decide) (hts (.fieldLink RX12 44 "MissedPointsModel" "items" "[I") (by decide +kernel)) (fun _ h9 => h9) rfl dX12_sheet_76 ?_
                                                                refine lv_bipush (v := 40) hx hb dX12_sheet_79 (by decide) ?_
                                                                refine lv_iload_n hx hb dX12_sheet_81 rfl (lv_at hl 2 rfl) ?_
                                                                refine lv_imul hx hb dX12_sheet_82 ?_
                                                                refine lz_top (y := 80) (by decide) ?_
                                                                refine lv_iload hx hb dX12_sheet_83 (lv_at hl 0 rfl) ?_
                                                                refine lv_iadd hx hb dX12_sheet_85 ?_
                                                                refine lz_top (y := 98) (by decide) ?_
                                                                refine lv_iconst (v := 0) hx hb dX12_sheet_86 (by decide) ?_
                                                                refine lz_astc hx hb hK hP hD hS 3 0 rfl rfl (lz_vp (x := 98) (n := 160) (by decide) (by decide)) dX12_sheet_87 (fun H locs hP hD hS => ?_)
                                                                refine lv_iinc (v := 19) (lv' := [(4, .int 19), (0, .ref h0), (1, .int 2), (2, .int (-1)), (3, .int x2)]) hx hb dX12_sheet_88 hl (k := 0) rfl (by decide) (by decide) rfl (fun ls hl => ?_)
                                                                refine lv_goto (tgt := 68) hx hb dX12_sheet_91 (by decide) ?_
                                                                refine lv_iload hx hb dX12_sheet_68 (lv_at hl 0 rfl) ?_
                                                                refine lv_bipush (v := 40) hx hb dX12_sheet_70 (by decide) ?_
                                                                refine lv_icmp_ge (tgt := 94) hx hb dX12_sheet_72 (by decide) (fun c2215 => ?_) (fun c2215 => ?_)
                                                                · exact absurd c2215 (by decide)
                                                                · refine lv_aload_n hx hb dX12_sheet_75 rfl (lv_at hl 1 rfl) ?_
                                                                  refine va_get (D := D) (ci := 12) (v := .ref h11) (C := RX12) (T := TX12) (N := 24) hx hb hts hin12 hown hK hP 0 rfl rfl 18 (by decide) (hts (.fieldLink RX12 44 "MissedPointsModel" "items" "[I") (by decide +kernel)) (fun _ h9 => h9) rfl dX12_sheet_76 ?_
                                                                  refine lv_bipush (v := 40) hx hb dX12_sheet_79 (by decide) ?_
                                                                  refine lv_iload_n hx hb dX12_sheet_81 rfl (lv_at hl 2 rfl) ?_
                                                                  refine lv_imul hx hb dX12_sheet_82 ?_
                                                                  refine lz_top (y := 80) (by decide) ?_
                                                                  refine lv_iload hx hb dX12_sheet_83 (lv_at hl 0 rfl) ?_
                                                                  refine lv_iadd hx hb dX12_sheet_85 ?_
                                                                  refine lz_top (y := 99) (by decide) ?_
                                                                  refine lv_iconst (v := 0) hx hb dX12_sheet_86 (by decide) ?_
                                                                  refine lz_astc hx hb hK hP hD hS 3 0 rfl rfl (lz_vp (x := 99) (n := 160) (by decide) (by decide)) dX12_sheet_87 (fun H locs hP hD hS => ?_)
                                                                  refine lv_iinc (v := 20) (lv' := [(4, .int 20), (0, .ref h0), (1, .int 2), (2, .int (-1)), (3, .int x2)]) hx hb dX12_sheet_88 hl (k := 0) rfl (by decide) (by decide) rfl (fun ls hl => ?_)
                                                                  refine lv_goto (tgt := 68) hx hb dX12_sheet_91 (by decide) ?_
                                                                  refine lv_iload hx hb dX12_sheet_68 (lv_at hl 0 rfl) ?_
                                                                  refine lv_bipush (v := 40) hx hb dX12_sheet_70 (by decide) ?_
                                                                  refine lv_icmp_ge (tgt := 94) hx hb dX12_sheet_72 (by decide) (fun c2216 => ?_) (fun c2216 => ?_)
                                                                  · exact absurd c2216 (by decide)
                                                                  · refine lv_aload_n hx hb dX12_sheet_75 rfl (lv_at hl 1 rfl) ?_
                                                                    refine va_get (D := D) (ci := 12) (v := .ref h11) (C := RX12) (T := TX12) (N := 24) hx hb hts hin12 hown hK hP 0 rfl rfl 18 (by decide) (hts (.fieldLink RX12 44 "MissedPointsModel" "items" "[I") (by decide +kernel)) (fun _ h9 => h9) rfl dX12_sheet_76 ?_
                                                                    refine lv_bipush (v := 40) hx hb dX12_sheet_79 (by decide) ?_
                                                                    refine lv_iload_n hx hb dX12_sheet_81 rfl (lv_at hl 2 rfl) ?_
                                                                    refine lv_imul hx hb dX12_sheet_82 ?_
                                                                    refine lz_top (y := 80) (by decide) ?_
                                                                    refine lv_iload hx hb dX12_sheet_83 (lv_at hl 0 rfl) ?_
                                                                    refine lv_iadd hx hb dX12_sheet_85 ?_
                                                                    refine lz_top (y := 100) (by decide) ?_
                                                                    refine lv_iconst (v := 0) hx hb dX12_sheet_86 (by decide) ?_
                                                                    refine lz_astc hx hb hK hP hD hS 3 0 rfl rfl (lz_vp (x := 100) (n := 160) (by decide) (by decide)) dX12_sheet_87 (fun H locs hP hD hS => ?_)
                                                                    refine lv_iinc (v := 21) (lv' := [(4, .int 21), (0, .ref h0), (1, .int 2), (2, .int (-1)), (3, .int x2)]) hx hb dX12_sheet_88 hl (k := 0) rfl (by decide) (by decide) rfl (fun ls hl => ?_)
                                                                    refine lv_goto (tgt := 68) hx hb dX12_sheet_91 (by decide) ?_
                                                                    refine lv_iload hx hb dX12_sheet_68 (lv_at hl 0 rfl) ?_
                                                                    refine lv_bipush (v := 40) hx hb dX12_sheet_70 (by decide) ?_
                                                                    refine lv_icmp_ge (tgt := 94) hx hb dX12_sheet_72 (by decide) (fun c2217 => ?_) (fun c2217 => ?_)
                                                                    · exact absurd c2217 (by decide)
                                                                    · refine lv_aload_n hx hb dX12_sheet_75 rfl (lv_at hl 1 rfl) ?_
                                                                      refine va_get (D := D) (ci := 12) (v := .ref h11) (C := RX12) (T := TX12) (N := 24) hx hb hts hin12 hown hK hP 0 rfl rfl 18 (by decide) (hts (.fieldLink RX12 44 "MissedPointsModel" "items" "[I") (by decide +kernel)) (fun _ h9 => h9) rfl dX12_sheet_76 ?_
                                                                      refine lv_bipush (v := 40) hx hb dX12_sheet_79 (by decide) ?_
                                                                      refine lv_iload_n hx hb dX12_sheet_81 rfl (lv_at hl 2 rfl) ?_
                                                                      refine lv_imul hx hb dX12_sheet_82 ?_
                                                                      refine lz_top (y := 80) (by decide) ?_
                                                                      refine lv_iload hx hb dX12_sheet_83 (lv_at hl 0 rfl) ?_
                                                                      refine lv_iadd hx hb dX12_sheet_85 ?_
                                                                      refine lz_top (y := 101) (by decide) ?_
                                                                      refine lv_iconst (v := 0) hx hb dX12_sheet_86 (by decide) ?_
                                                                      refine lz_astc hx hb hK hP hD hS 3 0 rfl rfl (lz_vp (x := 101) (n := 160) (by decide) (by decide)) dX12_sheet_87 (fun H locs hP hD hS => ?_)
                                                                      refine lv_iinc (v := 22) (lv' := [(4, .int 22), (0, .ref h0), (1, .int 2), (2, .int (-1)), (3, .int x2)]) hx hb dX12_sheet_88 hl (k := 0) rfl (by decide) (by decide) rfl (fun ls hl => ?_)
                                                                      refine lv_goto (tgt := 68) hx hb dX12_sheet_91 (by decide) ?_
                                                                      refine lv_iload hx hb dX12_sheet_68 (lv_at hl 0 rfl) ?_
                                                                      refine lv_bipush (v := 40) hx hb dX12_sheet_70 (by decide) ?_
                                                                      refine lv_icmp_ge (tgt := 94) hx hb dX12_sheet_72 (by decide) (fun c2218 => ?_) (fun c2218 => ?_)
                                                                      · exact absurd c2218 (by decide)
                                                                      · refine lv_aload_n hx hb dX12_sheet_75 rfl (lv_at hl 1 rfl) ?_
                                                                        refine va_get (D := D) (ci := 12) (v := .ref h11) (C := RX12) (T := TX12) (N := 24) hx hb hts hin12 hown hK hP 0 rfl rfl 18 (by decide) (hts (.fieldLink RX12 44 "MissedPointsModel" "items" "[I") (by decide +kernel)) (fun _ h9 => h9) rfl dX12_sheet_76 ?_
                                                                        refine lv_bipush (v := 40) hx hb dX12_sheet_79 (by decide) ?_
                                                                        refine lv_iload_n hx hb dX12_sheet_81 rfl (lv_at hl 2 rfl) ?_
                                                                        refine lv_imul hx hb dX12_sheet_82 ?_
                                                                        refine lz_top (y := 80) (by decide) ?_
                                                                        refine lv_iload hx hb dX12_sheet_83 (lv_at hl 0 rfl) ?_
                                                                        refine lv_iadd hx hb dX12_sheet_85 ?_
                                                                        refine lz_top (y := 102) (by decide) ?_
                                                                        refine lv_iconst (v := 0) hx hb dX12_sheet_86 (by decide) ?_
                                                                        refine lz_astc hx hb hK hP hD hS 3 0 rfl rfl (lz_vp (x := 102) (n := 160) (by decide) (by decide)) dX12_sheet_87 (fun H locs hP hD hS => ?_)
                                                                        refine lv_iinc (v := 23) (lv' := [(4, .int 23), (0, .ref h0), (1, .int 2), (2, .int (-1)), (3, .int x2)]) hx hb dX12_sheet_88 hl (k := 0) rfl (by decide) (by decide) rfl (fun ls hl => ?_)
                                                                        refine lv_goto (tgt := 68) hx hb dX12_sheet_91 (by decide) ?_
                                                                        refine lv_iload hx hb dX12_sheet_68 (lv_at hl 0 rfl) ?_
                                                                        refine lv_bipush (v := 40) hx hb dX12_sheet_70 (by decide) ?_
                                                                        refine lv_icmp_ge (tgt := 94) hx hb dX12_sheet_72 (by decide) (fun c2219 => ?_) (fun c2219 => ?_)
                                                                        · exact absurd c2219 (by decide)
                                                                        · refine lv_aload_n hx hb dX12_sheet_75 rfl (lv_at hl 1 rfl) ?_
                                                                          refine va_get (D := D) (ci := 12) (v := .ref h11) (C := RX12) (T := TX12) (N := 24) hx hb hts hin12 hown hK hP 0 rfl rfl 18 (by decide) (hts (.fieldLink RX12 44 "MissedPointsModel" "items" "[I") (by decide +kernel)) (fun _ h9 => h9) rfl dX12_sheet_76 ?_
                                                                          refine lv_bipush (v := 40) hx hb dX12_sheet_79 (by decide) ?_
                                                                          refine lv_iload_n hx hb dX12_sheet_81 rfl (lv_at hl 2 rfl) ?_
                                                                          refine lv_imul hx hb dX12_sheet_82 ?_
                                                                          refine lz_top (y := 80) (by decide) ?_
                                                                          refine lv_iload hx hb dX12_sheet_83 (lv_at hl 0 rfl) ?_
                                                                          refine lv_iadd hx hb dX12_sheet_85 ?_
                                                                          refine lz_top (y := 103) (by decide) ?_
                                                                          refine lv_iconst (v := 0) hx hb dX12_sheet_86 (by decide) ?_
                                                                          refine lz_astc hx hb hK hP hD hS 3 0 rfl rfl (lz_vp (x := 103) (n := 160) (by decide) (by decide)) dX12_sheet_87 (fun H locs hP hD hS => ?_)
                                                                          refine lv_iinc (v := 24) (lv' := [(4, .int 24), (0, .ref h0), (1, .int 2), (2, .int (-1)), (3, .int x2)]) hx hb dX12_sheet_88 hl (k := 0) rfl (by decide) (by decide) rfl (fun ls hl => ?_)
                                                                          refine lv_goto (tgt := 68) hx hb dX12_sheet_91 (by decide) ?_
                                                                          refine lv_iload hx hb dX12_sheet_68 (lv_at hl 0 rfl) ?_
                                                                          refine lv_bipush (v := 40) hx hb dX12_sheet_70 (by decide) ?_
                                                                          refine lv_icmp_ge (tgt := 94) hx hb dX12_sheet_72 (by decide) (fun c2220 => ?_) (fun c2220 => ?_)
                                                                          · exact absurd c2220 (by decide)
                                                                          · refine lv_aload_n hx hb dX12_sheet_75 rfl (lv_at hl 1 rfl) ?_
                                                                            refine va_get (D := D) (ci := 12) (v := .ref h11) (C := RX12) (T := TX12) (N := 24) hx hb hts hin12 hown hK hP 0 rfl rfl 18 (by decide) (hts (.fieldLink RX12 44 "MissedPointsModel" "items" "[I") (by decide +kernel)) (fun _ h9 => h9) rfl dX12_sheet_76 ?_
                                                                            refine lv_bipush (v := 40) hx hb dX12_sheet_79 (by decide) ?_
                                                                            refine lv_iload_n hx hb dX12_sheet_81 rfl (lv_at hl 2 rfl) ?_
                                                                            refine lv_imul hx hb dX12_sheet_82 ?_
                                                                            refine lz_top (y := 80) (by decide) ?_
                                                                            refine lv_iload hx hb dX12_sheet_83 (lv_at hl 0 rfl) ?_
                                                                            refine lv_iadd hx hb dX12_sheet_85 ?_
                                                                            refine lz_top (y := 104) (by decide) ?_
                                                                            refine lv_iconst (v := 0) hx hb dX12_sheet_86 (by decide) ?_
                                                                            refine lz_astc hx hb hK hP hD hS 3 0 rfl rfl (lz_vp (x := 104) (n := 160) (by decide) (by decide)) dX12_sheet_87 (fun H locs hP hD hS => ?_)
                                                                            refine lv_iinc (v := 25) (lv' := [(4, .int 25), (0, .ref h0), (1, .int 2), (2, .int (-1)), (3, .int x2)]) hx hb dX12_sheet_88 hl (k := 0) rfl (by decide) (by decide) rfl (fun ls hl => ?_)
                                                                            refine lv_goto (tgt := 68) hx hb dX12_sheet_91 (by decide) ?_
                                                                            refine lv_iload hx hb dX12_sheet_68 (lv_at hl 0 rfl) ?_
                                                                            refine lv_bipush (v := 40) hx hb dX12_sheet_70 (by decide) ?_
                                                                            refine lv_icmp_ge (tgt := 94) hx hb dX12_sheet_72 (by decide) (fun c2221 => ?_) (fun c2221 => ?_)
                                                                            · exact absurd c2221 (by decide)
                                                                            · refine lv_aload_n hx hb dX12_sheet_75 rfl (lv_at hl 1 rfl) ?_
                                                                              refine va_get (D := D) (ci := 12) (v := .ref h11) (C := RX12) (T := TX12) (N := 24) hx hb hts hin12 hown hK hP 0 rfl rfl 18 (by decide) (hts (.fieldLink RX12 44 "MissedPointsModel" "items" "[I") (by decide +kernel)) (fun _ h9 => h9) rfl dX12_sheet_76 ?_
                                                                              refine lv_bipush (v := 40) hx hb dX12_sheet_79 (by decide) ?_
                                                                              refine lv_iload_n hx hb dX12_sheet_81 rfl (lv_at hl 2 rfl) ?_
                                                                              refine lv_imul hx hb dX12_sheet_82 ?_
                                                                              refine lz_top (y := 80) (by decide) ?_
                                                                              refine lv_iload hx hb dX12_sheet_83 (lv_at hl 0 rfl) ?_
                                                                              refine lv_iadd hx hb dX12_sheet_85 ?_
                                                                              refine lz_top (y := 105) (by decide) ?_
                                                                              refine lv_iconst (v := 0) hx hb dX12_sheet_86 (by decide) ?_
                                                                              refine lz_astc hx hb hK hP hD hS 3 0 rfl rfl (lz_vp (x := 105) (n := 160) (by decide) (by decide)) dX12_sheet_87 (fun H locs hP hD hS => ?_)
                                                                              refine lv_iinc (v := 26) (lv' := [(4, .int 26), (0, .ref h0), (1, .int 2), (2, .int (-1)), (3, .int x2)]) hx hb dX12_sheet_88 hl (k := 0) rfl (by decide) (by decide) rfl (fun ls hl => ?_)
                                                                              refine lv_goto (tgt := 68) hx hb dX12_sheet_91 (by decide) ?_
                                                                              refine lv_iload hx hb dX12_sheet_68 (lv_at hl 0 rfl) ?_
                                                                              refine lv_bipush (v := 40) hx hb dX12_sheet_70 (by decide) ?_
                                                                              refine lv_icmp_ge (tgt := 94) hx hb dX12_sheet_72 (by decide) (fun c2222 => ?_) (fun c2222 => ?_)
                                                                              · exact absurd c2222 (by decide)
                                                                              · refine lv_aload_n hx hb dX12_sheet_75 rfl (lv_at hl 1 rfl) ?_
                                                                                refine va_get (D := D) (ci := 12) (v := .ref h11) (C := RX12) (T := TX12) (N := 24) hx hb hts hin12 hown hK hP 0 rfl rfl 18 (by decide) (hts (.fieldLink RX12 44 "MissedPointsModel" "items" "[I") (by decide +kernel)) (fun _ h9 => h9) rfl dX12_sheet_76 ?_
                                                                                refine lv_bipush (v := 40) hx hb dX12_sheet_79 (by decide) ?_
                                                                                refine lv_iload_n hx hb dX12_sheet_81 rfl (lv_at hl 2 rfl) ?_
                                                                                refine lv_imul hx hb dX12_sheet_82 ?_
                                                                                refine lz_top (y := 80) (by decide) ?_
                                                                                refine lv_iload hx hb dX12_sheet_83 (lv_at hl 0 rfl) ?_
                                                                                refine lv_iadd hx hb dX12_sheet_85 ?_
                                                                                refine lz_top (y := 106) (by decide) ?_
                                                                                refine lv_iconst (v := 0) hx hb dX12_sheet_86 (by decide) ?_
                                                                                refine lz_astc hx hb hK hP hD hS 3 0 rfl rfl (lz_vp (x := 106) (n := 160) (by decide) (by decide)) dX12_sheet_87 (fun H locs hP hD hS => ?_)
                                                                                refine lv_iinc (v := 27) (lv' := [(4, .int 27), (0, .ref h0), (1, .int 2), (2, .int (-1)), (3, .int x2)]) hx hb dX12_sheet_88 hl (k := 0) rfl (by decide) (by decide) rfl (fun ls hl => ?_)
                                                                                refine lv_goto (tgt := 68) hx hb dX12_sheet_91 (by decide) ?_
                                                                                refine lv_iload hx hb dX12_sheet_68 (lv_at hl 0 rfl) ?_
                                                                                refine lv_bipush (v := 40) hx hb dX12_sheet_70 (by decide) ?_
                                                                                refine lv_icmp_ge (tgt := 94) hx hb dX12_sheet_72 (by decide) (fun c2223 => ?_) (fun c2223 => ?_)
                                                                                · exact absurd c2223 (by decide)
                                                                                · refine lv_aload_n hx hb dX12_sheet_75 rfl (lv_at hl 1 rfl) ?_
                                                                                  refine va_get (D := D) (ci := 12) (v := .ref h11) (C := RX12) (T := TX12) (N := 24) hx hb hts hin12 hown hK hP 0 rfl rfl 18 (by decide) (hts (.fieldLink RX12 44 "MissedPointsModel" "items" "[I") (by decide +kernel)) (fun _ h9 => h9) rfl dX12_sheet_76 ?_
                                                                                  refine lv_bipush (v := 40) hx hb dX12_sheet_79 (by decide) ?_
                                                                                  refine lv_iload_n hx hb dX12_sheet_81 rfl (lv_at hl 2 rfl) ?_
                                                                                  refine lv_imul hx hb dX12_sheet_82 ?_
                                                                                  refine lz_top (y := 80) (by decide) ?_
                                                                                  refine lv_iload hx hb dX12_sheet_83 (lv_at hl 0 rfl) ?_
                                                                                  refine lv_iadd hx hb dX12_sheet_85 ?_
                                                                                  refine lz_top (y := 107) (by decide) ?_
                                                                                  refine lv_iconst (v := 0) hx hb dX12_sheet_86 (by decide) ?_
                                                                                  refine lz_astc hx hb hK hP hD hS 3 0 rfl rfl (lz_vp (x := 107) (n := 160) (by decide) (by decide)) dX12_sheet_87 (fun H locs hP hD hS => ?_)
                                                                                  refine lv_iinc (v := 28) (lv' := [(4, .int 28), (0, .ref h0), (1, .int 2), (2, .int (-1)), (3, .int x2)]) hx hb dX12_sheet_88 hl (k := 0) rfl (by decide) (by decide) rfl (fun ls hl => ?_)
                                                                                  refine lv_goto (tgt := 68) hx hb dX12_sheet_91 (by decide) ?_
                                                                                  refine lv_iload hx hb dX12_sheet_68 (lv_at hl 0 rfl) ?_
                                                                                  refine lv_bipush (v := 40) hx hb dX12_sheet_70 (by decide) ?_
                                                                                  refine lv_icmp_ge (tgt := 94) hx hb dX12_sheet_72 (by decide) (fun c2224 => ?_) (fun c2224 => ?_)
                                                                                  · exact absurd c2224 (by decide)
                                                                                  · refine lv_aload_n hx hb dX12_sheet_75 rfl (lv_at hl 1 rfl) ?_
                                                                                    refine va_get (D := D) (ci := 12) (v := .ref h11) (C := RX12) (T := TX12) (N := 24) hx hb hts hin12 hown hK hP 0 rfl rfl 18 (by decide) (hts (.fieldLink RX12 44 "MissedPointsModel" "items" "[I") (by decide +kernel)) (fun _ h9 => h9) rfl dX12_sheet_76 ?_
                                                                                    refine lv_bipush (v := 40) hx hb dX12_sheet_79 (by decide) ?_
                                                                                    refine lv_iload_n hx hb dX12_sheet_81 rfl (lv_at hl 2 rfl) ?_
                                                                                    refine lv_imul hx hb dX12_sheet_82 ?_
                                                                                    refine lz_top (y := 80) (by decide) ?_
                                                                                    refine lv_iload hx hb dX12_sheet_83 (lv_at hl 0 rfl) ?_
                                                                                    refine lv_iadd hx hb dX12_sheet_85 ?_
                                                                                    refine lz_top (y := 108) (by decide) ?_
                                                                                    refine lv_iconst (v := 0) hx hb dX12_sheet_86 (by decide) ?_
                                                                                    refine lz_astc hx hb hK hP hD hS 3 0 rfl rfl (lz_vp (x := 108) (n := 160) (by decide) (by decide)) dX12_sheet_87 (fun H locs hP hD hS => ?_)
                                                                                    refine lv_iinc (v := 29) (lv' := [(4, .int 29), (0, .ref h0), (1, .int 2), (2, .int (-1)), (3, .int x2)]) hx hb dX12_sheet_88 hl (k := 0) rfl (by decide) (by decide) rfl (fun ls hl => ?_)
                                                                                    refine lv_goto (tgt := 68) hx hb dX12_sheet_91 (by decide) ?_
                                                                                    refine lv_iload hx hb dX12_sheet_68 (lv_at hl 0 rfl) ?_
                                                                                    refine lv_bipush (v := 40) hx hb dX12_sheet_70 (by decide) ?_
                                                                                    refine lv_icmp_ge (tgt := 94) hx hb dX12_sheet_72 (by decide) (fun c2225 => ?_) (fun c2225 => ?_)
                                                                                    · exact absurd c2225 (by decide)
                                                                                    · refine lv_aload_n hx hb dX12_sheet_75 rfl (lv_at hl 1 rfl) ?_
                                                                                      refine va_get (D := D) (ci := 12) (v := .ref h11) (C := RX12) (T := TX12) (N := 24) hx hb hts hin12 hown hK hP 0 rfl rfl 18 (by decide) (hts (.fieldLink RX12 44 "MissedPointsModel" "items" "[I") (by decide +kernel)) (fun _ h9 => h9) rfl dX12_sheet_76 ?_
                                                                                      refine lv_bipush (v := 40) hx hb dX12_sheet_79 (by decide) ?_
                                                                                      refine lv_iload_n hx hb dX12_sheet_81 rfl (lv_at hl 2 rfl) ?_
                                                                                      refine lv_imul hx hb dX12_sheet_82 ?_
                                                                                      refine lz_top (y := 80) (by decide) ?_
                                                                                      refine lv_iload hx hb dX12_sheet_83 (lv_at hl 0 rfl) ?_
                                                                                      refine lv_iadd hx hb dX12_sheet_85 ?_
                                                                                      refine lz_top (y := 109) (by decide) ?_
                                                                                      refine lv_iconst (v := 0) hx hb dX12_sheet_86 (by decide) ?_
                                                                                      refine lz_astc hx hb hK hP hD hS 3 0 rfl rfl (lz_vp (x := 109) (n := 160) (by decide) (by decide)) dX12_sheet_87 (fun H locs hP hD hS => ?_)
                                                                                      refine lv_iinc (v := 30) (lv' := [(4, .int 30), (0, .ref h0), (1, .int 2), (2, .int (-1)), (3, .int x2)]) hx hb dX12_sheet_88 hl (k := 0) rfl (by decide) (by decide) rfl (fun ls hl => ?_)
                                                                                      refine lv_goto (tgt := 68) hx hb dX12_sheet_91 (by decide) ?_
                                                                                      refine lv_iload hx hb dX12_sheet_68 (lv_at hl 0 rfl) ?_
                                                                                      refine lv_bipush (v := 40) hx hb dX12_sheet_70 (by decide) ?_
                                                                                      refine lv_icmp_ge (tgt := 94) hx hb dX12_sheet_72 (by decide) (fun c2226 => ?_) (fun c2226 => ?_)
                                                                                      · exact absurd c2226 (by decide)
                                                                                      · refine lv_aload_n hx hb dX12_sheet_75 rfl (lv_at hl 1 rfl) ?_
                                                                                        refine va_get (D := D) (ci := 12) (v := .ref h11) (C := RX12) (T := TX12) (N := 24) hx hb hts hin12 hown hK hP 0 rfl rfl 18 (by decide) (hts (.fieldLink RX12 44 "MissedPointsModel" "items" "[I") (by decide +kernel)) (fun _ h9 => h9) rfl dX12_sheet_76 ?_
                                                                                        refine lv_bipush (v := 40) hx hb dX12_sheet_79 (by decide) ?_
                                                                                        refine lv_iload_n hx hb dX12_sheet_81 rfl (lv_at hl 2 rfl) ?_
                                                                                        refine lv_imul hx hb dX12_sheet_82 ?_
                                                                                        refine lz_top (y := 80) (by decide) ?_
                                                                                        refine lv_iload hx hb dX12_sheet_83 (lv_at hl 0 rfl) ?_
                                                                                        refine lv_iadd hx hb dX12_sheet_85 ?_
                                                                                        refine lz_top (y := 110) (by decide) ?_
                                                                                        refine lv_iconst (v := 0) hx hb dX12_sheet_86 (by decide) ?_
                                                                                        refine lz_astc hx hb hK hP hD hS 3 0 rfl rfl (lz_vp (x := 110) (n := 160) (by decide) (by decide)) dX12_sheet_87 (fun H locs hP hD hS => ?_)
                                                                                        refine lv_iinc (v := 31) (lv' := [(4, .int 31), (0, .ref h0), (1, .int 2), (2, .int (-1)), (3, .int x2)]) hx hb dX12_sheet_88 hl (k := 0) rfl (by decide) (by decide) rfl (fun ls hl => ?_)
                                                                                        refine lv_goto (tgt := 68) hx hb dX12_sheet_91 (by decide) ?_
                                                                                        refine lv_iload hx hb dX12_sheet_68 (lv_at hl 0 rfl) ?_
                                                                                        refine lv_bipush (v := 40) hx hb dX12_sheet_70 (by decide) ?_
                                                                                        refine lv_icmp_ge (tgt := 94) hx hb dX12_sheet_72 (by decide) (fun c2227 => ?_) (fun c2227 => ?_)
                                                                                        · exact absurd c2227 (by decide)
                                                                                        · refine lv_aload_n hx hb dX12_sheet_75 rfl (lv_at hl 1 rfl) ?_
                                                                                          refine va_get (D := D) (ci := 12) (v := .ref h11) (C := RX12) (T := TX12) (N := 24) hx hb hts hin12 hown hK hP 0 rfl rfl 18 (by decide) (hts (.fieldLink RX12 44 "MissedPointsModel" "items" "[I") (by decide +kernel)) (fun _ h9 => h9) rfl dX12_sheet_76 ?_
                                                                                          refine lv_bipush (v := 40) hx hb dX12_sheet_79 (by decide) ?_
                                                                                          refine lv_iload_n hx hb dX12_sheet_81 rfl (lv_at hl 2 rfl) ?_
                                                                                          refine lv_imul hx hb dX12_sheet_82 ?_
                                                                                          refine lz_top (y := 80) (by decide) ?_
                                                                                          refine lv_iload hx hb dX12_sheet_83 (lv_at hl 0 rfl) ?_
                                                                                          refine lv_iadd hx hb dX12_sheet_85 ?_
                                                                                          refine lz_top (y := 111) (by decide) ?_
                                                                                          refine lv_iconst (v := 0) hx hb dX12_sheet_86 (by decide) ?_
                                                                                          refine lz_astc hx hb hK hP hD hS 3 0 rfl rfl (lz_vp (x := 111) (n := 160) (by decide) (by decide)) dX12_sheet_87 (fun H locs hP hD hS => ?_)
                                                                                          refine lv_iinc (v := 32) (lv' := [(4, .int 32), (0, .ref h0), (1, .int 2), (2, .int (-1)), (3, .int x2)]) hx hb dX12_sheet_88 hl (k := 0) rfl (by decide) (by decide) rfl (fun ls hl => ?_)
                                                                                          refine lv_goto (tgt := 68) hx hb dX12_sheet_91 (by decide) ?_
                                                                                          refine lv_iload hx hb dX12_sheet_68 (lv_at hl 0 rfl) ?_
                                                                                          refine lv_bipush (v := 40) hx hb dX12_sheet_70 (by decide) ?_
                                                                                          refine lv_icmp_ge (tgt := 94) hx hb dX12_sheet_72 (by decide) (fun c2228 => ?_) (fun c2228 => ?_)
                                                                                          · exact absurd c2228 (by decide)
                                                                                          · refine lv_aload_n hx hb dX12_sheet_75 rfl (lv_at hl 1 rfl) ?_
                                                                                            refine va_get (D := D) (ci := 12) (v := .ref h11) (C := RX12) (T := TX12) (N := 24) hx hb hts hin12 hown hK hP 0 rfl rfl 18 (by decide) (hts (.fieldLink RX12 44 "MissedPointsModel" "items" "[I") (by decide +kernel)) (fun _ h9 => h9) rfl dX12_sheet_76 ?_
                                                                                            refine lv_bipush (v := 40) hx hb dX12_sheet_79 (by decide) ?_
                                                                                            refine lv_iload_n hx hb dX12_sheet_81 rfl (lv_at hl 2 rfl) ?_
                                                                                            refine lv_imul hx hb dX12_sheet_82 ?_
                                                                                            refine lz_top (y := 80) (by decide) ?_
                                                                                            refine lv_iload hx hb dX12_sheet_83 (lv_at hl 0 rfl) ?_
                                                                                            refine lv_iadd hx hb dX12_sheet_85 ?_
                                                                                            refine lz_top (y := 112) (by decide) ?_
                                                                                            refine lv_iconst (v := 0) hx hb dX12_sheet_86 (by decide) ?_
                                                                                            refine lz_astc hx hb hK hP hD hS 3 0 rfl rfl (lz_vp (x := 112) (n := 160) (by decide) (by decide)) dX12_sheet_87 (fun H locs hP hD hS => ?_)
                                                                                            refine lv_iinc (v := 33) (lv' := [(4, .int 33), (0, .ref h0), (1, .int 2), (2, .int (-1)), (3, .int x2)]) hx hb dX12_sheet_88 hl (k := 0) rfl (by decide) (by decide) rfl (fun ls hl => ?_)
                                                                                            refine lv_goto (tgt := 68) hx hb dX12_sheet_91 (by decide) ?_
                                                                                            refine lv_iload hx hb dX12_sheet_68 (lv_at hl 0 rfl) ?_
                                                                                            refine lv_bipush (v := 40) hx hb dX12_sheet_70 (by decide) ?_
                                                                                            refine lv_icmp_ge (tgt := 94) hx hb dX12_sheet_72 (by decide) (fun c2229 => ?_) (fun c2229 => ?_)
                                                                                            · exact absurd c2229 (by decide)
                                                                                            · refine lv_aload_n hx hb dX12_sheet_75 rfl (lv_at hl 1 rfl) ?_
                                                                                              refine va_get (D := D) (ci := 12) (v := .ref h11) (C := RX12) (T := TX12) (N := 24) hx hb hts hin12 hown hK hP 0 rfl rfl 18 (by decide) (hts (.fieldLink RX12 44 "MissedPointsModel" "items" "[I") (by decide +kernel)) (fun _ h9 => h9) rfl dX12_sheet_76 ?_
                                                                                              refine lv_bipush (v := 40) hx hb dX12_sheet_79 (by decide) ?_
                                                                                              refine lv_iload_n hx hb dX12_sheet_81 rfl (lv_at hl 2 rfl) ?_
                                                                                              refine lv_imul hx hb dX12_sheet_82 ?_
                                                                                              refine lz_top (y := 80) (by decide) ?_
                                                                                              refine lv_iload hx hb dX12_sheet_83 (lv_at hl 0 rfl) ?_
                                                                                              refine lv_iadd hx hb dX12_sheet_85 ?_
                                                                                              refine lz_top (y := 113) (by decide) ?_
                                                                                              refine lv_iconst (v := 0) hx hb dX12_sheet_86 (by decide) ?_
                                                                                              refine lz_astc hx hb hK hP hD hS 3 0 rfl rfl (lz_vp (x := 113) (n := 160) (by decide) (by decide)) dX12_sheet_87 (fun H locs hP hD hS => ?_)
                                                                                              refine lv_iinc (v := 34) (lv' := [(4, .int 34), (0, .ref h0), (1, .int 2), (2, .int (-1)), (3, .int x2)]) hx hb dX12_sheet_88 hl (k := 0) rfl (by decide) (by decide) rfl (fun ls hl => ?_)
                                                                                              refine lv_goto (tgt := 68) hx hb dX12_sheet_91 (by decide) ?_
                                                                                              refine lv_iload hx hb dX12_sheet_68 (lv_at hl 0 rfl) ?_
                                                                                              refine lv_bipush (v := 40) hx hb dX12_sheet_70 (by decide) ?_
                                                                                              refine lv_icmp_ge (tgt := 94) hx hb dX12_sheet_72 (by decide) (fun c2230 => ?_) (fun c2230 => ?_)
                                                                                              · exact absurd c2230 (by decide)
                                                                                              · refine lv_aload_n hx hb dX12_sheet_75 rfl (lv_at hl 1 rfl) ?_
                                                                                                refine va_get (D := D) (ci := 12) (v := .ref h11) (C := RX12) (T := TX12) (N := 24) hx hb hts hin12 hown hK hP 0 rfl rfl 18 (by decide) (hts (.fieldLink RX12 44 "MissedPointsModel" "items" "[I") (by decide +kernel)) (fun _ h9 => h9) rfl dX12_sheet_76 ?_
                                                                                                refine lv_bipush (v := 40) hx hb dX12_sheet_79 (by decide) ?_
                                                                                                refine lv_iload_n hx hb dX12_sheet_81 rfl (lv_at hl 2 rfl) ?_
                                                                                                refine lv_imul hx hb dX12_sheet_82 ?_
                                                                                                refine lz_top (y := 80) (by decide) ?_
                                                                                                refine lv_iload hx hb dX12_sheet_83 (lv_at hl 0 rfl) ?_
                                                                                                refine lv_iadd hx hb dX12_sheet_85 ?_
                                                                                                refine lz_top (y := 114) (by decide) ?_
                                                                                                refine lv_iconst (v := 0) hx hb dX12_sheet_86 (by decide) ?_
                                                                                                refine lz_astc hx hb hK hP hD hS 3 0 rfl rfl (lz_vp (x := 114) (n := 160) (by decide) (by decide)) dX12_sheet_87 (fun H locs hP hD hS => ?_)
                                                                                                refine lv_iinc (v := 35) (lv' := [(4, .int 35), (0, .ref h0), (1, .int 2), (2, .int (-1)), (3, .int x2)]) hx hb dX12_sheet_88 hl (k := 0) rfl (by decide) (by decide) rfl (fun ls hl => ?_)
                                                                                                refine lv_goto (tgt := 68) hx hb dX12_sheet_91 (by decide) ?_
                                                                                                refine lv_iload hx hb dX12_sheet_68 (lv_at hl 0 rfl) ?_
                                                                                                refine lv_bipush (v := 40) hx hb dX12_sheet_70 (by decide) ?_
                                                                                                refine lv_icmp_ge (tgt := 94) hx hb dX12_sheet_72 (by decide) (fun c2231 => ?_) (fun c2231 => ?_)
                                                                                                · exact absurd c2231 (by decide)
                                                                                                · refine lv_aload_n hx hb dX12_sheet_75 rfl (lv_at hl 1 rfl) ?_
                                                                                                  refine va_get (D := D) (ci := 12) (v := .ref h11) (C := RX12) (T := TX12) (N := 24) hx hb hts hin12 hown hK hP 0 rfl rfl 18 (by decide) (hts (.fieldLink RX12 44 "MissedPointsModel" "items" "[I") (by decide +kernel)) (fun _ h9 => h9) rfl dX12_sheet_76 ?_
                                                                                                  refine lv_bipush (v := 40) hx hb dX12_sheet_79 (by decide) ?_
                                                                                                  refine lv_iload_n hx hb dX12_sheet_81 rfl (lv_at hl 2 rfl) ?_
                                                                                                  refine lv_imul hx hb dX12_sheet_82 ?_
                                                                                                  refine lz_top (y := 80) (by decide) ?_
                                                                                                  refine lv_iload hx hb dX12_sheet_83 (lv_at hl 0 rfl) ?_
                                                                                                  refine lv_iadd hx hb dX12_sheet_85 ?_
                                                                                                  refine lz_top (y := 115) (by decide) ?_
                                                                                                  refine lv_iconst (v := 0) hx hb dX12_sheet_86 (by decide) ?_
                                                                                                  refine lz_astc hx hb hK hP hD hS 3 0 rfl rfl (lz_vp (x := 115) (n := 160) (by decide) (by decide)) dX12_sheet_87 (fun H locs hP hD hS => ?_)
                                                                                                  refine lv_iinc (v := 36) (lv' := [(4, .int 36), (0, .ref h0), (1, .int 2), (2, .int (-1)), (3, .int x2)]) hx hb dX12_sheet_88 hl (k := 0) rfl (by decide) (by decide) rfl (fun ls hl => ?_)
                                                                                                  refine lv_goto (tgt := 68) hx hb dX12_sheet_91 (by decide) ?_
                                                                                                  refine lv_iload hx hb dX12_sheet_68 (lv_at hl 0 rfl) ?_
                                                                                                  refine lv_bipush (v := 40) hx hb dX12_sheet_70 (by decide) ?_
                                                                                                  refine lv_icmp_ge (tgt := 94) hx hb dX12_sheet_72 (by decide) (fun c2232 => ?_) (fun c2232 => ?_)
                                                                                                  · exact absurd c2232 (by decide)
                                                                                                  · refine lv_aload_n hx hb dX12_sheet_75 rfl (lv_at hl 1 rfl) ?_
                                                                                                    refine va_get (D := D) (ci := 12) (v := .ref h11) (C := RX12) (T := TX12) (N := 24) hx hb hts hin12 hown hK hP 0 rfl rfl 18 (by decide) (hts (.fieldLink RX12 44 "MissedPointsModel" "items" "[I") (by decide +kernel)) (fun _ h9 => h9) rfl dX12_sheet_76 ?_
                                                                                                    refine lv_bipush (v := 40) hx hb dX12_sheet_79 (by decide) ?_
                                                                                                    refine lv_iload_n hx hb dX12_sheet_81 rfl (lv_at hl 2 rfl) ?_
                                                                                                    refine lv_imul hx hb dX12_sheet_82 ?_
                                                                                                    refine lz_top (y := 80) (by decide) ?_
                                                                                                    refine lv_iload hx hb dX12_sheet_83 (lv_at hl 0 rfl) ?_
                                                                                                    refine lv_iadd hx hb dX12_sheet_85 ?_
                                                                                                    refine lz_top (y := 116) (by decide) ?_
                                                                                                    refine lv_iconst (v := 0) hx hb dX12_sheet_86 (by decide) ?_
                                                                                                    refine lz_astc hx hb hK hP hD hS 3 0 rfl rfl (lz_vp (x := 116) (n := 160) (by decide) (by decide)) dX12_sheet_87 (fun H locs hP hD hS => ?_)
                                                                                                    refine lv_iinc (v := 37) (lv' := [(4, .int 37), (0, .ref h0), (1, .int 2), (2, .int (-1)), (3, .int x2)]) hx hb dX12_sheet_88 hl (k := 0) rfl (by decide) (by decide) rfl (fun ls hl => ?_)
                                                                                                    refine lv_goto (tgt := 68) hx hb dX12_sheet_91 (by decide) ?_
                                                                                                    refine lv_iload hx hb dX12_sheet_68 (lv_at hl 0 rfl) ?_
                                                                                                    refine lv_bipush (v := 40) hx hb dX12_sheet_70 (by decide) ?_
                                                                                                    refine lv_icmp_ge (tgt := 94) hx hb dX12_sheet_72 (by decide) (fun c2233 => ?_) (fun c2233 => ?_)
                                                                                                    · exact absurd c2233 (by decide)
                                                                                                    · refine lv_aload_n hx hb dX12_sheet_75 rfl (lv_at hl 1 rfl) ?_
                                                                                                      refine va_get (D := D) (ci := 12) (v := .ref h11) (C := RX12) (T := TX12) (N := 24) hx hb hts hin12 hown hK hP 0 rfl rfl 18 (by decide) (hts (.fieldLink RX12 44 "MissedPointsModel" "items" "[I") (by decide +kernel)) (fun _ h9 => h9) rfl dX12_sheet_76 ?_
                                                                                                      refine lv_bipush (v := 40) hx hb dX12_sheet_79 (by decide) ?_
                                                                                                      refine lv_iload_n hx hb dX12_sheet_81 rfl (lv_at hl 2 rfl) ?_
                                                                                                      refine lv_imul hx hb dX12_sheet_82 ?_
                                                                                                      refine lz_top (y := 80) (by decide) ?_
                                                                                                      refine lv_iload hx hb dX12_sheet_83 (lv_at hl 0 rfl) ?_
                                                                                                      refine lv_iadd hx hb dX12_sheet_85 ?_
                                                                                                      refine lz_top (y := 117) (by decide) ?_
                                                                                                      refine lv_iconst (v := 0) hx hb dX12_sheet_86 (by decide) ?_
                                                                                                      refine lz_astc hx hb hK hP hD hS 3 0 rfl rfl (lz_vp (x := 117) (n := 160) (by decide) (by decide)) dX12_sheet_87 (fun H locs hP hD hS => ?_)
                                                                                                      refine lv_iinc (v := 38) (lv' := [(4, .int 38), (0, .ref h0), (1, .int 2), (2, .int (-1)), (3, .int x2)]) hx hb dX12_sheet_88 hl (k := 0) rfl (by decide) (by decide) rfl (fun ls hl => ?_)
                                                                                                      refine lv_goto (tgt := 68) hx hb dX12_sheet_91 (by decide) ?_
                                                                                                      refine lv_iload hx hb dX12_sheet_68 (lv_at hl 0 rfl) ?_
                                                                                                      refine lv_bipush (v := 40) hx hb dX12_sheet_70 (by decide) ?_
                                                                                                      refine lv_icmp_ge (tgt := 94) hx hb dX12_sheet_72 (by decide) (fun c2234 => ?_) (fun c2234 => ?_)
                                                                                                      · exact absurd c2234 (by decide)
                                                                                                      · refine lv_aload_n hx hb dX12_sheet_75 rfl (lv_at hl 1 rfl) ?_
                                                                                                        refine va_get (D := D) (ci := 12) (v := .ref h11) (C := RX12) (T := TX12) (N := 24) hx hb hts hin12 hown hK hP 0 rfl rfl 18 (by decide) (hts (.fieldLink RX12 44 "MissedPointsModel" "items" "[I") (by decide +kernel)) (fun _ h9 => h9) rfl dX12_sheet_76 ?_
                                                                                                        refine lv_bipush (v := 40) hx hb dX12_sheet_79 (by decide) ?_
                                                                                                        refine lv_iload_n hx hb dX12_sheet_81 rfl (lv_at hl 2 rfl) ?_
                                                                                                        refine lv_imul hx hb dX12_sheet_82 ?_
                                                                                                        refine lz_top (y := 80) (by decide) ?_
                                                                                                        refine lv_iload hx hb dX12_sheet_83 (lv_at hl 0 rfl) ?_
                                                                                                        refine lv_iadd hx hb dX12_sheet_85 ?_
                                                                                                        refine lz_top (y := 118) (by decide) ?_
                                                                                                        refine lv_iconst (v := 0) hx hb dX12_sheet_86 (by decide) ?_
                                                                                                        refine lz_astc hx hb hK hP hD hS 3 0 rfl rfl (lz_vp (x := 118) (n := 160) (by decide) (by decide)) dX12_sheet_87 (fun H locs hP hD hS => ?_)
                                                                                                        refine lv_iinc (v := 39) (lv' := [(4, .int 39), (0, .ref h0), (1, .int 2), (2, .int (-1)), (3, .int x2)]) hx hb dX12_sheet_88 hl (k := 0) rfl (by decide) (by decide) rfl (fun ls hl => ?_)
                                                                                                        refine lv_goto (tgt := 68) hx hb dX12_sheet_91 (by decide) ?_
                                                                                                        refine lv_iload hx hb dX12_sheet_68 (lv_at hl 0 rfl) ?_
                                                                                                        refine lv_bipush (v := 40) hx hb dX12_sheet_70 (by decide) ?_
                                                                                                        refine lv_icmp_ge (tgt := 94) hx hb dX12_sheet_72 (by decide) (fun c2235 => ?_) (fun c2235 => ?_)
                                                                                                        · exact absurd c2235 (by decide)
                                                                                                        · refine lv_aload_n hx hb dX12_sheet_75 rfl (lv_at hl 1 rfl) ?_
                                                                                                          refine va_get (D := D) (ci := 12) (v := .ref h11) (C := RX12) (T := TX12) (N := 24) hx hb hts hin12 hown hK hP 0 rfl rfl 18 (by decide) (hts (.fieldLink RX12 44 "MissedPointsModel" "items" "[I") (by decide +kernel)) (fun _ h9 => h9) rfl dX12_sheet_76 ?_
                                                                                                          refine lv_bipush (v := 40) hx hb dX12_sheet_79 (by decide) ?_
                                                                                                          refine lv_iload_n hx hb dX12_sheet_81 rfl (lv_at hl 2 rfl) ?_
                                                                                                          refine lv_imul hx hb dX12_sheet_82 ?_
                                                                                                          refine lz_top (y := 80) (by decide) ?_
                                                                                                          refine lv_iload hx hb dX12_sheet_83 (lv_at hl 0 rfl) ?_
                                                                                                          refine lv_iadd hx hb dX12_sheet_85 ?_
                                                                                                          refine lz_top (y := 119) (by decide) ?_
                                                                                                          refine lv_iconst (v := 0) hx hb dX12_sheet_86 (by decide) ?_
                                                                                                          refine lz_astc hx hb hK hP hD hS 3 0 rfl rfl (lz_vp (x := 119) (n := 160) (by decide) (by decide)) dX12_sheet_87 (fun H locs hP hD hS => ?_)
                                                                                                          refine lv_iinc (v := 40) (lv' := [(4, .int 40), (0, .ref h0), (1, .int 2), (2, .int (-1)), (3, .int x2)]) hx hb dX12_sheet_88 hl (k := 0) rfl (by decide) (by decide) rfl (fun ls hl => ?_)
                                                                                                          refine lv_goto (tgt := 68) hx hb dX12_sheet_91 (by decide) ?_
                                                                                                          refine lv_iload hx hb dX12_sheet_68 (lv_at hl 0 rfl) ?_
                                                                                                          refine lv_bipush (v := 40) hx hb dX12_sheet_70 (by decide) ?_
                                                                                                          refine lv_icmp_ge (tgt := 94) hx hb dX12_sheet_72 (by decide) (fun c2236 => ?_) (fun c2236 => ?_)
                                                                                                          · refine lv_iconst (v := 1) hx hb dX12_sheet_94 (by decide) ?_
                                                                                                            have hP9 := hP.sub (ws' := []) [] rfl
                                                                                                            have hD9 := hD.sub (ws' := []) [] (by decide) rfl
                                                                                                            subst hAe
                                                                                                            exact W.iret (v := 1) hx hb hr (fun t ht hW => ⟨⟨_, (), rfl, by rw [if_neg k2095, if_neg k2097, if_neg k2101, if_neg k2103, if_pos rfl], by rw [ht]; exact hP9, hD9⟩, hS.F ht⟩) hS.2.2 dX12_sheet_95
                                                                                                          · exact absurd c2236 (by decide)
                      · obtain rfl : x0 = 3 := by have zf1 := mt (lz_lt x0 (0 : Int32)).mpr k2095; have zf2 := mt (lz_lt (3 : Int32) x0).mpr k2097; have zf3 := mt (lz_lt ((-1) : Int32) ((-1) : Int32)).mpr k2101; have zf4 := mt (lz_lt (1 : Int32) ((-1) : Int32)).mpr k2103; have zf5 := mt (lz_eq x0 (0 : Int32)).mpr k2108; have zf6 := mt (lz_eq x0 (1 : Int32)).mpr k2151; have zf7 := mt (lz_eq x0 (2 : Int32)).mpr k2194; have zn0 : ((-1) : Int32).toInt = -1 := (by decide); have zn1 : (0 : Int32).toInt = 0 := (by decide); have zn2 : (1 : Int32).toInt = 1 := (by decide); have zn3 : (2 : Int32).toInt = 2 := (by decide); have zn4 : (3 : Int32).toInt = 3 := (by decide); rw [lz_eq]; omega
                        refine lv_aload_n hx hb dX12_sheet_42 rfl (lv_at hl 0 rfl) ?_
                        refine va_get (D := D) (ci := 12) (v := .ref h9) (C := RX12) (T := TX12) (N := 24) hx hb hts hin12 hown hK hP 0 rfl rfl 16 (by decide) (hts (.fieldLink RX12 38 "MissedPointsModel" "sort" "[I") (by decide +kernel)) (fun _ h9 => h9) rfl dX12_sheet_43 ?_
                        refine lv_iload_n hx hb dX12_sheet_46 rfl (lv_at hl 1 rfl) ?_
                        refine lv_iload_n hx hb dX12_sheet_47 rfl (lv_at hl 2 rfl) ?_
                        refine lz_astc hx hb hK hP hD hS 1 0 rfl rfl (lz_vp (x := 3) (n := 4) (by decide) (by decide)) dX12_sheet_48 (fun H locs hP hD hS => ?_)
                        refine lv_aload_n hx hb dX12_sheet_49 rfl (lv_at hl 0 rfl) ?_
                        refine va_get (D := D) (ci := 12) (v := .ref h10) (C := RX12) (T := TX12) (N := 24) hx hb hts hin12 hown hK hP 0 rfl rfl 17 (by decide) (hts (.fieldLink RX12 41 "MissedPointsModel" "size" "[I") (by decide +kernel)) (fun _ h9 => h9) rfl dX12_sheet_50 ?_
                        refine lv_iload_n hx hb dX12_sheet_53 rfl (lv_at hl 1 rfl) ?_
                        refine lv_iload_n hx hb dX12_sheet_54 rfl (lv_at hl 2 rfl) ?_
                        refine lv_iconst (v := (-1)) hx hb dX12_sheet_55 (by decide) ?_
                        refine lv_icmp_ne (tgt := 63) hx hb dX12_sheet_56 (by decide) (fun c2237 => ?_) (fun c2237 => ?_)
                        · exact absurd c2237 (by decide)
                        · refine lv_iconst (v := 0) hx hb dX12_sheet_59 (by decide) ?_
                          refine lv_goto (tgt := 64) hx hb dX12_sheet_60 (by decide) ?_
                          refine lz_astc hx hb hK hP hD hS 2 0 rfl rfl (lz_vp (x := 3) (n := 4) (by decide) (by decide)) dX12_sheet_64 (fun H locs hP hD hS => ?_)
                          refine lv_iconst (v := 0) hx hb dX12_sheet_65 (by decide) ?_
                          refine lv_istore (lv' := [(4, .int 0), (0, .ref h0), (1, .int 3), (2, .int (-1)), (3, .int x2)]) hx hb dX12_sheet_66 hl (by decide) rfl (fun ls hl => ?_)
                          refine lv_iload hx hb dX12_sheet_68 (lv_at hl 0 rfl) ?_
                          refine lv_bipush (v := 40) hx hb dX12_sheet_70 (by decide) ?_
                          refine lv_icmp_ge (tgt := 94) hx hb dX12_sheet_72 (by decide) (fun c2238 => ?_) (fun c2238 => ?_)
                          · exact absurd c2238 (by decide)
                          · refine lv_aload_n hx hb dX12_sheet_75 rfl (lv_at hl 1 rfl) ?_
                            refine va_get (D := D) (ci := 12) (v := .ref h11) (C := RX12) (T := TX12) (N := 24) hx hb hts hin12 hown hK hP 0 rfl rfl 18 (by decide) (hts (.fieldLink RX12 44 "MissedPointsModel" "items" "[I") (by decide +kernel)) (fun _ h9 => h9) rfl dX12_sheet_76 ?_
                            refine lv_bipush (v := 40) hx hb dX12_sheet_79 (by decide) ?_
                            refine lv_iload_n hx hb dX12_sheet_81 rfl (lv_at hl 2 rfl) ?_
                            refine lv_imul hx hb dX12_sheet_82 ?_
                            refine lz_top (y := 120) (by decide) ?_
                            refine lv_iload hx hb dX12_sheet_83 (lv_at hl 0 rfl) ?_
                            refine lv_iadd hx hb dX12_sheet_85 ?_
                            refine lz_top (y := 120) (by decide) ?_
                            refine lv_iconst (v := 0) hx hb dX12_sheet_86 (by decide) ?_
                            refine lz_astc hx hb hK hP hD hS 3 0 rfl rfl (lz_vp (x := 120) (n := 160) (by decide) (by decide)) dX12_sheet_87 (fun H locs hP hD hS => ?_)
                            refine lv_iinc (v := 1) (lv' := [(4, .int 1), (0, .ref h0), (1, .int 3), (2, .int (-1)), (3, .int x2)]) hx hb dX12_sheet_88 hl (k := 0) rfl (by decide) (by decide) rfl (fun ls hl => ?_)
                            refine lv_goto (tgt := 68) hx hb dX12_sheet_91 (by decide) ?_
                            refine lv_iload hx hb dX12_sheet_68 (lv_at hl 0 rfl) ?_
                            refine lv_bipush (v := 40) hx hb dX12_sheet_70 (by decide) ?_
                            refine lv_icmp_ge (tgt := 94) hx hb dX12_sheet_72 (by decide) (fun c2239 => ?_) (fun c2239 => ?_)
                            · exact absurd c2239 (by decide)
                            · refine lv_aload_n hx hb dX12_sheet_75 rfl (lv_at hl 1 rfl) ?_
                              refine va_get (D := D) (ci := 12) (v := .ref h11) (C := RX12) (T := TX12) (N := 24) hx hb hts hin12 hown hK hP 0 rfl rfl 18 (by decide) (hts (.fieldLink RX12 44 "MissedPointsModel" "items" "[I") (by decide +kernel)) (fun _ h9 => h9) rfl dX12_sheet_76 ?_
                              refine lv_bipush (v := 40) hx hb dX12_sheet_79 (by decide) ?_
                              refine lv_iload_n hx hb dX12_sheet_81 rfl (lv_at hl 2 rfl) ?_
                              refine lv_imul hx hb dX12_sheet_82 ?_
                              refine lz_top (y := 120) (by decide) ?_
                              refine lv_iload hx hb dX12_sheet_83 (lv_at hl 0 rfl) ?_
                              refine lv_iadd hx hb dX12_sheet_85 ?_
                              refine lz_top (y := 121) (by decide) ?_
                              refine lv_iconst (v := 0) hx hb dX12_sheet_86 (by decide) ?_
                              refine lz_astc hx hb hK hP hD hS 3 0 rfl rfl (lz_vp (x := 121) (n := 160) (by decide) (by decide)) dX12_sheet_87 (fun H locs hP hD hS => ?_)
                              refine lv_iinc (v := 2) (lv' := [(4, .int 2), (0, .ref h0), (1, .int 3), (2, .int (-1)), (3, .int x2)]) hx hb dX12_sheet_88 hl (k := 0) rfl (by decide) (by decide) rfl (fun ls hl => ?_)
                              refine lv_goto (tgt := 68) hx hb dX12_sheet_91 (by decide) ?_
                              refine lv_iload hx hb dX12_sheet_68 (lv_at hl 0 rfl) ?_
                              refine lv_bipush (v := 40) hx hb dX12_sheet_70 (by decide) ?_
                              refine lv_icmp_ge (tgt := 94) hx hb dX12_sheet_72 (by decide) (fun c2240 => ?_) (fun c2240 => ?_)
                              · exact absurd c2240 (by decide)
                              · refine lv_aload_n hx hb dX12_sheet_75 rfl (lv_at hl 1 rfl) ?_
                                refine va_get (D := D) (ci := 12) (v := .ref h11) (C := RX12) (T := TX12) (N := 24) hx hb hts hin12 hown hK hP 0 rfl rfl 18 (by decide) (hts (.fieldLink RX12 44 "MissedPointsModel" "items" "[I") (by decide +kernel)) (fun _ h9 => h9) rfl dX12_sheet_76 ?_
                                refine lv_bipush (v := 40) hx hb dX12_sheet_79 (by decide) ?_
                                refine lv_iload_n hx hb dX12_sheet_81 rfl (lv_at hl 2 rfl) ?_
                                refine lv_imul hx hb dX12_sheet_82 ?_
                                refine lz_top (y := 120) (by decide) ?_
                                refine lv_iload hx hb dX12_sheet_83 (lv_at hl 0 rfl) ?_
                                refine lv_iadd hx hb dX12_sheet_85 ?_
                                refine lz_top (y := 122) (by decide) ?_
                                refine lv_iconst (v := 0) hx hb dX12_sheet_86 (by decide) ?_
                                refine lz_astc hx hb hK hP hD hS 3 0 rfl rfl (lz_vp (x := 122) (n := 160) (by decide) (by decide)) dX12_sheet_87 (fun H locs hP hD hS => ?_)
                                refine lv_iinc (v := 3) (lv' := [(4, .int 3), (0, .ref h0), (1, .int 3), (2, .int (-1)), (3, .int x2)]) hx hb dX12_sheet_88 hl (k := 0) rfl (by decide) (by decide) rfl (fun ls hl => ?_)
                                refine lv_goto (tgt := 68) hx hb dX12_sheet_91 (by decide) ?_
                                refine lv_iload hx hb dX12_sheet_68 (lv_at hl 0 rfl) ?_
                                refine lv_bipush (v := 40) hx hb dX12_sheet_70 (by decide) ?_
                                refine lv_icmp_ge (tgt := 94) hx hb dX12_sheet_72 (by decide) (fun c2241 => ?_) (fun c2241 => ?_)
                                · exact absurd c2241 (by decide)
                                · refine lv_aload_n hx hb dX12_sheet_75 rfl (lv_at hl 1 rfl) ?_
                                  refine va_get (D := D) (ci := 12) (v := .ref h11) (C := RX12) (T := TX12) (N := 24) hx hb hts hin12 hown hK hP 0 rfl rfl 18 (by decide) (hts (.fieldLink RX12 44 "MissedPointsModel" "items" "[I") (by decide +kernel)) (fun _ h9 => h9) rfl dX12_sheet_76 ?_
                                  refine lv_bipush (v := 40) hx hb dX12_sheet_79 (by decide) ?_
                                  refine lv_iload_n hx hb dX12_sheet_81 rfl (lv_at hl 2 rfl) ?_
                                  refine lv_imul hx hb dX12_sheet_82 ?_
                                  refine lz_top (y := 120) (by decide) ?_
                                  refine lv_iload hx hb dX12_sheet_83 (lv_at hl 0 rfl) ?_
                                  refine lv_iadd hx hb dX12_sheet_85 ?_
                                  refine lz_top (y := 123) (by decide) ?_
                                  refine lv_iconst (v := 0) hx hb dX12_sheet_86 (by decide) ?_
                                  refine lz_astc hx hb hK hP hD hS 3 0 rfl rfl (lz_vp (x := 123) (n := 160) (by decide) (by decide)) dX12_sheet_87 (fun H locs hP hD hS => ?_)
                                  refine lv_iinc (v := 4) (lv' := [(4, .int 4), (0, .ref h0), (1, .int 3), (2, .int (-1)), (3, .int x2)]) hx hb dX12_sheet_88 hl (k := 0) rfl (by decide) (by decide) rfl (fun ls hl => ?_)
                                  refine lv_goto (tgt := 68) hx hb dX12_sheet_91 (by decide) ?_
                                  refine lv_iload hx hb dX12_sheet_68 (lv_at hl 0 rfl) ?_
                                  refine lv_bipush (v := 40) hx hb dX12_sheet_70 (by decide) ?_
                                  refine lv_icmp_ge (tgt := 94) hx hb dX12_sheet_72 (by decide) (fun c2242 => ?_) (fun c2242 => ?_)
                                  · exact absurd c2242 (by decide)
                                  · refine lv_aload_n hx hb dX12_sheet_75 rfl (lv_at hl 1 rfl) ?_
                                    refine va_get (D := D) (ci := 12) (v := .ref h11) (C := RX12) (T := TX12) (N := 24) hx hb hts hin12 hown hK hP 0 rfl rfl 18 (by decide) (hts (.fieldLink RX12 44 "MissedPointsModel" "items" "[I") (by decide +kernel)) (fun _ h9 => h9) rfl dX12_sheet_76 ?_
                                    refine lv_bipush (v := 40) hx hb dX12_sheet_79 (by decide) ?_
                                    refine lv_iload_n hx hb dX12_sheet_81 rfl (lv_at hl 2 rfl) ?_
                                    refine lv_imul hx hb dX12_sheet_82 ?_
                                    refine lz_top (y := 120) (by decide) ?_
                                    refine lv_iload hx hb dX12_sheet_83 (lv_at hl 0 rfl) ?_
                                    refine lv_iadd hx hb dX12_sheet_85 ?_
                                    refine lz_top (y := 124) (by decide) ?_
                                    refine lv_iconst (v := 0) hx hb dX12_sheet_86 (by decide) ?_
                                    refine lz_astc hx hb hK hP hD hS 3 0 rfl rfl (lz_vp (x := 124) (n := 160) (by decide) (by decide)) dX12_sheet_87 (fun H locs hP hD hS => ?_)
                                    refine lv_iinc (v := 5) (lv' := [(4, .int 5), (0, .ref h0), (1, .int 3), (2, .int (-1)), (3, .int x2)]) hx hb dX12_sheet_88 hl (k := 0) rfl (by decide) (by decide) rfl (fun ls hl => ?_)
                                    refine lv_goto (tgt := 68) hx hb dX12_sheet_91 (by decide) ?_
                                    refine lv_iload hx hb dX12_sheet_68 (lv_at hl 0 rfl) ?_
                                    refine lv_bipush (v := 40) hx hb dX12_sheet_70 (by decide) ?_
                                    refine lv_icmp_ge (tgt := 94) hx hb dX12_sheet_72 (by decide) (fun c2243 => ?_) (fun c2243 => ?_)
                                    · exact absurd c2243 (by decide)
                                    · refine lv_aload_n hx hb dX12_sheet_75 rfl (lv_at hl 1 rfl) ?_
                                      refine va_get (D := D) (ci := 12) (v := .ref h11) (C := RX12) (T := TX12) (N := 24) hx hb hts hin12 hown hK hP 0 rfl rfl 18 (by decide) (hts (.fieldLink RX12 44 "MissedPointsModel" "items" "[I") (by decide +kernel)) (fun _ h9 => h9) rfl dX12_sheet_76 ?_
                                      refine lv_bipush (v := 40) hx hb dX12_sheet_79 (by decide) ?_
                                      refine lv_iload_n hx hb dX12_sheet_81 rfl (lv_at hl 2 rfl) ?_
                                      refine lv_imul hx hb dX12_sheet_82 ?_
                                      refine lz_top (y := 120) (by decide) ?_
                                      refine lv_iload hx hb dX12_sheet_83 (lv_at hl 0 rfl) ?_
                                      refine lv_iadd hx hb dX12_sheet_85 ?_
                                      refine lz_top (y := 125) (by decide) ?_
                                      refine lv_iconst (v := 0) hx hb dX12_sheet_86 (by decide) ?_
                                      refine lz_astc hx hb hK hP hD hS 3 0 rfl rfl (lz_vp (x := 125) (n := 160) (by decide) (by decide)) dX12_sheet_87 (fun H locs hP hD hS => ?_)
                                      refine lv_iinc (v := 6) (lv' := [(4, .int 6), (0, .ref h0), (1, .int 3), (2, .int (-1)), (3, .int x2)]) hx hb dX12_sheet_88 hl (k := 0) rfl (by decide) (by decide) rfl (fun ls hl => ?_)
                                      refine lv_goto (tgt := 68) hx hb dX12_sheet_91 (by decide) ?_
                                      refine lv_iload hx hb dX12_sheet_68 (lv_at hl 0 rfl) ?_
                                      refine lv_bipush (v := 40) hx hb dX12_sheet_70 (by decide) ?_
                                      refine lv_icmp_ge (tgt := 94) hx hb dX12_sheet_72 (by decide) (fun c2244 => ?_) (fun c2244 => ?_)
                                      · exact absurd c2244 (by decide)
                                      · refine lv_aload_n hx hb dX12_sheet_75 rfl (lv_at hl 1 rfl) ?_
                                        refine va_get (D := D) (ci := 12) (v := .ref h11) (C := RX12) (T := TX12) (N := 24) hx hb hts hin12 hown hK hP 0 rfl rfl 18 (by decide) (hts (.fieldLink RX12 44 "MissedPointsModel" "items" "[I") (by decide +kernel)) (fun _ h9 => h9) rfl dX12_sheet_76 ?_
                                        refine lv_bipush (v := 40) hx hb dX12_sheet_79 (by decide) ?_
                                        refine lv_iload_n hx hb dX12_sheet_81 rfl (lv_at hl 2 rfl) ?_
                                        refine lv_imul hx hb dX12_sheet_82 ?_
                                        refine lz_top (y := 120) (by decide) ?_
                                        refine lv_iload hx hb dX12_sheet_83 (lv_at hl 0 rfl) ?_
                                        refine lv_iadd hx hb dX12_sheet_85 ?_
                                        refine lz_top (y := 126) (by decide) ?_
                                        refine lv_iconst (v := 0) hx hb dX12_sheet_86 (by decide) ?_
                                        refine lz_astc hx hb hK hP hD hS 3 0 rfl rfl (lz_vp (x := 126) (n := 160) (by decide) (by decide)) dX12_sheet_87 (fun H locs hP hD hS => ?_)
                                        refine lv_iinc (v := 7) (lv' := [(4, .int 7), (0, .ref h0), (1, .int 3), (2, .int (-1)), (3, .int x2)]) hx hb dX12_sheet_88 hl (k := 0) rfl (by decide) (by decide) rfl (fun ls hl => ?_)
                                        refine lv_goto (tgt := 68) hx hb dX12_sheet_91 (by decide) ?_
                                        refine lv_iload hx hb dX12_sheet_68 (lv_at hl 0 rfl) ?_
                                        refine lv_bipush (v := 40) hx hb dX12_sheet_70 (by decide) ?_
                                        refine lv_icmp_ge (tgt := 94) hx hb dX12_sheet_72 (by decide) (fun c2245 => ?_) (fun c2245 => ?_)
                                        · exact absurd c2245 (by decide)
                                        · refine lv_aload_n hx hb dX12_sheet_75 rfl (lv_at hl 1 rfl) ?_
                                          refine va_get (D := D) (ci := 12) (v := .ref h11) (C := RX12) (T := TX12) (N := 24) hx hb hts hin12 hown hK hP 0 rfl rfl 18 (by decide) (hts (.fieldLink RX12 44 "MissedPointsModel" "items" "[I") (by decide +kernel)) (fun _ h9 => h9) rfl dX12_sheet_76 ?_
                                          refine lv_bipush (v := 40) hx hb dX12_sheet_79 (by decide) ?_
                                          refine lv_iload_n hx hb dX12_sheet_81 rfl (lv_at hl 2 rfl) ?_
                                          refine lv_imul hx hb dX12_sheet_82 ?_
                                          refine lz_top (y := 120) (by decide) ?_
                                          refine lv_iload hx hb dX12_sheet_83 (lv_at hl 0 rfl) ?_
                                          refine lv_iadd hx hb dX12_sheet_85 ?_
                                          refine lz_top (y := 127) (by decide) ?_
                                          refine lv_iconst (v := 0) hx hb dX12_sheet_86 (by decide) ?_
                                          refine lz_astc hx hb hK hP hD hS 3 0 rfl rfl (lz_vp (x := 127) (n := 160) (by decide) (by decide)) dX12_sheet_87 (fun H locs hP hD hS => ?_)
                                          refine lv_iinc (v := 8) (lv' := [(4, .int 8), (0, .ref h0), (1, .int 3), (2, .int (-1)), (3, .int x2)]) hx hb dX12_sheet_88 hl (k := 0) rfl (by decide) (by decide) rfl (fun ls hl => ?_)
                                          refine lv_goto (tgt := 68) hx hb dX12_sheet_91 (by decide) ?_
                                          refine lv_iload hx hb dX12_sheet_68 (lv_at hl 0 rfl) ?_
                                          refine lv_bipush (v := 40) hx hb dX12_sheet_70 (by decide) ?_
                                          refine lv_icmp_ge (tgt := 94) hx hb dX12_sheet_72 (by decide) (fun c2246 => ?_) (fun c2246 => ?_)
                                          · exact absurd c2246 (by decide)
                                          · refine lv_aload_n hx hb dX12_sheet_75 rfl (lv_at hl 1 rfl) ?_
                                            refine va_get (D := D) (ci := 12) (v := .ref h11) (C := RX12) (T := TX12) (N := 24) hx hb hts hin12 hown hK hP 0 rfl rfl 18 (by decide) (hts (.fieldLink RX12 44 "MissedPointsModel" "items" "[I") (by decide +kernel)) (fun _ h9 => h9) rfl dX12_sheet_76 ?_
                                            refine lv_bipush (v := 40) hx hb dX12_sheet_79 (by decide) ?_
                                            refine lv_iload_n hx hb dX12_sheet_81 rfl (lv_at hl 2 rfl) ?_
                                            refine lv_imul hx hb dX12_sheet_82 ?_
                                            refine lz_top (y := 120) (by decide) ?_
                                            refine lv_iload hx hb dX12_sheet_83 (lv_at hl 0 rfl) ?_
                                            refine lv_iadd hx hb dX12_sheet_85 ?_
                                            refine lz_top (y := 128) (by decide) ?_
                                            refine lv_iconst (v := 0) hx hb dX12_sheet_86 (by decide) ?_
                                            refine lz_astc hx hb hK hP hD hS 3 0 rfl rfl (lz_vp (x := 128) (n := 160) (by decide) (by decide)) dX12_sheet_87 (fun H locs hP hD hS => ?_)
                                            refine lv_iinc (v := 9) (lv' := [(4, .int 9), (0, .ref h0), (1, .int 3), (2, .int (-1)), (3, .int x2)]) hx hb dX12_sheet_88 hl (k := 0) rfl (by decide) (by decide) rfl (fun ls hl => ?_)
                                            refine lv_goto (tgt := 68) hx hb dX12_sheet_91 (by decide) ?_
                                            refine lv_iload hx hb dX12_sheet_68 (lv_at hl 0 rfl) ?_
                                            refine lv_bipush (v := 40) hx hb dX12_sheet_70 (by decide) ?_
                                            refine lv_icmp_ge (tgt := 94) hx hb dX12_sheet_72 (by decide) (fun c2247 => ?_) (fun c2247 => ?_)
                                            · exact absurd c2247 (by decide)
                                            · refine lv_aload_n hx hb dX12_sheet_75 rfl (lv_at hl 1 rfl) ?_
                                              refine va_get (D := D) (ci := 12) (v := .ref h11) (C := RX12) (T := TX12) (N := 24) hx hb hts hin12 hown hK hP 0 rfl rfl 18 (by decide) (hts (.fieldLink RX12 44 "MissedPointsModel" "items" "[I") (by decide +kernel)) (fun _ h9 => h9) rfl dX12_sheet_76 ?_
                                              refine lv_bipush (v := 40) hx hb dX12_sheet_79 (by decide) ?_
                                              refine lv_iload_n hx hb dX12_sheet_81 rfl (lv_at hl 2 rfl) ?_
                                              refine lv_imul hx hb dX12_sheet_82 ?_
                                              refine lz_top (y := 120) (by decide) ?_
                                              refine lv_iload hx hb dX12_sheet_83 (lv_at hl 0 rfl) ?_
                                              refine lv_iadd hx hb dX12_sheet_85 ?_
                                              refine lz_top (y := 129) (by decide) ?_
                                              refine lv_iconst (v := 0) hx hb dX12_sheet_86 (by decide) ?_
                                              refine lz_astc hx hb hK hP hD hS 3 0 rfl rfl (lz_vp (x := 129) (n := 160) (by decide) (by decide)) dX12_sheet_87 (fun H locs hP hD hS => ?_)
                                              refine lv_iinc (v := 10) (lv' := [(4, .int 10), (0, .ref h0), (1, .int 3), (2, .int (-1)), (3, .int x2)]) hx hb dX12_sheet_88 hl (k := 0) rfl (by decide) (by decide) rfl (fun ls hl => ?_)
                                              refine lv_goto (tgt := 68) hx hb dX12_sheet_91 (by decide) ?_
                                              refine lv_iload hx hb dX12_sheet_68 (lv_at hl 0 rfl) ?_
                                              refine lv_bipush (v := 40) hx hb dX12_sheet_70 (by decide) ?_
                                              refine lv_icmp_ge (tgt := 94) hx hb dX12_sheet_72 (by decide) (fun c2248 => ?_) (fun c2248 => ?_)
                                              · exact absurd c2248 (by decide)
                                              · refine lv_aload_n hx hb dX12_sheet_75 rfl (lv_at hl 1 rfl) ?_
                                                refine va_get (D := D) (ci := 12) (v := .ref h11) (C := RX12) (T := TX12) (N := 24) hx hb hts hin12 hown hK hP 0 rfl rfl 18 (by decide) (hts (.fieldLink RX12 44 "MissedPointsModel" "items" "[I") (by decide +kernel)) (fun _ h9 => h9) rfl dX12_sheet_76 ?_
                                                refine lv_bipush (v := 40) hx hb dX12_sheet_79 (by decide) ?_
                                                refine lv_iload_n hx hb dX12_sheet_81 rfl (lv_at hl 2 rfl) ?_
                                                refine lv_imul hx hb dX12_sheet_82 ?_
                                                refine lz_top (y := 120) (by decide) ?_
                                                refine lv_iload hx hb dX12_sheet_83 (lv_at hl 0 rfl) ?_
                                                refine lv_iadd hx hb dX12_sheet_85 ?_
                                                refine lz_top (y := 130) (by decide) ?_
                                                refine lv_iconst (v := 0) hx hb dX12_sheet_86 (by decide) ?_
                                                refine lz_astc hx hb hK hP hD hS 3 0 rfl rfl (lz_vp (x := 130) (n := 160) (by decide) (by decide)) dX12_sheet_87 (fun H locs hP hD hS => ?_)
                                                refine lv_iinc (v := 11) (lv' := [(4, .int 11), (0, .ref h0), (1, .int 3), (2, .int (-1)), (3, .int x2)]) hx hb dX12_sheet_88 hl (k := 0) rfl (by decide) (by decide) rfl (fun ls hl => ?_)
                                                refine lv_goto (tgt := 68) hx hb dX12_sheet_91 (by decide) ?_
                                                refine lv_iload hx hb dX12_sheet_68 (lv_at hl 0 rfl) ?_
                                                refine lv_bipush (v := 40) hx hb dX12_sheet_70 (by decide) ?_
                                                refine lv_icmp_ge (tgt := 94) hx hb dX12_sheet_72 (by decide) (fun c2249 => ?_) (fun c2249 => ?_)
                                                · exact absurd c2249 (by decide)
                                                · refine lv_aload_n hx hb dX12_sheet_75 rfl (lv_at hl 1 rfl) ?_
                                                  refine va_get (D := D) (ci := 12) (v := .ref h11) (C := RX12) (T := TX12) (N := 24) hx hb hts hin12 hown hK hP 0 rfl rfl 18 (by decide) (hts (.fieldLink RX12 44 "MissedPointsModel" "items" "[I") (by decide +kernel)) (fun _ h9 => h9) rfl dX12_sheet_76 ?_
                                                  refine lv_bipush (v := 40) hx hb dX12_sheet_79 (by decide) ?_
                                                  refine lv_iload_n hx hb dX12_sheet_81 rfl (lv_at hl 2 rfl) ?_
                                                  refine lv_imul hx hb dX12_sheet_82 ?_
                                                  refine lz_top (y := 120) (by decide) ?_
                                                  refine lv_iload hx hb dX12_sheet_83 (lv_at hl 0 rfl) ?_
                                                  refine lv_iadd hx hb dX12_sheet_85 ?_
                                                  refine lz_top (y := 131) (by decide) ?_
                                                  refine lv_iconst (v := 0) hx hb dX12_sheet_86 (by decide) ?_
                                                  refine lz_astc hx hb hK hP hD hS 3 0 rfl rfl (lz_vp (x := 131) (n := 160) (by decide) (by decide)) dX12_sheet_87 (fun H locs hP hD hS => ?_)
                                                  refine lv_iinc (v := 12) (lv' := [(4, .int 12), (0, .ref h0), (1, .int 3), (2, .int (-1)), (3, .int x2)]) hx hb dX12_sheet_88 hl (k := 0) rfl (by decide) (by decide) rfl (fun ls hl => ?_)
                                                  refine lv_goto (tgt := 68) hx hb dX12_sheet_91 (by decide) ?_
                                                  refine lv_iload hx hb dX12_sheet_68 (lv_at hl 0 rfl) ?_
                                                  refine lv_bipush (v := 40) hx hb dX12_sheet_70 (by decide) ?_
                                                  refine lv_icmp_ge (tgt := 94) hx hb dX12_sheet_72 (by decide) (fun c2250 => ?_) (fun c2250 => ?_)
                                                  · exact absurd c2250 (by decide)
                                                  · refine lv_aload_n hx hb dX12_sheet_75 rfl (lv_at hl 1 rfl) ?_
                                                    refine va_get (D := D) (ci := 12) (v := .ref h11) (C := RX12) (T := TX12) (N := 24) hx hb hts hin12 hown hK hP 0 rfl rfl 18 (by decide) (hts (.fieldLink RX12 44 "MissedPointsModel" "items" "[I") (by decide +kernel)) (fun _ h9 => h9) rfl dX12_sheet_76 ?_
                                                    refine lv_bipush (v := 40) hx hb dX12_sheet_79 (by decide) ?_
                                                    refine lv_iload_n hx hb dX12_sheet_81 rfl (lv_at hl 2 rfl) ?_
                                                    refine lv_imul hx hb dX12_sheet_82 ?_
                                                    refine lz_top (y := 120) (by decide) ?_
                                                    refine lv_iload hx hb dX12_sheet_83 (lv_at hl 0 rfl) ?_
                                                    refine lv_iadd hx hb dX12_sheet_85 ?_
                                                    refine lz_top (y := 132) (by decide) ?_
                                                    refine lv_iconst (v := 0) hx hb dX12_sheet_86 (by decide) ?_
                                                    refine lz_astc hx hb hK hP hD hS 3 0 rfl rfl (lz_vp (x := 132) (n := 160) (by decide) (by decide)) dX12_sheet_87 (fun H locs hP hD hS => ?_)
                                                    refine lv_iinc (v := 13) (lv' := [(4, .int 13), (0, .ref h0), (1, .int 3), (2, .int (-1)), (3, .int x2)]) hx hb dX12_sheet_88 hl (k := 0) rfl (by decide) (by decide) rfl (fun ls hl => ?_)
                                                    refine lv_goto (tgt := 68) hx hb dX12_sheet_91 (by decide) ?_
                                                    refine lv_iload hx hb dX12_sheet_68 (lv_at hl 0 rfl) ?_
                                                    refine lv_bipush (v := 40) hx hb dX12_sheet_70 (by decide) ?_
                                                    refine lv_icmp_ge (tgt := 94) hx hb dX12_sheet_72 (by decide) (fun c2251 => ?_) (fun c2251 => ?_)
                                                    · exact absurd c2251 (by decide)
                                                    · refine lv_aload_n hx hb dX12_sheet_75 rfl (lv_at hl 1 rfl) ?_
                                                      refine va_get (D := D) (ci := 12) (v := .ref h11) (C := RX12) (T := TX12) (N := 24) hx hb hts hin12 hown hK hP 0 rfl rfl 18 (by decide) (hts (.fieldLink RX12 44 "MissedPointsModel" "items" "[I") (by decide +kernel)) (fun _ h9 => h9) rfl dX12_sheet_76 ?_
                                                      refine lv_bipush (v := 40) hx hb dX12_sheet_79 (by decide) ?_
                                                      refine lv_iload_n hx hb dX12_sheet_81 rfl (lv_at hl 2 rfl) ?_
                                                      refine lv_imul hx hb dX12_sheet_82 ?_
                                                      refine lz_top (y := 120) (by decide) ?_
                                                      refine lv_iload hx hb dX12_sheet_83 (lv_at hl 0 rfl) ?_
                                                      refine lv_iadd hx hb dX12_sheet_85 ?_
                                                      refine lz_top (y := 133) (by decide) ?_
                                                      refine lv_iconst (v := 0) hx hb dX12_sheet_86 (by decide) ?_
                                                      refine lz_astc hx hb hK hP hD hS 3 0 rfl rfl (lz_vp (x := 133) (n := 160) (by decide) (by decide)) dX12_sheet_87 (fun H locs hP hD hS => ?_)
                                                      refine lv_iinc (v := 14) (lv' := [(4, .int 14), (0, .ref h0), (1, .int 3), (2, .int (-1)), (3, .int x2)]) hx hb dX12_sheet_88 hl (k := 0) rfl (by decide) (by decide) rfl (fun ls hl => ?_)
                                                      refine lv_goto (tgt := 68) hx hb dX12_sheet_91 (by decide) ?_
                                                      refine lv_iload hx hb dX12_sheet_68 (lv_at hl 0 rfl) ?_
                                                      refine lv_bipush (v := 40) hx hb dX12_sheet_70 (by decide) ?_
                                                      refine lv_icmp_ge (tgt := 94) hx hb dX12_sheet_72 (by decide) (fun c2252 => ?_) (fun c2252 => ?_)
                                                      · exact absurd c2252 (by decide)
                                                      · refine lv_aload_n hx hb dX12_sheet_75 rfl (lv_at hl 1 rfl) ?_
                                                        refine va_get (D := D) (ci := 12) (v := .ref h11) (C := RX12) (T := TX12) (N := 24) hx hb hts hin12 hown hK hP 0 rfl rfl 18 (by decide) (hts (.fieldLink RX12 44 "MissedPointsModel" "items" "[I") (by decide +kernel)) (fun _ h9 => h9) rfl dX12_sheet_76 ?_
                                                        refine lv_bipush (v := 40) hx hb dX12_sheet_79 (by decide) ?_
                                                        refine lv_iload_n hx hb dX12_sheet_81 rfl (lv_at hl 2 rfl) ?_
                                                        refine lv_imul hx hb dX12_sheet_82 ?_
                                                        refine lz_top (y := 120) (by decide) ?_
                                                        refine lv_iload hx hb dX12_sheet_83 (lv_at hl 0 rfl) ?_
                                                        refine lv_iadd hx hb dX12_sheet_85 ?_
                                                        refine lz_top (y := 134) (by decide) ?_
                                                        refine lv_iconst (v := 0) hx hb dX12_sheet_86 (by decide) ?_
                                                        refine lz_astc hx hb hK hP hD hS 3 0 rfl rfl (lz_vp (x := 134) (n := 160) (by decide) (by decide)) dX12_sheet_87 (fun H locs hP hD hS => ?_)
                                                        refine lv_iinc (v := 15) (lv' := [(4, .int 15), (0, .ref h0), (1, .int 3), (2, .int (-1)), (3, .int x2)]) hx hb dX12_sheet_88 hl (k := 0) rfl (by decide) (by decide) rfl (fun ls hl => ?_)
                                                        refine lv_goto (tgt := 68) hx hb dX12_sheet_91 (by decide) ?_
                                                        refine lv_iload hx hb dX12_sheet_68 (lv_at hl 0 rfl) ?_
                                                        refine lv_bipush (v := 40) hx hb dX12_sheet_70 (by decide) ?_
                                                        refine lv_icmp_ge (tgt := 94) hx hb dX12_sheet_72 (by decide) (fun c2253 => ?_) (fun c2253 => ?_)
                                                        · exact absurd c2253 (by decide)
                                                        · refine lv_aload_n hx hb dX12_sheet_75 rfl (lv_at hl 1 rfl) ?_
                                                          refine va_get (D := D) (ci := 12) (v := .ref h11) (C := RX12) (T := TX12) (N := 24) hx hb hts hin12 hown hK hP 0 rfl rfl 18 (by decide) (hts (.fieldLink RX12 44 "MissedPointsModel" "items" "[I") (by decide +kernel)) (fun _ h9 => h9) rfl dX12_sheet_76 ?_
                                                          refine lv_bipush (v := 40) hx hb dX12_sheet_79 (by decide) ?_
                                                          refine lv_iload_n hx hb dX12_sheet_81 rfl (lv_at hl 2 rfl) ?_
                                                          refine lv_imul hx hb dX12_sheet_82 ?_
                                                          refine lz_top (y := 120) (by decide) ?_
                                                          refine lv_iload hx hb dX12_sheet_83 (lv_at hl 0 rfl) ?_
                                                          refine lv_iadd hx hb dX12_sheet_85 ?_
                                                          refine lz_top (y := 135) (by decide) ?_
                                                          refine lv_iconst (v := 0) hx hb dX12_sheet_86 (by decide) ?_
                                                          refine lz_astc hx hb hK hP hD hS 3 0 rfl rfl (lz_vp (x := 135) (n := 160) (by decide) (by decide)) dX12_sheet_87 (fun H locs hP hD hS => ?_)
                                                          refine lv_iinc (v := 16) (lv' := [(4, .int 16), (0, .ref h0), (1, .int 3), (2, .int (-1)), (3, .int x2)]) hx hb dX12_sheet_88 hl (k := 0) rfl (by decide) (by decide) rfl (fun ls hl => ?_)
                                                          refine lv_goto (tgt := 68) hx hb dX12_sheet_91 (by decide) ?_
                                                          refine lv_iload hx hb dX12_sheet_68 (lv_at hl 0 rfl) ?_
                                                          refine lv_bipush (v := 40) hx hb dX12_sheet_70 (by decide) ?_
                                                          refine lv_icmp_ge (tgt := 94) hx hb dX12_sheet_72 (by decide) (fun c2254 => ?_) (fun c2254 => ?_)
                                                          · exact absurd c2254 (by decide)
                                                          · refine lv_aload_n hx hb dX12_sheet_75 rfl (lv_at hl 1 rfl) ?_
                                                            refine va_get (D := D) (ci := 12) (v := .ref h11) (C := RX12) (T := TX12) (N := 24) hx hb hts hin12 hown hK hP 0 rfl rfl 18 (by decide) (hts (.fieldLink RX12 44 "MissedPointsModel" "items" "[I") (by decide +kernel)) (fun _ h9 => h9) rfl dX12_sheet_76 ?_
                                                            refine lv_bipush (v := 40) hx hb dX12_sheet_79 (by decide) ?_
                                                            refine lv_iload_n hx hb dX12_sheet_81 rfl (lv_at hl 2 rfl) ?_
                                                            refine lv_imul hx hb dX12_sheet_82 ?_
                                                            refine lz_top (y := 120) (by decide) ?_
                                                            refine lv_iload hx hb dX12_sheet_83 (lv_at hl 0 rfl) ?_
                                                            refine lv_iadd hx hb dX12_sheet_85 ?_
                                                            refine lz_top (y := 136) (by decide) ?_
                                                            refine lv_iconst (v := 0) hx hb dX12_sheet_86 (by decide) ?_
                                                            refine lz_astc hx hb hK hP hD hS 3 0 rfl rfl (lz_vp (x := 136) (n := 160) (by decide) (by decide)) dX12_sheet_87 (fun H locs hP hD hS => ?_)
                                                            refine lv_iinc (v := 17) (lv' := [(4, .int 17), (0, .ref h0), (1, .int 3), (2, .int (-1)), (3, .int x2)]) hx hb dX12_sheet_88 hl (k := 0) rfl (by decide) (by decide) rfl (fun ls hl => ?_)
                                                            refine lv_goto (tgt := 68) hx hb dX12_sheet_91 (by decide) ?_
                                                            refine lv_iload hx hb dX12_sheet_68 (lv_at hl 0 rfl) ?_
                                                            refine lv_bipush (v := 40) hx hb dX12_sheet_70 (by decide) ?_
                                                            refine lv_icmp_ge (tgt := 94) hx hb dX12_sheet_72 (by decide) (fun c2255 => ?_) (fun c2255 => ?_)
                                                            · exact absurd c2255 (by decide)
                                                            · refine lv_aload_n hx hb dX12_sheet_75 rfl (lv_at hl 1 rfl) ?_
                                                              refine va_get (D := D) (ci := 12) (v := .ref h11) (C := RX12) (T := TX12) (N := 24) hx hb hts hin12 hown hK hP 0 rfl rfl 18 (by decide) (hts (.fieldLink RX12 44 "MissedPointsModel" "items" "[I") (by decide +kernel)) (fun _ h9 => h9) rfl dX12_sheet_76 ?_
                                                              refine lv_bipush (v := 40) hx hb dX12_sheet_79 (by decide) ?_
                                                              refine lv_iload_n hx hb dX12_sheet_81 rfl (lv_at hl 2 rfl) ?_
                                                              refine lv_imul hx hb dX12_sheet_82 ?_
                                                              refine lz_top (y := 120) (by decide) ?_
                                                              refine lv_iload hx hb dX12_sheet_83 (lv_at hl 0 rfl) ?_
                                                              refine lv_iadd hx hb dX12_sheet_85 ?_
                                                              refine lz_top (y := 137) (by decide) ?_
                                                              refine lv_iconst (v := 0) hx hb dX12_sheet_86 (by decide) ?_
                                                              refine lz_astc hx hb hK hP hD hS 3 0 rfl rfl (lz_vp (x := 137) (n := 160) (by decide) (by decide)) dX12_sheet_87 (fun H locs hP hD hS => ?_)
                                                              refine lv_iinc (v := 18) (lv' := [(4, .int 18), (0, .ref h0), (1, .int 3), (2, .int (-1)), (3, .int x2)]) hx hb dX12_sheet_88 hl (k := 0) rfl (by decide) (by decide) rfl (fun ls hl => ?_)
                                                              refine lv_goto (tgt := 68) hx hb dX12_sheet_91 (by decide) ?_
                                                              refine lv_iload hx hb dX12_sheet_68 (lv_at hl 0 rfl) ?_
                                                              refine lv_bipush (v := 40) hx hb dX12_sheet_70 (by decide) ?_
                                                              refine lv_icmp_ge (tgt := 94) hx hb dX12_sheet_72 (by decide) (fun c2256 => ?_) (fun c2256 => ?_)
                                                              · exact absurd c2256 (by decide)
                                                              · refine lv_aload_n hx hb dX12_sheet_75 rfl (lv_at hl 1 rfl) ?_
                                                                refine va_get (D := D) (ci := 12) (v := .ref h11) (C := RX12) (T := TX12) (N := 24) hx hb hts hin12 hown hK hP 0 rfl rfl 18 (by decide) (hts (.fieldLink RX12 44 "MissedPointsModel" "items" "[I") (by decide +kernel)) (fun _ h9 => h9) rfl dX12_sheet_76 ?_
                                                                refine lv_bipush (v := 40) hx hb dX12_sheet_79 (by decide) ?_
                                                                refine lv_iload_n hx hb dX12_sheet_81 rfl (lv_at hl 2 rfl) ?_
                                                                refine lv_imul hx hb dX12_sheet_82 ?_
                                                                refine lz_top (y := 120) (by decide) ?_
                                                                refine lv_iload hx hb dX12_sheet_83 (lv_at hl 0 rfl) ?_
                                                                refine lv_iadd hx hb dX12_sheet_85 ?_
                                                                refine lz_top (y := 138) (by decide) ?_
                                                                refine lv_iconst (v := 0) hx hb dX12_sheet_86 (by decide) ?_
                                                                refine lz_astc hx hb hK hP hD hS 3 0 rfl rfl (lz_vp (x := 138) (n := 160) (by decide) (by decide)) dX12_sheet_87 (fun H locs hP hD hS => ?_)
                                                                refine lv_iinc (v := 19) (lv' := [(4, .int 19), (0, .ref h0), (1, .int 3), (2, .int (-1)), (3, .int x2)]) hx hb dX12_sheet_88 hl (k := 0) rfl (by decide) (by decide) rfl (fun ls hl => ?_)
                                                                refine lv_goto (tgt := 68) hx hb dX12_sheet_91 (by decide) ?_
                                                                refine lv_iload hx hb dX12_sheet_68 (lv_at hl 0 rfl) ?_
                                                                refine lv_bipush (v := 40) hx hb dX12_sheet_70 (by decide) ?_
                                                                refine lv_icmp_ge (tgt := 94) hx hb dX12_sheet_72 (by decide) (fun c2257 => ?_) (fun c2257 => ?_)
                                                                · exact absurd c2257 (by decide)
                                                                · refine lv_aload_n hx hb dX12_sheet_75 rfl (lv_at hl 1 rfl) ?_
                                                                  refine va_get (D := D) (ci := 12) (v := .ref h11) (C := RX12) (T := TX12) (N := 24) hx hb hts hin12 hown hK hP 0 rfl rfl 18 (by decide) (hts (.fieldLink RX12 44 "MissedPointsModel" "items" "[I") (by decide +kernel)) (fun _ h9 => h9) rfl dX12_sheet_76 ?_
                                                                  refine lv_bipush (v := 40) hx hb dX12_sheet_79 (by decide) ?_
                                                                  refine lv_iload_n hx hb dX12_sheet_81 rfl (lv_at hl 2 rfl) ?_
                                                                  refine lv_imul hx hb dX12_sheet_82 ?_
                                                                  refine lz_top (y := 120) (by decide) ?_
                                                                  refine lv_iload hx hb dX12_sheet_83 (lv_at hl 0 rfl) ?_
                                                                  refine lv_iadd hx hb dX12_sheet_85 ?_
                                                                  refine lz_top (y := 139) (by decide) ?_
                                                                  refine lv_iconst (v := 0) hx hb dX12_sheet_86 (by decide) ?_
                                                                  refine lz_astc hx hb hK hP hD hS 3 0 rfl rfl (lz_vp (x := 139) (n := 160) (by decide) (by decide)) dX12_sheet_87 (fun H locs hP hD hS => ?_)
                                                                  refine lv_iinc (v := 20) (lv' := [(4, .int 20), (0, .ref h0), (1, .int 3), (2, .int (-1)), (3, .int x2)]) hx hb dX12_sheet_88 hl (k := 0) rfl (by decide) (by decide) rfl (fun ls hl => ?_)
                                                                  refine lv_goto (tgt := 68) hx hb dX12_sheet_91 (by decide) ?_
                                                                  refine lv_iload hx hb dX12_sheet_68 (lv_at hl 0 rfl) ?_
                                                                  refine lv_bipush (v := 40) hx hb dX12_sheet_70 (by decide) ?_
                                                                  refine lv_icmp_ge (tgt := 94) hx hb dX12_sheet_72 (by decide) (fun c2258 => ?_) (fun c2258 => ?_)
                                                                  · exact absurd c2258 (by decide)
                                                                  · refine lv_aload_n hx hb dX12_sheet_75 rfl (lv_at hl 1 rfl) ?_
                                                                    refine va_get (D := D) (ci := 12) (v := .ref h11) (C := RX12) (T := TX12) (N := 24) hx hb hts hin12 hown hK hP 0 rfl rfl 18 (by decide) (hts (.fieldLink RX12 44 "MissedPointsModel" "items" "[I") (by decide +kernel)) (fun _ h9 => h9) rfl dX12_sheet_76 ?_
                                                                    refine lv_bipush (v := 40) hx hb dX12_sheet_79 (by decide) ?_
                                                                    refine lv_iload_n hx hb dX12_sheet_81 rfl (lv_at hl 2 rfl) ?_
                                                                    refine lv_imul hx hb dX12_sheet_82 ?_
                                                                    refine lz_top (y := 120) (by decide) ?_
                                                                    refine lv_iload hx hb dX12_sheet_83 (lv_at hl 0 rfl) ?_
                                                                    refine lv_iadd hx hb dX12_sheet_85 ?_
                                                                    refine lz_top (y := 140) (by decide) ?_
                                                                    refine lv_iconst (v := 0) hx hb dX12_sheet_86 (by decide) ?_
                                                                    refine lz_astc hx hb hK hP hD hS 3 0 rfl rfl (lz_vp (x := 140) (n := 160) (by decide) (by decide)) dX12_sheet_87 (fun H locs hP hD hS => ?_)
                                                                    refine lv_iinc (v := 21) (lv' := [(4, .int 21), (0, .ref h0), (1, .int 3), (2, .int (-1)), (3, .int x2)]) hx hb dX12_sheet_88 hl (k := 0) rfl (by decide) (by decide) rfl (fun ls hl => ?_)
                                                                    refine lv_goto (tgt := 68) hx hb dX12_sheet_91 (by decide) ?_
                                                                    refine lv_iload hx hb dX12_sheet_68 (lv_at hl 0 rfl) ?_
                                                                    refine lv_bipush (v := 40) hx hb dX12_sheet_70 (by decide) ?_
                                                                    refine lv_icmp_ge (tgt := 94) hx hb dX12_sheet_72 (by decide) (fun c2259 => ?_) (fun c2259 => ?_)
                                                                    · exact absurd c2259 (by decide)
                                                                    · refine lv_aload_n hx hb dX12_sheet_75 rfl (lv_at hl 1 rfl) ?_
                                                                      refine va_get (D := D) (ci := 12) (v := .ref h11) (C := RX12) (T := TX12) (N := 24) hx hb hts hin12 hown hK hP 0 rfl rfl 18 (by decide) (hts (.fieldLink RX12 44 "MissedPointsModel" "items" "[I") (by decide +kernel)) (fun _ h9 => h9) rfl dX12_sheet_76 ?_
                                                                      refine lv_bipush (v := 40) hx hb dX12_sheet_79 (by decide) ?_
                                                                      refine lv_iload_n hx hb dX12_sheet_81 rfl (lv_at hl 2 rfl) ?_
                                                                      refine lv_imul hx hb dX12_sheet_82 ?_
                                                                      refine lz_top (y := 120) (by decide) ?_
                                                                      refine lv_iload hx hb dX12_sheet_83 (lv_at hl 0 rfl) ?_
                                                                      refine lv_iadd hx hb dX12_sheet_85 ?_
                                                                      refine lz_top (y := 141) (by decide) ?_
                                                                      refine lv_iconst (v := 0) hx hb dX12_sheet_86 (by decide) ?_
                                                                      refine lz_astc hx hb hK hP hD hS 3 0 rfl rfl (lz_vp (x := 141) (n := 160) (by decide) (by decide)) dX12_sheet_87 (fun H locs hP hD hS => ?_)
                                                                      refine lv_iinc (v := 22) (lv' := [(4, .int 22), (0, .ref h0), (1, .int 3), (2, .int (-1)), (3, .int x2)]) hx hb dX12_sheet_88 hl (k := 0) rfl (by decide) (by decide) rfl (fun ls hl => ?_)
                                                                      refine lv_goto (tgt := 68) hx hb dX12_sheet_91 (by decide) ?_
                                                                      refine lv_iload hx hb dX12_sheet_68 (lv_at hl 0 rfl) ?_
                                                                      refine lv_bipush (v := 40) hx hb dX12_sheet_70 (by decide) ?_
                                                                      refine lv_icmp_ge (tgt := 94) hx hb dX12_sheet_72 (by decide) (fun c2260 => ?_) (fun c2260 => ?_)
                                                                      · exact absurd c2260 (by decide)
                                                                      · refine lv_aload_n hx hb dX12_sheet_75 rfl (lv_at hl 1 rfl) ?_
                                                                        refine va_get (D := D) (ci := 12) (v := .ref h11) (C := RX12) (T := TX12) (N := 24) hx hb hts hin12 hown hK hP 0 rfl rfl 18 (by decide) (hts (.fieldLink RX12 44 "MissedPointsModel" "items" "[I") (by decide +kernel)) (fun _ h9 => h9) rfl dX12_sheet_76 ?_
                                                                        refine lv_bipush (v := 40) hx hb dX12_sheet_79 (by decide) ?_
                                                                        refine lv_iload_n hx hb dX12_sheet_81 rfl (lv_at hl 2 rfl) ?_
                                                                        refine lv_imul hx hb dX12_sheet_82 ?_
                                                                        refine lz_top (y := 120) (by decide) ?_
                                                                        refine lv_iload hx hb dX12_sheet_83 (lv_at hl 0 rfl) ?_
                                                                        refine lv_iadd hx hb dX12_sheet_85 ?_
                                                                        refine lz_top (y := 142) (by decide) ?_
                                                                        refine lv_iconst (v := 0) hx hb dX12_sheet_86 (by decide) ?_
                                                                        refine lz_astc hx hb hK hP hD hS 3 0 rfl rfl (lz_vp (x := 142) (n := 160) (by decide) (by decide)) dX12_sheet_87 (fun H locs hP hD hS => ?_)
                                                                        refine lv_iinc (v := 23) (lv' := [(4, .int 23), (0, .ref h0), (1, .int 3), (2, .int (-1)), (3, .int x2)]) hx hb dX12_sheet_88 hl (k := 0) rfl (by decide) (by decide) rfl (fun ls hl => ?_)
                                                                        refine lv_goto (tgt := 68) hx hb dX12_sheet_91 (by decide) ?_
                                                                        refine lv_iload hx hb dX12_sheet_68 (lv_at hl 0 rfl) ?_
                                                                        refine lv_bipush (v := 40) hx hb dX12_sheet_70 (by decide) ?_
                                                                        refine lv_icmp_ge (tgt := 94) hx hb dX12_sheet_72 (by decide) (fun c2261 => ?_) (fun c2261 => ?_)
                                                                        · exact absurd c2261 (by decide)
                                                                        · refine lv_aload_n hx hb dX12_sheet_75 rfl (lv_at hl 1 rfl) ?_
                                                                          refine va_get (D := D) (ci := 12) (v := .ref h11) (C := RX12) (T := TX12) (N := 24) hx hb hts hin12 hown hK hP 0 rfl rfl 18 (by decide) (hts (.fieldLink RX12 44 "MissedPointsModel" "items" "[I") (by decide +kernel)) (fun _ h9 => h9) rfl dX12_sheet_76 ?_
                                                                          refine lv_bipush (v := 40) hx hb dX12_sheet_79 (by decide) ?_
                                                                          refine lv_iload_n hx hb dX12_sheet_81 rfl (lv_at hl 2 rfl) ?_
                                                                          refine lv_imul hx hb dX12_sheet_82 ?_
                                                                          refine lz_top (y := 120) (by decide) ?_
                                                                          refine lv_iload hx hb dX12_sheet_83 (lv_at hl 0 rfl) ?_
                                                                          refine lv_iadd hx hb dX12_sheet_85 ?_
                                                                          refine lz_top (y := 143) (by decide) ?_
                                                                          refine lv_iconst (v := 0) hx hb dX12_sheet_86 (by decide) ?_
                                                                          refine lz_astc hx hb hK hP hD hS 3 0 rfl rfl (lz_vp (x := 143) (n := 160) (by decide) (by decide)) dX12_sheet_87 (fun H locs hP hD hS => ?_)
                                                                          refine lv_iinc (v := 24) (lv' := [(4, .int 24), (0, .ref h0), (1, .int 3), (2, .int (-1)), (3, .int x2)]) hx hb dX12_sheet_88 hl (k := 0) rfl (by decide) (by decide) rfl (fun ls hl => ?_)
                                                                          refine lv_goto (tgt := 68) hx hb dX12_sheet_91 (by decide) ?_
                                                                          refine lv_iload hx hb dX12_sheet_68 (lv_at hl 0 rfl) ?_
                                                                          refine lv_bipush (v := 40) hx hb dX12_sheet_70 (by decide) ?_
                                                                          refine lv_icmp_ge (tgt := 94) hx hb dX12_sheet_72 (by decide) (fun c2262 => ?_) (fun c2262 => ?_)
                                                                          · exact absurd c2262 (by decide)
                                                                          · refine lv_aload_n hx hb dX12_sheet_75 rfl (lv_at hl 1 rfl) ?_
                                                                            refine va_get (D := D) (ci := 12) (v := .ref h11) (C := RX12) (T := TX12) (N := 24) hx hb hts hin12 hown hK hP 0 rfl rfl 18 (by decide) (hts (.fieldLink RX12 44 "MissedPointsModel" "items" "[I") (by decide +kernel)) (fun _ h9 => h9) rfl dX12_sheet_76 ?_
                                                                            refine lv_bipush (v := 40) hx hb dX12_sheet_79 (by decide) ?_
                                                                            refine lv_iload_n hx hb dX12_sheet_81 rfl (lv_at hl 2 rfl) ?_
                                                                            refine lv_imul hx hb dX12_sheet_82 ?_
                                                                            refine lz_top (y := 120) (by decide) ?_
                                                                            refine lv_iload hx hb dX12_sheet_83 (lv_at hl 0 rfl) ?_
                                                                            refine lv_iadd hx hb dX12_sheet_85 ?_
                                                                            refine lz_top (y := 144) (by decide) ?_
                                                                            refine lv_iconst (v := 0) hx hb dX12_sheet_86 (by decide) ?_
                                                                            refine lz_astc hx hb hK hP hD hS 3 0 rfl rfl (lz_vp (x := 144) (n := 160) (by decide) (by decide)) dX12_sheet_87 (fun H locs hP hD hS => ?_)
                                                                            refine lv_iinc (v := 25) (lv' := [(4, .int 25), (0, .ref h0), (1, .int 3), (2, .int (-1)), (3, .int x2)]) hx hb dX12_sheet_88 hl (k := 0) rfl (by decide) (by decide) rfl (fun ls hl => ?_)
                                                                            refine lv_goto (tgt := 68) hx hb dX12_sheet_91 (by decide) ?_
                                                                            refine lv_iload hx hb dX12_sheet_68 (lv_at hl 0 rfl) ?_
                                                                            refine lv_bipush (v := 40) hx hb dX12_sheet_70 (by decide) ?_
                                                                            refine lv_icmp_ge (tgt := 94) hx hb dX12_sheet_72 (by decide) (fun c2263 => ?_) (fun c2263 => ?_)
                                                                            · exact absurd c2263 (by decide)
                                                                            · refine lv_aload_n hx hb dX12_sheet_75 rfl (lv_at hl 1 rfl) ?_
                                                                              refine va_get (D := D) (ci := 12) (v := .ref h11) (C := RX12) (T := TX12) (N := 24) hx hb hts hin12 hown hK hP 0 rfl rfl 18 (by decide) (hts (.fieldLink RX12 44 "MissedPointsModel" "items" "[I") (by decide +kernel)) (fun _ h9 => h9) rfl dX12_sheet_76 ?_
                                                                              refine lv_bipush (v := 40) hx hb dX12_sheet_79 (by decide) ?_
                                                                              refine lv_iload_n hx hb dX12_sheet_81 rfl (lv_at hl 2 rfl) ?_
                                                                              refine lv_imul hx hb dX12_sheet_82 ?_
                                                                              refine lz_top (y := 120) (by decide) ?_
                                                                              refine lv_iload hx hb dX12_sheet_83 (lv_at hl 0 rfl) ?_
                                                                              refine lv_iadd hx hb dX12_sheet_85 ?_
                                                                              refine lz_top (y := 145) (by decide) ?_
                                                                              refine lv_iconst (v := 0) hx hb dX12_sheet_86 (by decide) ?_
                                                                              refine lz_astc hx hb hK hP hD hS 3 0 rfl rfl (lz_vp (x := 145) (n := 160) (by decide) (by decide)) dX12_sheet_87 (fun H locs hP hD hS => ?_)
                                                                              refine lv_iinc (v := 26) (lv' := [(4, .int 26), (0, .ref h0), (1, .int 3), (2, .int (-1)), (3, .int x2)]) hx hb dX12_sheet_88 hl (k := 0) rfl (by decide) (by decide) rfl (fun ls hl => ?_)
                                                                              refine lv_goto (tgt := 68) hx hb dX12_sheet_91 (by decide) ?_
                                                                              refine lv_iload hx hb dX12_sheet_68 (lv_at hl 0 rfl) ?_
                                                                              refine lv_bipush (v := 40) hx hb dX12_sheet_70 (by decide) ?_
                                                                              refine lv_icmp_ge (tgt := 94) hx hb dX12_sheet_72 (by decide) (fun c2264 => ?_) (fun c2264 => ?_)
                                                                              · exact absurd c2264 (by decide)
                                                                              · refine lv_aload_n hx hb dX12_sheet_75 rfl (lv_at hl 1 rfl) ?_
                                                                                refine va_get (D := D) (ci := 12) (v := .ref h11) (C := RX12) (T := TX12) (N := 24) hx hb hts hin12 hown hK hP 0 rfl rfl 18 (by decide) (hts (.fieldLink RX12 44 "MissedPointsModel" "items" "[I") (by decide +kernel)) (fun _ h9 => h9) rfl dX12_sheet_76 ?_
                                                                                refine lv_bipush (v := 40) hx hb dX12_sheet_79 (by decide) ?_
                                                                                refine lv_iload_n hx hb dX12_sheet_81 rfl (lv_at hl 2 rfl) ?_
                                                                                refine lv_imul hx hb dX12_sheet_82 ?_
                                                                                refine lz_top (y := 120) (by decide) ?_
                                                                                refine lv_iload hx hb dX12_sheet_83 (lv_at hl 0 rfl) ?_
                                                                                refine lv_iadd hx hb dX12_sheet_85 ?_
                                                                                refine lz_top (y := 146) (by decide) ?_
                                                                                refine lv_iconst (v := 0) hx hb dX12_sheet_86 (by decide) ?_
                                                                                refine lz_astc hx hb hK hP hD hS 3 0 rfl rfl (lz_vp (x := 146) (n := 160) (by decide) (by decide)) dX12_sheet_87 (fun H locs hP hD hS => ?_)
                                                                                refine lv_iinc (v := 27) (lv' := [(4, .int 27), (0, .ref h0), (1, .int 3), (2, .int (-1)), (3, .int x2)]) hx hb dX12_sheet_88 hl (k := 0) rfl (by decide) (by decide) rfl (fun ls hl => ?_)
                                                                                refine lv_goto (tgt := 68) hx hb dX12_sheet_91 (by decide) ?_
                                                                                refine lv_iload hx hb dX12_sheet_68 (lv_at hl 0 rfl) ?_
                                                                                refine lv_bipush (v := 40) hx hb dX12_sheet_70 (by decide) ?_
                                                                                refine lv_icmp_ge (tgt := 94) hx hb dX12_sheet_72 (by decide) (fun c2265 => ?_) (fun c2265 => ?_)
                                                                                · exact absurd c2265 (by decide)
                                                                                · refine lv_aload_n hx hb dX12_sheet_75 rfl (lv_at hl 1 rfl) ?_
                                                                                  refine va_get (D := D) (ci := 12) (v := .ref h11) (C := RX12) (T := TX12) (N := 24) hx hb hts hin12 hown hK hP 0 rfl rfl 18 (by decide) (hts (.fieldLink RX12 44 "MissedPointsModel" "items" "[I") (by decide +kernel)) (fun _ h9 => h9) rfl dX12_sheet_76 ?_
                                                                                  refine lv_bipush (v := 40) hx hb dX12_sheet_79 (by decide) ?_
                                                                                  refine lv_iload_n hx hb dX12_sheet_81 rfl (lv_at hl 2 rfl) ?_
                                                                                  refine lv_imul hx hb dX12_sheet_82 ?_
                                                                                  refine lz_top (y := 120) (by decide) ?_
                                                                                  refine lv_iload hx hb dX12_sheet_83 (lv_at hl 0 rfl) ?_
                                                                                  refine lv_iadd hx hb dX12_sheet_85 ?_
                                                                                  refine lz_top (y := 147) (by decide) ?_
                                                                                  refine lv_iconst (v := 0) hx hb dX12_sheet_86 (by decide) ?_
                                                                                  refine lz_astc hx hb hK hP hD hS 3 0 rfl rfl (lz_vp (x := 147) (n := 160) (by decide) (by decide)) dX12_sheet_87 (fun H locs hP hD hS => ?_)
                                                                                  refine lv_iinc (v := 28) (lv' := [(4, .int 28), (0, .ref h0), (1, .int 3), (2, .int (-1)), (3, .int x2)]) hx hb dX12_sheet_88 hl (k := 0) rfl (by decide) (by decide) rfl (fun ls hl => ?_)
                                                                                  refine lv_goto (tgt := 68) hx hb dX12_sheet_91 (by decide) ?_
                                                                                  refine lv_iload hx hb dX12_sheet_68 (lv_at hl 0 rfl) ?_
                                                                                  refine lv_bipush (v := 40) hx hb dX12_sheet_70 (by decide) ?_
                                                                                  refine lv_icmp_ge (tgt := 94) hx hb dX12_sheet_72 (by decide) (fun c2266 => ?_) (fun c2266 => ?_)
                                                                                  · exact absurd c2266 (by decide)
                                                                                  · refine lv_aload_n hx hb dX12_sheet_75 rfl (lv_at hl 1 rfl) ?_
                                                                                    refine va_get (D := D) (ci := 12) (v := .ref h11) (C := RX12) (T := TX12) (N := 24) hx hb hts hin12 hown hK hP 0 rfl rfl 18 (by decide) (hts (.fieldLink RX12 44 "MissedPointsModel" "items" "[I") (by decide +kernel)) (fun _ h9 => h9) rfl dX12_sheet_76 ?_
                                                                                    refine lv_bipush (v := 40) hx hb dX12_sheet_79 (by decide) ?_
                                                                                    refine lv_iload_n hx hb dX12_sheet_81 rfl (lv_at hl 2 rfl) ?_
                                                                                    refine lv_imul hx hb dX12_sheet_82 ?_
                                                                                    refine lz_top (y := 120) (by decide) ?_
                                                                                    refine lv_iload hx hb dX12_sheet_83 (lv_at hl 0 rfl) ?_
                                                                                    refine lv_iadd hx hb dX12_sheet_85 ?_
                                                                                    refine lz_top (y := 148) (by decide) ?_
                                                                                    refine lv_iconst (v := 0) hx hb dX12_sheet_86 (by decide) ?_
                                                                                    refine lz_astc hx hb hK hP hD hS 3 0 rfl rfl (lz_vp (x := 148) (n := 160) (by decide) (by decide)) dX12_sheet_87 (fun H locs hP hD hS => ?_)
                                                                                    refine lv_iinc (v := 29) (lv' := [(4, .int 29), (0, .ref h0), (1, .int 3), (2, .int (-1)), (3, .int x2)]) hx hb dX12_sheet_88 hl (k := 0) rfl (by decide) (by decide) rfl (fun ls hl => ?_)
                                                                                    refine lv_goto (tgt := 68) hx hb dX12_sheet_91 (by decide) ?_
                                                                                    refine lv_iload hx hb dX12_sheet_68 (lv_at hl 0 rfl) ?_
                                                                                    refine lv_bipush (v := 40) hx hb dX12_sheet_70 (by decide) ?_
                                                                                    refine lv_icmp_ge (tgt := 94) hx hb dX12_sheet_72 (by decide) (fun c2267 => ?_) (fun c2267 => ?_)
                                                                                    · exact absurd c2267 (by decide)
                                                                                    · refine lv_aload_n hx hb dX12_sheet_75 rfl (lv_at hl 1 rfl) ?_
                                                                                      refine va_get (D := D) (ci := 12) (v := .ref h11) (C := RX12) (T := TX12) (N := 24) hx hb hts hin12 hown hK hP 0 rfl rfl 18 (by decide) (hts (.fieldLink RX12 44 "MissedPointsModel" "items" "[I") (by decide +kernel)) (fun _ h9 => h9) rfl dX12_sheet_76 ?_
                                                                                      refine lv_bipush (v := 40) hx hb dX12_sheet_79 (by decide) ?_
                                                                                      refine lv_iload_n hx hb dX12_sheet_81 rfl (lv_at hl 2 rfl) ?_
                                                                                      refine lv_imul hx hb dX12_sheet_82 ?_
                                                                                      refine lz_top (y := 120) (by decide) ?_
                                                                                      refine lv_iload hx hb dX12_sheet_83 (lv_at hl 0 rfl) ?_
                                                                                      refine lv_iadd hx hb dX12_sheet_85 ?_
                                                                                      refine lz_top (y := 149) (by decide) ?_
                                                                                      refine lv_iconst (v := 0) hx hb dX12_sheet_86 (by decide) ?_
                                                                                      refine lz_astc hx hb hK hP hD hS 3 0 rfl rfl (lz_vp (x := 149) (n := 160) (by decide) (by decide)) dX12_sheet_87 (fun H locs hP hD hS => ?_)
                                                                                      refine lv_iinc (v := 30) (lv' := [(4, .int 30), (0, .ref h0), (1, .int 3), (2, .int (-1)), (3, .int x2)]) hx hb dX12_sheet_88 hl (k := 0) rfl (by decide) (by decide) rfl (fun ls hl => ?_)
                                                                                      refine lv_goto (tgt := 68) hx hb dX12_sheet_91 (by decide) ?_
                                                                                      refine lv_iload hx hb dX12_sheet_68 (lv_at hl 0 rfl) ?_
                                                                                      refine lv_bipush (v := 40) hx hb dX12_sheet_70 (by decide) ?_
                                                                                      refine lv_icmp_ge (tgt := 94) hx hb dX12_sheet_72 (by decide) (fun c2268 => ?_) (fun c2268 => ?_)
                                                                                      · exact absurd c2268 (by decide)
                                                                                      · refine lv_aload_n hx hb dX12_sheet_75 rfl (lv_at hl 1 rfl) ?_
                                                                                        refine va_get (D := D) (ci := 12) (v := .ref h11) (C := RX12) (T := TX12) (N := 24) hx hb hts hin12 hown hK hP 0 rfl rfl 18 (by decide) (hts (.fieldLink RX12 44 "MissedPointsModel" "items" "[I") (by decide +kernel)) (fun _ h9 => h9) rfl dX12_sheet_76 ?_
                                                                                        refine lv_bipush (v := 40) hx hb dX12_sheet_79 (by decide) ?_
                                                                                        refine lv_iload_n hx hb dX12_sheet_81 rfl (lv_at hl 2 rfl) ?_
                                                                                        refine lv_imul hx hb dX12_sheet_82 ?_
                                                                                        refine lz_top (y := 120) (by decide) ?_
                                                                                        refine lv_iload hx hb dX12_sheet_83 (lv_at hl 0 rfl) ?_
                                                                                        refine lv_iadd hx hb dX12_sheet_85 ?_
                                                                                        refine lz_top (y := 150) (by decide) ?_
                                                                                        refine lv_iconst (v := 0) hx hb dX12_sheet_86 (by decide) ?_
                                                                                        refine lz_astc hx hb hK hP hD hS 3 0 rfl rfl (lz_vp (x := 150) (n := 160) (by decide) (by decide)) dX12_sheet_87 (fun H locs hP hD hS => ?_)
                                                                                        refine lv_iinc (v := 31) (lv' := [(4, .int 31), (0, .ref h0), (1, .int 3), (2, .int (-1)), (3, .int x2)]) hx hb dX12_sheet_88 hl (k := 0) rfl (by decide) (by decide) rfl (fun ls hl => ?_)
                                                                                        refine lv_goto (tgt := 68) hx hb dX12_sheet_91 (by decide) ?_
                                                                                        refine lv_iload hx hb dX12_sheet_68 (lv_at hl 0 rfl) ?_
                                                                                        refine lv_bipush (v := 40) hx hb dX12_sheet_70 (by decide) ?_
                                                                                        refine lv_icmp_ge (tgt := 94) hx hb dX12_sheet_72 (by decide) (fun c2269 => ?_) (fun c2269 => ?_)
                                                                                        · exact absurd c2269 (by decide)
                                                                                        · refine lv_aload_n hx hb dX12_sheet_75 rfl (lv_at hl 1 rfl) ?_
                                                                                          refine va_get (D := D) (ci := 12) (v := .ref h11) (C := RX12) (T := TX12) (N := 24) hx hb hts hin12 hown hK hP 0 rfl rfl 18 (by decide) (hts (.fieldLink RX12 44 "MissedPointsModel" "items" "[I") (by decide +kernel)) (fun _ h9 => h9) rfl dX12_sheet_76 ?_
                                                                                          refine lv_bipush (v := 40) hx hb dX12_sheet_79 (by decide) ?_
                                                                                          refine lv_iload_n hx hb dX12_sheet_81 rfl (lv_at hl 2 rfl) ?_
                                                                                          refine lv_imul hx hb dX12_sheet_82 ?_
                                                                                          refine lz_top (y := 120) (by decide) ?_
                                                                                          refine lv_iload hx hb dX12_sheet_83 (lv_at hl 0 rfl) ?_
                                                                                          refine lv_iadd hx hb dX12_sheet_85 ?_
                                                                                          refine lz_top (y := 151) (by decide) ?_
                                                                                          refine lv_iconst (v := 0) hx hb dX12_sheet_86 (by decide) ?_
                                                                                          refine lz_astc hx hb hK hP hD hS 3 0 rfl rfl (lz_vp (x := 151) (n := 160) (by decide) (by decide)) dX12_sheet_87 (fun H locs hP hD hS => ?_)
                                                                                          refine lv_iinc (v := 32) (lv' := [(4, .int 32), (0, .ref h0), (1, .int 3), (2, .int (-1)), (3, .int x2)]) hx hb dX12_sheet_88 hl (k := 0) rfl (by decide) (by decide) rfl (fun ls hl => ?_)
                                                                                          refine lv_goto (tgt := 68) hx hb dX12_sheet_91 (by decide) ?_
                                                                                          refine lv_iload hx hb dX12_sheet_68 (lv_at hl 0 rfl) ?_
                                                                                          refine lv_bipush (v := 40) hx hb dX12_sheet_70 (by decide) ?_
                                                                                          refine lv_icmp_ge (tgt := 94) hx hb dX12_sheet_72 (by decide) (fun c2270 => ?_) (fun c2270 => ?_)
                                                                                          · exact absurd c2270 (by decide)
                                                                                          · refine lv_aload_n hx hb dX12_sheet_75 rfl (lv_at hl 1 rfl) ?_
                                                                                            refine va_get (D := D) (ci := 12) (v := .ref h11) (C := RX12) (T := TX12) (N := 24) hx hb hts hin12 hown hK hP 0 rfl rfl 18 (by decide) (hts (.fieldLink RX12 44 "MissedPointsModel" "items" "[I") (by decide +kernel)) (fun _ h9 => h9) rfl dX12_sheet_76 ?_
                                                                                            refine lv_bipush (v := 40) hx hb dX12_sheet_79 (by decide) ?_
                                                                                            refine lv_iload_n hx hb dX12_sheet_81 rfl (lv_at hl 2 rfl) ?_
                                                                                            refine lv_imul hx hb dX12_sheet_82 ?_
                                                                                            refine lz_top (y := 120) (by decide) ?_
                                                                                            refine lv_iload hx hb dX12_sheet_83 (lv_at hl 0 rfl) ?_
                                                                                            refine lv_iadd hx hb dX12_sheet_85 ?_
                                                                                            refine lz_top (y := 152) (by decide) ?_
                                                                                            refine lv_iconst (v := 0) hx hb dX12_sheet_86 (by decide) ?_
                                                                                            refine lz_astc hx hb hK hP hD hS 3 0 rfl rfl (lz_vp (x := 152) (n := 160) (by decide) (by decide)) dX12_sheet_87 (fun H locs hP hD hS => ?_)
                                                                                            refine lv_iinc (v := 33) (lv' := [(4, .int 33), (0, .ref h0), (1, .int 3), (2, .int (-1)), (3, .int x2)]) hx hb dX12_sheet_88 hl (k := 0) rfl (by decide) (by decide) rfl (fun ls hl => ?_)
                                                                                            refine lv_goto (tgt := 68) hx hb dX12_sheet_91 (by decide) ?_
                                                                                            refine lv_iload hx hb dX12_sheet_68 (lv_at hl 0 rfl) ?_
                                                                                            refine lv_bipush (v := 40) hx hb dX12_sheet_70 (by decide) ?_
                                                                                            refine lv_icmp_ge (tgt := 94) hx hb dX12_sheet_72 (by decide) (fun c2271 => ?_) (fun c2271 => ?_)
                                                                                            · exact absurd c2271 (by decide)
                                                                                            · refine lv_aload_n hx hb dX12_sheet_75 rfl (lv_at hl 1 rfl) ?_
                                                                                              refine va_get (D := D) (ci := 12) (v := .ref h11) (C := RX12) (T := TX12) (N := 24) hx hb hts hin12 hown hK hP 0 rfl rfl 18 (by decide) (hts (.fieldLink RX12 44 "MissedPointsModel" "items" "[I") (by decide +kernel)) (fun _ h9 => h9) rfl dX12_sheet_76 ?_
                                                                                              refine lv_bipush (v := 40) hx hb dX12_sheet_79 (by decide) ?_
                                                                                              refine lv_iload_n hx hb dX12_sheet_81 rfl (lv_at hl 2 rfl) ?_
                                                                                              refine lv_imul hx hb dX12_sheet_82 ?_
                                                                                              refine lz_top (y := 120) (by decide) ?_
                                                                                              refine lv_iload hx hb dX12_sheet_83 (lv_at hl 0 rfl) ?_
                                                                                              refine lv_iadd hx hb dX12_sheet_85 ?_
                                                                                              refine lz_top (y := 153) (by decide) ?_
                                                                                              refine lv_iconst (v := 0) hx hb dX12_sheet_86 (by decide) ?_
                                                                                              refine lz_astc hx hb hK hP hD hS 3 0 rfl rfl (lz_vp (x := 153) (n := 160) (by decide) (by decide)) dX12_sheet_87 (fun H locs hP hD hS => ?_)
                                                                                              refine lv_iinc (v := 34) (lv' := [(4, .int 34), (0, .ref h0), (1, .int 3), (2, .int (-1)), (3, .int x2)]) hx hb dX12_sheet_88 hl (k := 0) rfl (by decide) (by decide) rfl (fun ls hl => ?_)
                                                                                              refine lv_goto (tgt := 68) hx hb dX12_sheet_91 (by decide) ?_
                                                                                              refine lv_iload hx hb dX12_sheet_68 (lv_at hl 0 rfl) ?_
                                                                                              refine lv_bipush (v := 40) hx hb dX12_sheet_70 (by decide) ?_
                                                                                              refine lv_icmp_ge (tgt := 94) hx hb dX12_sheet_72 (by decide) (fun c2272 => ?_) (fun c2272 => ?_)
                                                                                              · exact absurd c2272 (by decide)
                                                                                              · refine lv_aload_n hx hb dX12_sheet_75 rfl (lv_at hl 1 rfl) ?_
                                                                                                refine va_get (D := D) (ci := 12) (v := .ref h11) (C := RX12) (T := TX12) (N := 24) hx hb hts hin12 hown hK hP 0 rfl rfl 18 (by decide) (hts (.fieldLink RX12 44 "MissedPointsModel" "items" "[I") (by decide +kernel)) (fun _ h9 => h9) rfl dX12_sheet_76 ?_
                                                                                                refine lv_bipush (v := 40) hx hb dX12_sheet_79 (by decide) ?_
                                                                                                refine lv_iload_n hx hb dX12_sheet_81 rfl (lv_at hl 2 rfl) ?_
                                                                                                refine lv_imul hx hb dX12_sheet_82 ?_
                                                                                                refine lz_top (y := 120) (by decide) ?_
                                                                                                refine lv_iload hx hb dX12_sheet_83 (lv_at hl 0 rfl) ?_
                                                                                                refine lv_iadd hx hb dX12_sheet_85 ?_
                                                                                                refine lz_top (y := 154) (by decide) ?_
                                                                                                refine lv_iconst (v := 0) hx hb dX12_sheet_86 (by decide) ?_
                                                                                                refine lz_astc hx hb hK hP hD hS 3 0 rfl rfl (lz_vp (x := 154) (n := 160) (by decide) (by decide)) dX12_sheet_87 (fun H locs hP hD hS => ?_)
                                                                                                refine lv_iinc (v := 35) (lv' := [(4, .int 35), (0, .ref h0), (1, .int 3), (2, .int (-1)), (3, .int x2)]) hx hb dX12_sheet_88 hl (k := 0) rfl (by decide) (by decide) rfl (fun ls hl => ?_)
                                                                                                refine lv_goto (tgt := 68) hx hb dX12_sheet_91 (by decide) ?_
                                                                                                refine lv_iload hx hb dX12_sheet_68 (lv_at hl 0 rfl) ?_
                                                                                                refine lv_bipush (v := 40) hx hb dX12_sheet_70 (by decide) ?_
                                                                                                refine lv_icmp_ge (tgt := 94) hx hb dX12_sheet_72 (by decide) (fun c2273 => ?_) (fun c2273 => ?_)
                                                                                                · exact absurd c2273 (by decide)
                                                                                                · refine lv_aload_n hx hb dX12_sheet_75 rfl (lv_at hl 1 rfl) ?_
                                                                                                  refine va_get (D := D) (ci := 12) (v := .ref h11) (C := RX12) (T := TX12) (N := 24) hx hb hts hin12 hown hK hP 0 rfl rfl 18 (by decide) (hts (.fieldLink RX12 44 "MissedPointsModel" "items" "[I") (by decide +kernel)) (fun _ h9 => h9) rfl dX12_sheet_76 ?_
                                                                                                  refine lv_bipush (v := 40) hx hb dX12_sheet_79 (by decide) ?_
                                                                                                  refine lv_iload_n hx hb dX12_sheet_81 rfl (lv_at hl 2 rfl) ?_
                                                                                                  refine lv_imul hx hb dX12_sheet_82 ?_
                                                                                                  refine lz_top (y := 120) (by decide) ?_
                                                                                                  refine lv_iload hx hb dX12_sheet_83 (lv_at hl 0 rfl) ?_
                                                                                                  refine lv_iadd hx hb dX12_sheet_85 ?_
                                                                                                  refine lz_top (y := 155) (by decide) ?_
                                                                                                  refine lv_iconst (v := 0) hx hb dX12_sheet_86 (by decide) ?_
                                                                                                  refine lz_astc hx hb hK hP hD hS 3 0 rfl rfl (lz_vp (x := 155) (n := 160) (by decide) (by decide)) dX12_sheet_87 (fun H locs hP hD hS => ?_)
                                                                                                  refine lv_iinc (v := 36) (lv' := [(4, .int 36), (0, .ref h0), (1, .int 3), (2, .int (-1)), (3, .int x2)]) hx hb dX12_sheet_88 hl (k := 0) rfl (by decide) (by decide) rfl (fun ls hl => ?_)
                                                                                                  refine lv_goto (tgt := 68) hx hb dX12_sheet_91 (by decide) ?_
                                                                                                  refine lv_iload hx hb dX12_sheet_68 (lv_at hl 0 rfl) ?_
                                                                                                  refine lv_bipush (v := 40) hx hb dX12_sheet_70 (by decide) ?_
                                                                                                  refine lv_icmp_ge (tgt := 94) hx hb dX12_sheet_72 (by decide) (fun c2274 => ?_) (fun c2274 => ?_)
                                                                                                  · exact absurd c2274 (by decide)
                                                                                                  · refine lv_aload_n hx hb dX12_sheet_75 rfl (lv_at hl 1 rfl) ?_
                                                                                                    refine va_get (D := D) (ci := 12) (v := .ref h11) (C := RX12) (T := TX12) (N := 24) hx hb hts hin12 hown hK hP 0 rfl rfl 18 (by decide) (hts (.fieldLink RX12 44 "MissedPointsModel" "items" "[I") (by decide +kernel)) (fun _ h9 => h9) rfl dX12_sheet_76 ?_
                                                                                                    refine lv_bipush (v := 40) hx hb dX12_sheet_79 (by decide) ?_
                                                                                                    refine lv_iload_n hx hb dX12_sheet_81 rfl (lv_at hl 2 rfl) ?_
                                                                                                    refine lv_imul hx hb dX12_sheet_82 ?_
                                                                                                    refine lz_top (y := 120) (by decide) ?_
                                                                                                    refine lv_iload hx hb dX12_sheet_83 (lv_at hl 0 rfl) ?_
                                                                                                    refine lv_iadd hx hb dX12_sheet_85 ?_
                                                                                                    refine lz_top (y := 156) (by decide) ?_
                                                                                                    refine lv_iconst (v := 0) hx hb dX12_sheet_86 (by decide) ?_
                                                                                                    refine lz_astc hx hb hK hP hD hS 3 0 rfl rfl (lz_vp (x := 156) (n := 160) (by decide) (by decide)) dX12_sheet_87 (fun H locs hP hD hS => ?_)
                                                                                                    refine lv_iinc (v := 37) (lv' := [(4, .int 37), (0, .ref h0), (1, .int 3), (2, .int (-1)), (3, .int x2)]) hx hb dX12_sheet_88 hl (k := 0) rfl (by decide) (by decide) rfl (fun ls hl => ?_)
                                                                                                    refine lv_goto (tgt := 68) hx hb dX12_sheet_91 (by decide) ?_
                                                                                                    refine lv_iload hx hb dX12_sheet_68 (lv_at hl 0 rfl) ?_
                                                                                                    refine lv_bipush (v := 40) hx hb dX12_sheet_70 (by decide) ?_
                                                                                                    refine lv_icmp_ge (tgt := 94) hx hb dX12_sheet_72 (by decide) (fun c2275 => ?_) (fun c2275 => ?_)
                                                                                                    · exact absurd c2275 (by decide)
                                                                                                    · refine lv_aload_n hx hb dX12_sheet_75 rfl (lv_at hl 1 rfl) ?_
                                                                                                      refine va_get (D := D) (ci := 12) (v := .ref h11) (C := RX12) (T := TX12) (N := 24) hx hb hts hin12 hown hK hP 0 rfl rfl 18 (by decide) (hts (.fieldLink RX12 44 "MissedPointsModel" "items" "[I") (by decide +kernel)) (fun _ h9 => h9) rfl dX12_sheet_76 ?_
                                                                                                      refine lv_bipush (v := 40) hx hb dX12_sheet_79 (by decide) ?_
                                                                                                      refine lv_iload_n hx hb dX12_sheet_81 rfl (lv_at hl 2 rfl) ?_
                                                                                                      refine lv_imul hx hb dX12_sheet_82 ?_
                                                                                                      refine lz_top (y := 120) (by decide) ?_
                                                                                                      refine lv_iload hx hb dX12_sheet_83 (lv_at hl 0 rfl) ?_
                                                                                                      refine lv_iadd hx hb dX12_sheet_85 ?_
                                                                                                      refine lz_top (y := 157) (by decide) ?_
                                                                                                      refine lv_iconst (v := 0) hx hb dX12_sheet_86 (by decide) ?_
                                                                                                      refine lz_astc hx hb hK hP hD hS 3 0 rfl rfl (lz_vp (x := 157) (n := 160) (by decide) (by decide)) dX12_sheet_87 (fun H locs hP hD hS => ?_)
                                                                                                      refine lv_iinc (v := 38) (lv' := [(4, .int 38), (0, .ref h0), (1, .int 3), (2, .int (-1)), (3, .int x2)]) hx hb dX12_sheet_88 hl (k := 0) rfl (by decide) (by decide) rfl (fun ls hl => ?_)
                                                                                                      refine lv_goto (tgt := 68) hx hb dX12_sheet_91 (by decide) ?_
                                                                                                      refine lv_iload hx hb dX12_sheet_68 (lv_at hl 0 rfl) ?_
                                                                                                      refine lv_bipush (v := 40) hx hb dX12_sheet_70 (by decide) ?_
                                                                                                      refine lv_icmp_ge (tgt := 94) hx hb dX12_sheet_72 (by decide) (fun c2276 => ?_) (fun c2276 => ?_)
                                                                                                      · exact absurd c2276 (by decide)
                                                                                                      · refine lv_aload_n hx hb dX12_sheet_75 rfl (lv_at hl 1 rfl) ?_
                                                                                                        refine va_get (D := D) (ci := 12) (v := .ref h11) (C := RX12) (T := TX12) (N := 24) hx hb hts hin12 hown hK hP 0 rfl rfl 18 (by decide) (hts (.fieldLink RX12 44 "MissedPointsModel" "items" "[I") (by decide +kernel)) (fun _ h9 => h9) rfl dX12_sheet_76 ?_
                                                                                                        refine lv_bipush (v := 40) hx hb dX12_sheet_79 (by decide) ?_
                                                                                                        refine lv_iload_n hx hb dX12_sheet_81 rfl (lv_at hl 2 rfl) ?_
                                                                                                        refine lv_imul hx hb dX12_sheet_82 ?_
                                                                                                        refine lz_top (y := 120) (by decide) ?_
                                                                                                        refine lv_iload hx hb dX12_sheet_83 (lv_at hl 0 rfl) ?_
                                                                                                        refine lv_iadd hx hb dX12_sheet_85 ?_
                                                                                                        refine lz_top (y := 158) (by decide) ?_
                                                                                                        refine lv_iconst (v := 0) hx hb dX12_sheet_86 (by decide) ?_
                                                                                                        refine lz_astc hx hb hK hP hD hS 3 0 rfl rfl (lz_vp (x := 158) (n := 160) (by decide) (by decide)) dX12_sheet_87 (fun H locs hP hD hS => ?_)
                                                                                                        refine lv_iinc (v := 39) (lv' := [(4, .int 39), (0, .ref h0), (1, .int 3), (2, .int (-1)), (3, .int x2)]) hx hb dX12_sheet_88 hl (k := 0) rfl (by decide) (by decide) rfl (fun ls hl => ?_)
                                                                                                        refine lv_goto (tgt := 68) hx hb dX12_sheet_91 (by decide) ?_
                                                                                                        refine lv_iload hx hb dX12_sheet_68 (lv_at hl 0 rfl) ?_
                                                                                                        refine lv_bipush (v := 40) hx hb dX12_sheet_70 (by decide) ?_
                                                                                                        refine lv_icmp_ge (tgt := 94) hx hb dX12_sheet_72 (by decide) (fun c2277 => ?_) (fun c2277 => ?_)
                                                                                                        · exact absurd c2277 (by decide)
                                                                                                        · refine lv_aload_n hx hb dX12_sheet_75 rfl (lv_at hl 1 rfl) ?_
                                                                                                          refine va_get (D := D) (ci := 12) (v := .ref h11) (C := RX12) (T := TX12) (N := 24) hx hb hts hin12 hown hK hP 0 rfl rfl 18 (by decide) (hts (.fieldLink RX12 44 "MissedPointsModel" "items" "[I") (by decide +kernel)) (fun _ h9 => h9) rfl dX12_sheet_76 ?_
                                                                                                          refine lv_bipush (v := 40) hx hb dX12_sheet_79 (by decide) ?_
                                                                                                          refine lv_iload_n hx hb dX12_sheet_81 rfl (lv_at hl 2 rfl) ?_
                                                                                                          refine lv_imul hx hb dX12_sheet_82 ?_
                                                                                                          refine lz_top (y := 120) (by decide) ?_
                                                                                                          refine lv_iload hx hb dX12_sheet_83 (lv_at hl 0 rfl) ?_
                                                                                                          refine lv_iadd hx hb dX12_sheet_85 ?_
                                                                                                          refine lz_top (y := 159) (by decide) ?_
                                                                                                          refine lv_iconst (v := 0) hx hb dX12_sheet_86 (by decide) ?_
                                                                                                          refine lz_astc hx hb hK hP hD hS 3 0 rfl rfl (lz_vp (x := 159) (n := 160) (by decide) (by decide)) dX12_sheet_87 (fun H locs hP hD hS => ?_)
                                                                                                          refine lv_iinc (v := 40) (lv' := [(4, .int 40), (0, .ref h0), (1, .int 3), (2, .int (-1)), (3, .int x2)]) hx hb dX12_sheet_88 hl (k := 0) rfl (by decide) (by decide) rfl (fun ls hl => ?_)
                                                                                                          refine lv_goto (tgt := 68) hx hb dX12_sheet_91 (by decide) ?_
                                                                                                          refine lv_iload hx hb dX12_sheet_68 (lv_at hl 0 rfl) ?_
                                                                                                          refine lv_bipush (v := 40) hx hb dX12_sheet_70 (by decide) ?_
                                                                                                          refine lv_icmp_ge (tgt := 94) hx hb dX12_sheet_72 (by decide) (fun c2278 => ?_) (fun c2278 => ?_)
                                                                                                          · refine lv_iconst (v := 1) hx hb dX12_sheet_94 (by decide) ?_
                                                                                                            have hP9 := hP.sub (ws' := []) [] rfl
                                                                                                            have hD9 := hD.sub (ws' := []) [] (by decide) rfl
                                                                                                            subst hAe
                                                                                                            exact W.iret (v := 1) hx hb hr (fun t ht hW => ⟨⟨_, (), rfl, by rw [if_neg k2095, if_neg k2097, if_neg k2101, if_neg k2103, if_pos rfl], by rw [ht]; exact hP9, hD9⟩, hS.F ht⟩) hS.2.2 dX12_sheet_95
                                                                                                          · exact absurd c2278 (by decide)
                · exact absurd c2107 (by decide)
              · refine lv_iload_n hx hb dX12_sheet_21 rfl (lv_at hl 3 rfl) ?_
                refine lv_bipush (v := 40) hx hb dX12_sheet_22 (by decide) ?_
                refine lv_icmp_le (tgt := 30) hx hb dX12_sheet_24 (by decide) (fun c2279 => ?_) (fun c2279 => ?_)
                · refine lv_iload_n hx hb dX12_sheet_30 rfl (lv_at hl 2 rfl) ?_
                  refine lv_iconst (v := (-1)) hx hb dX12_sheet_31 (by decide) ?_
                  refine lv_icmp_eq (tgt := 42) hx hb dX12_sheet_32 (by decide) (fun c2280 => ?_) (fun c2280 => ?_)
                  · exact absurd c2280 c2106
                  · refine lv_iload_n hx hb dX12_sheet_35 rfl (lv_at hl 3 rfl) ?_
                    refine lv_if_ge (tgt := 42) hx hb dX12_sheet_36 (by decide) (fun c2281 => ?_) (fun c2281 => ?_)
                    · by_cases k2282 : x0 = 0
                      · subst k2282
                        refine lv_aload_n hx hb dX12_sheet_42 rfl (lv_at hl 0 rfl) ?_
                        refine va_get (D := D) (ci := 12) (v := .ref h9) (C := RX12) (T := TX12) (N := 24) hx hb hts hin12 hown hK hP 0 rfl rfl 16 (by decide) (hts (.fieldLink RX12 38 "MissedPointsModel" "sort" "[I") (by decide +kernel)) (fun _ h9 => h9) rfl dX12_sheet_43 ?_
                        refine lv_iload_n hx hb dX12_sheet_46 rfl (lv_at hl 1 rfl) ?_
                        refine lv_iload_n hx hb dX12_sheet_47 rfl (lv_at hl 2 rfl) ?_
                        refine va_iast hx hb hK hP hD hS 1 0 rfl rfl (lz_vp (x := 0) (n := 4) (by decide) (by decide)) dX12_sheet_48 (fun H locs hP hD hS => ?_)
                        have hP : va_P D cls [(h0, .inr (12, [.int 0, .int 1, .ref h1, .ref h2, .ref h3, .ref h4, .ref h5, .ref h6, .ref h7, .ref h8, .int 0, .int 0, .int 0, .int 0, .int 0, .int 0, .ref h9, .ref h10, .ref h11, .ref h12, .ref h13, .ref h14, .ref h15, .int 0])), (h9, .inl (cI, 4, .inl (upd (fun _ => -1) 0 x1))), (h10, .inl (cI, 4, .inl (fun _ => 0))), (h11, .inl (cI, 160, .inl (fun _ => 0)))] H := hP
                        have hD : va_D A [(h0, .inr (12, [.int 0, .int 1, .ref h1, .ref h2, .ref h3, .ref h4, .ref h5, .ref h6, .ref h7, .ref h8, .int 0, .int 0, .int 0, .int 0, .int 0, .int 0, .ref h9, .ref h10, .ref h11, .ref h12, .ref h13, .ref h14, .ref h15, .int 0])), (h9, .inl (cI, 4, .inl (upd (fun _ => -1) 0 x1))), (h10, .inl (cI, 4, .inl (fun _ => 0))), (h11, .inl (cI, 160, .inl (fun _ => 0)))] := hD
                        refine lv_aload_n hx hb dX12_sheet_49 rfl (lv_at hl 0 rfl) ?_
                        refine va_get (D := D) (ci := 12) (v := .ref h10) (C := RX12) (T := TX12) (N := 24) hx hb hts hin12 hown hK hP 0 rfl rfl 17 (by decide) (hts (.fieldLink RX12 41 "MissedPointsModel" "size" "[I") (by decide +kernel)) (fun _ h9 => h9) rfl dX12_sheet_50 ?_
                        refine lv_iload_n hx hb dX12_sheet_53 rfl (lv_at hl 1 rfl) ?_
                        refine lv_iload_n hx hb dX12_sheet_54 rfl (lv_at hl 2 rfl) ?_
                        refine lv_iconst (v := (-1)) hx hb dX12_sheet_55 (by decide) ?_
                        refine lv_icmp_ne (tgt := 63) hx hb dX12_sheet_56 (by decide) (fun c2283 => ?_) (fun c2283 => ?_)
                        · refine lv_iload_n hx hb dX12_sheet_63 rfl (lv_at hl 3 rfl) ?_
                          refine va_iast hx hb hK hP hD hS 2 0 rfl rfl (lz_vp (x := 0) (n := 4) (by decide) (by decide)) dX12_sheet_64 (fun H locs hP hD hS => ?_)
                          have hP : va_P D cls [(h0, .inr (12, [.int 0, .int 1, .ref h1, .ref h2, .ref h3, .ref h4, .ref h5, .ref h6, .ref h7, .ref h8, .int 0, .int 0, .int 0, .int 0, .int 0, .int 0, .ref h9, .ref h10, .ref h11, .ref h12, .ref h13, .ref h14, .ref h15, .int 0])), (h9, .inl (cI, 4, .inl (upd (fun _ => -1) 0 x1))), (h10, .inl (cI, 4, .inl (upd (fun _ => 0) 0 x2))), (h11, .inl (cI, 160, .inl (fun _ => 0)))] H := hP
                          have hD : va_D A [(h0, .inr (12, [.int 0, .int 1, .ref h1, .ref h2, .ref h3, .ref h4, .ref h5, .ref h6, .ref h7, .ref h8, .int 0, .int 0, .int 0, .int 0, .int 0, .int 0, .ref h9, .ref h10, .ref h11, .ref h12, .ref h13, .ref h14, .ref h15, .int 0])), (h9, .inl (cI, 4, .inl (upd (fun _ => -1) 0 x1))), (h10, .inl (cI, 4, .inl (upd (fun _ => 0) 0 x2))), (h11, .inl (cI, 160, .inl (fun _ => 0)))] := hD
                          refine lv_iconst (v := 0) hx hb dX12_sheet_65 (by decide) ?_
                          refine lv_istore (lv' := [(4, .int 0), (0, .ref h0), (1, .int 0), (2, .int x1), (3, .int x2)]) hx hb dX12_sheet_66 hl (by decide) rfl (fun ls hl => ?_)
                          refine lv_iload hx hb dX12_sheet_68 (lv_at hl 0 rfl) ?_
                          refine lv_bipush (v := 40) hx hb dX12_sheet_70 (by decide) ?_
                          refine lv_icmp_ge (tgt := 94) hx hb dX12_sheet_72 (by decide) (fun c2284 => ?_) (fun c2284 => ?_)
                          · exact absurd c2284 (by decide)
                          · refine lv_aload_n hx hb dX12_sheet_75 rfl (lv_at hl 1 rfl) ?_
                            refine va_get (D := D) (ci := 12) (v := .ref h11) (C := RX12) (T := TX12) (N := 24) hx hb hts hin12 hown hK hP 0 rfl rfl 18 (by decide) (hts (.fieldLink RX12 44 "MissedPointsModel" "items" "[I") (by decide +kernel)) (fun _ h9 => h9) rfl dX12_sheet_76 ?_
                            refine lv_bipush (v := 40) hx hb dX12_sheet_79 (by decide) ?_
                            refine lv_iload_n hx hb dX12_sheet_81 rfl (lv_at hl 2 rfl) ?_
                            refine lv_imul hx hb dX12_sheet_82 ?_
                            refine lz_top (y := 0) (by decide) ?_
                            refine lv_iload hx hb dX12_sheet_83 (lv_at hl 0 rfl) ?_
                            refine lv_iadd hx hb dX12_sheet_85 ?_
                            refine lz_top (y := 0) (by decide) ?_
                            refine lv_iconst (v := 0) hx hb dX12_sheet_86 (by decide) ?_
                            refine lz_astc hx hb hK hP hD hS 3 0 rfl rfl (lz_vp (x := 0) (n := 160) (by decide) (by decide)) dX12_sheet_87 (fun H locs hP hD hS => ?_)
                            refine lv_iinc (v := 1) (lv' := [(4, .int 1), (0, .ref h0), (1, .int 0), (2, .int x1), (3, .int x2)]) hx hb dX12_sheet_88 hl (k := 0) rfl (by decide) (by decide) rfl (fun ls hl => ?_)
                            refine lv_goto (tgt := 68) hx hb dX12_sheet_91 (by decide) ?_
                            refine lv_iload hx hb dX12_sheet_68 (lv_at hl 0 rfl) ?_
                            refine lv_bipush (v := 40) hx hb dX12_sheet_70 (by decide) ?_
                            refine lv_icmp_ge (tgt := 94) hx hb dX12_sheet_72 (by decide) (fun c2285 => ?_) (fun c2285 => ?_)
                            · exact absurd c2285 (by decide)
                            · refine lv_aload_n hx hb dX12_sheet_75 rfl (lv_at hl 1 rfl) ?_
                              refine va_get (D := D) (ci := 12) (v := .ref h11) (C := RX12) (T := TX12) (N := 24) hx hb hts hin12 hown hK hP 0 rfl rfl 18 (by decide) (hts (.fieldLink RX12 44 "MissedPointsModel" "items" "[I") (by decide +kernel)) (fun _ h9 => h9) rfl dX12_sheet_76 ?_
                              refine lv_bipush (v := 40) hx hb dX12_sheet_79 (by decide) ?_
                              refine lv_iload_n hx hb dX12_sheet_81 rfl (lv_at hl 2 rfl) ?_
                              refine lv_imul hx hb dX12_sheet_82 ?_
                              refine lz_top (y := 0) (by decide) ?_
                              refine lv_iload hx hb dX12_sheet_83 (lv_at hl 0 rfl) ?_
                              refine lv_iadd hx hb dX12_sheet_85 ?_
                              refine lz_top (y := 1) (by decide) ?_
                              refine lv_iconst (v := 0) hx hb dX12_sheet_86 (by decide) ?_
                              refine lz_astc hx hb hK hP hD hS 3 0 rfl rfl (lz_vp (x := 1) (n := 160) (by decide) (by decide)) dX12_sheet_87 (fun H locs hP hD hS => ?_)
                              refine lv_iinc (v := 2) (lv' := [(4, .int 2), (0, .ref h0), (1, .int 0), (2, .int x1), (3, .int x2)]) hx hb dX12_sheet_88 hl (k := 0) rfl (by decide) (by decide) rfl (fun ls hl => ?_)
                              refine lv_goto (tgt := 68) hx hb dX12_sheet_91 (by decide) ?_
                              refine lv_iload hx hb dX12_sheet_68 (lv_at hl 0 rfl) ?_
                              refine lv_bipush (v := 40) hx hb dX12_sheet_70 (by decide) ?_
                              refine lv_icmp_ge (tgt := 94) hx hb dX12_sheet_72 (by decide) (fun c2286 => ?_) (fun c2286 => ?_)
                              · exact absurd c2286 (by decide)
                              · refine lv_aload_n hx hb dX12_sheet_75 rfl (lv_at hl 1 rfl) ?_
                                refine va_get (D := D) (ci := 12) (v := .ref h11) (C := RX12) (T := TX12) (N := 24) hx hb hts hin12 hown hK hP 0 rfl rfl 18 (by decide) (hts (.fieldLink RX12 44 "MissedPointsModel" "items" "[I") (by decide +kernel)) (fun _ h9 => h9) rfl dX12_sheet_76 ?_
                                refine lv_bipush (v := 40) hx hb dX12_sheet_79 (by decide) ?_
                                refine lv_iload_n hx hb dX12_sheet_81 rfl (lv_at hl 2 rfl) ?_
                                refine lv_imul hx hb dX12_sheet_82 ?_
                                refine lz_top (y := 0) (by decide) ?_
                                refine lv_iload hx hb dX12_sheet_83 (lv_at hl 0 rfl) ?_
                                refine lv_iadd hx hb dX12_sheet_85 ?_
                                refine lz_top (y := 2) (by decide) ?_
                                refine lv_iconst (v := 0) hx hb dX12_sheet_86 (by decide) ?_
                                refine lz_astc hx hb hK hP hD hS 3 0 rfl rfl (lz_vp (x := 2) (n := 160) (by decide) (by decide)) dX12_sheet_87 (fun H locs hP hD hS => ?_)
                                refine lv_iinc (v := 3) (lv' := [(4, .int 3), (0, .ref h0), (1, .int 0), (2, .int x1), (3, .int x2)]) hx hb dX12_sheet_88 hl (k := 0) rfl (by decide) (by decide) rfl (fun ls hl => ?_)
                                refine lv_goto (tgt := 68) hx hb dX12_sheet_91 (by decide) ?_
                                refine lv_iload hx hb dX12_sheet_68 (lv_at hl 0 rfl) ?_
                                refine lv_bipush (v := 40) hx hb dX12_sheet_70 (by decide) ?_
                                refine lv_icmp_ge (tgt := 94) hx hb dX12_sheet_72 (by decide) (fun c2287 => ?_) (fun c2287 => ?_)
                                · exact absurd c2287 (by decide)
                                · refine lv_aload_n hx hb dX12_sheet_75 rfl (lv_at hl 1 rfl) ?_
                                  refine va_get (D := D) (ci := 12) (v := .ref h11) (C := RX12) (T := TX12) (N := 24) hx hb hts hin12 hown hK hP 0 rfl rfl 18 (by decide) (hts (.fieldLink RX12 44 "MissedPointsModel" "items" "[I") (by decide +kernel)) (fun _ h9 => h9) rfl dX12_sheet_76 ?_
                                  refine lv_bipush (v := 40) hx hb dX12_sheet_79 (by decide) ?_
                                  refine lv_iload_n hx hb dX12_sheet_81 rfl (lv_at hl 2 rfl) ?_
                                  refine lv_imul hx hb dX12_sheet_82 ?_
                                  refine lz_top (y := 0) (by decide) ?_
                                  refine lv_iload hx hb dX12_sheet_83 (lv_at hl 0 rfl) ?_
                                  refine lv_iadd hx hb dX12_sheet_85 ?_
                                  refine lz_top (y := 3) (by decide) ?_
                                  refine lv_iconst (v := 0) hx hb dX12_sheet_86 (by decide) ?_
                                  refine lz_astc hx hb hK hP hD hS 3 0 rfl rfl (lz_vp (x := 3) (n := 160) (by decide) (by decide)) dX12_sheet_87 (fun H locs hP hD hS => ?_)
                                  refine lv_iinc (v := 4) (lv' := [(4, .int 4), (0, .ref h0), (1, .int 0), (2, .int x1), (3, .int x2)]) hx hb dX12_sheet_88 hl (k := 0) rfl (by decide) (by decide) rfl (fun ls hl => ?_)
                                  refine lv_goto (tgt := 68) hx hb dX12_sheet_91 (by decide) ?_
                                  refine lv_iload hx hb dX12_sheet_68 (lv_at hl 0 rfl) ?_
                                  refine lv_bipush (v := 40) hx hb dX12_sheet_70 (by decide) ?_
                                  refine lv_icmp_ge (tgt := 94) hx hb dX12_sheet_72 (by decide) (fun c2288 => ?_) (fun c2288 => ?_)
                                  · exact absurd c2288 (by decide)
                                  · refine lv_aload_n hx hb dX12_sheet_75 rfl (lv_at hl 1 rfl) ?_
                                    refine va_get (D := D) (ci := 12) (v := .ref h11) (C := RX12) (T := TX12) (N := 24) hx hb hts hin12 hown hK hP 0 rfl rfl 18 (by decide) (hts (.fieldLink RX12 44 "MissedPointsModel" "items" "[I") (by decide +kernel)) (fun _ h9 => h9) rfl dX12_sheet_76 ?_
                                    refine lv_bipush (v := 40) hx hb dX12_sheet_79 (by decide) ?_
                                    refine lv_iload_n hx hb dX12_sheet_81 rfl (lv_at hl 2 rfl) ?_
                                    refine lv_imul hx hb dX12_sheet_82 ?_
                                    refine lz_top (y := 0) (by decide) ?_
                                    refine lv_iload hx hb dX12_sheet_83 (lv_at hl 0 rfl) ?_
                                    refine lv_iadd hx hb dX12_sheet_85 ?_
                                    refine lz_top (y := 4) (by decide) ?_
                                    refine lv_iconst (v := 0) hx hb dX12_sheet_86 (by decide) ?_
                                    refine lz_astc hx hb hK hP hD hS 3 0 rfl rfl (lz_vp (x := 4) (n := 160) (by decide) (by decide)) dX12_sheet_87 (fun H locs hP hD hS => ?_)
                                    refine lv_iinc (v := 5) (lv' := [(4, .int 5), (0, .ref h0), (1, .int 0), (2, .int x1), (3, .int x2)]) hx hb dX12_sheet_88 hl (k := 0) rfl (by decide) (by decide) rfl (fun ls hl => ?_)
                                    refine lv_goto (tgt := 68) hx hb dX12_sheet_91 (by decide) ?_
                                    refine lv_iload hx hb dX12_sheet_68 (lv_at hl 0 rfl) ?_
                                    refine lv_bipush (v := 40) hx hb dX12_sheet_70 (by decide) ?_
                                    refine lv_icmp_ge (tgt := 94) hx hb dX12_sheet_72 (by decide) (fun c2289 => ?_) (fun c2289 => ?_)
                                    · exact absurd c2289 (by decide)
                                    · refine lv_aload_n hx hb dX12_sheet_75 rfl (lv_at hl 1 rfl) ?_
                                      refine va_get (D := D) (ci := 12) (v := .ref h11) (C := RX12) (T := TX12) (N := 24) hx hb hts hin12 hown hK hP 0 rfl rfl 18 (by decide) (hts (.fieldLink RX12 44 "MissedPointsModel" "items" "[I") (by decide +kernel)) (fun _ h9 => h9) rfl dX12_sheet_76 ?_
                                      refine lv_bipush (v := 40) hx hb dX12_sheet_79 (by decide) ?_
                                      refine lv_iload_n hx hb dX12_sheet_81 rfl (lv_at hl 2 rfl) ?_
                                      refine lv_imul hx hb dX12_sheet_82 ?_
                                      refine lz_top (y := 0) (by decide) ?_
                                      refine lv_iload hx hb dX12_sheet_83 (lv_at hl 0 rfl) ?_
                                      refine lv_iadd hx hb dX12_sheet_85 ?_
                                      refine lz_top (y := 5) (by decide) ?_
                                      refine lv_iconst (v := 0) hx hb dX12_sheet_86 (by decide) ?_
                                      refine lz_astc hx hb hK hP hD hS 3 0 rfl rfl (lz_vp (x := 5) (n := 160) (by decide) (by decide)) dX12_sheet_87 (fun H locs hP hD hS => ?_)
                                      refine lv_iinc (v := 6) (lv' := [(4, .int 6), (0, .ref h0), (1, .int 0), (2, .int x1), (3, .int x2)]) hx hb dX12_sheet_88 hl (k := 0) rfl (by decide) (by decide) rfl (fun ls hl => ?_)
                                      refine lv_goto (tgt := 68) hx hb dX12_sheet_91 (by decide) ?_
                                      refine lv_iload hx hb dX12_sheet_68 (lv_at hl 0 rfl) ?_
                                      refine lv_bipush (v := 40) hx hb dX12_sheet_70 (by decide) ?_
                                      refine lv_icmp_ge (tgt := 94) hx hb dX12_sheet_72 (by decide) (fun c2290 => ?_) (fun c2290 => ?_)
                                      · exact absurd c2290 (by decide)
                                      · refine lv_aload_n hx hb dX12_sheet_75 rfl (lv_at hl 1 rfl) ?_
                                        refine va_get (D := D) (ci := 12) (v := .ref h11) (C := RX12) (T := TX12) (N := 24) hx hb hts hin12 hown hK hP 0 rfl rfl 18 (by decide) (hts (.fieldLink RX12 44 "MissedPointsModel" "items" "[I") (by decide +kernel)) (fun _ h9 => h9) rfl dX12_sheet_76 ?_
                                        refine lv_bipush (v := 40) hx hb dX12_sheet_79 (by decide) ?_
                                        refine lv_iload_n hx hb dX12_sheet_81 rfl (lv_at hl 2 rfl) ?_
                                        refine lv_imul hx hb dX12_sheet_82 ?_
                                        refine lz_top (y := 0) (by decide) ?_
                                        refine lv_iload hx hb dX12_sheet_83 (lv_at hl 0 rfl) ?_
                                        refine lv_iadd hx hb dX12_sheet_85 ?_
                                        refine lz_top (y := 6) (by decide) ?_
                                        refine lv_iconst (v := 0) hx hb dX12_sheet_86 (by decide) ?_
                                        refine lz_astc hx hb hK hP hD hS 3 0 rfl rfl (lz_vp (x := 6) (n := 160) (by decide) (by decide)) dX12_sheet_87 (fun H locs hP hD hS => ?_)
                                        refine lv_iinc (v := 7) (lv' := [(4, .int 7), (0, .ref h0), (1, .int 0), (2, .int x1), (3, .int x2)]) hx hb dX12_sheet_88 hl (k := 0) rfl (by decide) (by decide) rfl (fun ls hl => ?_)
                                        refine lv_goto (tgt := 68) hx hb dX12_sheet_91 (by decide) ?_
                                        refine lv_iload hx hb dX12_sheet_68 (lv_at hl 0 rfl) ?_
                                        refine lv_bipush (v := 40) hx hb dX12_sheet_70 (by decide) ?_
                                        refine lv_icmp_ge (tgt := 94) hx hb dX12_sheet_72 (by decide) (fun c2291 => ?_) (fun c2291 => ?_)
                                        · exact absurd c2291 (by decide)
                                        · refine lv_aload_n hx hb dX12_sheet_75 rfl (lv_at hl 1 rfl) ?_
                                          refine va_get (D := D) (ci := 12) (v := .ref h11) (C := RX12) (T := TX12) (N := 24) hx hb hts hin12 hown hK hP 0 rfl rfl 18 (by decide) (hts (.fieldLink RX12 44 "MissedPointsModel" "items" "[I") (by decide +kernel)) (fun _ h9 => h9) rfl dX12_sheet_76 ?_
                                          refine lv_bipush (v := 40) hx hb dX12_sheet_79 (by decide) ?_
                                          refine lv_iload_n hx hb dX12_sheet_81 rfl (lv_at hl 2 rfl) ?_
                                          refine lv_imul hx hb dX12_sheet_82 ?_
                                          refine lz_top (y := 0) (by decide) ?_
                                          refine lv_iload hx hb dX12_sheet_83 (lv_at hl 0 rfl) ?_
                                          refine lv_iadd hx hb dX12_sheet_85 ?_
                                          refine lz_top (y := 7) (by decide) ?_
                                          refine lv_iconst (v := 0) hx hb dX12_sheet_86 (by decide) ?_
                                          refine lz_astc hx hb hK hP hD hS 3 0 rfl rfl (lz_vp (x := 7) (n := 160) (by decide) (by decide)) dX12_sheet_87 (fun H locs hP hD hS => ?_)
                                          refine lv_iinc (v := 8) (lv' := [(4, .int 8), (0, .ref h0), (1, .int 0), (2, .int x1), (3, .int x2)]) hx hb dX12_sheet_88 hl (k := 0) rfl (by decide) (by decide) rfl (fun ls hl => ?_)
                                          refine lv_goto (tgt := 68) hx hb dX12_sheet_91 (by decide) ?_
                                          refine lv_iload hx hb dX12_sheet_68 (lv_at hl 0 rfl) ?_
                                          refine lv_bipush (v := 40) hx hb dX12_sheet_70 (by decide) ?_
                                          refine lv_icmp_ge (tgt := 94) hx hb dX12_sheet_72 (by decide) (fun c2292 => ?_) (fun c2292 => ?_)
                                          · exact absurd c2292 (by decide)
                                          · refine lv_aload_n hx hb dX12_sheet_75 rfl (lv_at hl 1 rfl) ?_
                                            refine va_get (D := D) (ci := 12) (v := .ref h11) (C := RX12) (T := TX12) (N := 24) hx hb hts hin12 hown hK hP 0 rfl rfl 18 (by decide) (hts (.fieldLink RX12 44 "MissedPointsModel" "items" "[I") (by decide +kernel)) (fun _ h9 => h9) rfl dX12_sheet_76 ?_
                                            refine lv_bipush (v := 40) hx hb dX12_sheet_79 (by decide) ?_
                                            refine lv_iload_n hx hb dX12_sheet_81 rfl (lv_at hl 2 rfl) ?_
                                            refine lv_imul hx hb dX12_sheet_82 ?_
                                            refine lz_top (y := 0) (by decide) ?_
                                            refine lv_iload hx hb dX12_sheet_83 (lv_at hl 0 rfl) ?_
                                            refine lv_iadd hx hb dX12_sheet_85 ?_
                                            refine lz_top (y := 8) (by decide) ?_
                                            refine lv_iconst (v := 0) hx hb dX12_sheet_86 (by decide) ?_
                                            refine lz_astc hx hb hK hP hD hS 3 0 rfl rfl (lz_vp (x := 8) (n := 160) (by decide) (by decide)) dX12_sheet_87 (fun H locs hP hD hS => ?_)
                                            refine lv_iinc (v := 9) (lv' := [(4, .int 9), (0, .ref h0), (1, .int 0), (2, .int x1), (3, .int x2)]) hx hb dX12_sheet_88 hl (k := 0) rfl (by decide) (by decide) rfl (fun ls hl => ?_)
                                            refine lv_goto (tgt := 68) hx hb dX12_sheet_91 (by decide) ?_
                                            refine lv_iload hx hb dX12_sheet_68 (lv_at hl 0 rfl) ?_
                                            refine lv_bipush (v := 40) hx hb dX12_sheet_70 (by decide) ?_
                                            refine lv_icmp_ge (tgt := 94) hx hb dX12_sheet_72 (by decide) (fun c2293 => ?_) (fun c2293 => ?_)
                                            · exact absurd c2293 (by decide)
                                            · refine lv_aload_n hx hb dX12_sheet_75 rfl (lv_at hl 1 rfl) ?_
                                              refine va_get (D := D) (ci := 12) (v := .ref h11) (C := RX12) (T := TX12) (N := 24) hx hb hts hin12 hown hK hP 0 rfl rfl 18 (by decide) (hts (.fieldLink RX12 44 "MissedPointsModel" "items" "[I") (by decide +kernel)) (fun _ h9 => h9) rfl dX12_sheet_76 ?_
                                              refine lv_bipush (v := 40) hx hb dX12_sheet_79 (by decide) ?_
                                              refine lv_iload_n hx hb dX12_sheet_81 rfl (lv_at hl 2 rfl) ?_
                                              refine lv_imul hx hb dX12_sheet_82 ?_
                                              refine lz_top (y := 0) (by decide) ?_
                                              refine lv_iload hx hb dX12_sheet_83 (lv_at hl 0 rfl) ?_
                                              refine lv_iadd hx hb dX12_sheet_85 ?_
                                              refine lz_top (y := 9) (by decide) ?_
                                              refine lv_iconst (v := 0) hx hb dX12_sheet_86 (by decide) ?_
                                              refine lz_astc hx hb hK hP hD hS 3 0 rfl rfl (lz_vp (x := 9) (n := 160) (by decide) (by decide)) dX12_sheet_87 (fun H locs hP hD hS => ?_)
                                              refine lv_iinc (v := 10) (lv' := [(4, .int 10), (0, .ref h0), (1, .int 0), (2, .int x1), (3, .int x2)]) hx hb dX12_sheet_88 hl (k := 0) rfl (by decide) (by decide) rfl (fun ls hl => ?_)
                                              refine lv_goto (tgt := 68) hx hb dX12_sheet_91 (by decide) ?_
                                              refine lv_iload hx hb dX12_sheet_68 (lv_at hl 0 rfl) ?_
                                              refine lv_bipush (v := 40) hx hb dX12_sheet_70 (by decide) ?_
                                              refine lv_icmp_ge (tgt := 94) hx hb dX12_sheet_72 (by decide) (fun c2294 => ?_) (fun c2294 => ?_)
                                              · exact absurd c2294 (by decide)
                                              · refine lv_aload_n hx hb dX12_sheet_75 rfl (lv_at hl 1 rfl) ?_
                                                refine va_get (D := D) (ci := 12) (v := .ref h11) (C := RX12) (T := TX12) (N := 24) hx hb hts hin12 hown hK hP 0 rfl rfl 18 (by decide) (hts (.fieldLink RX12 44 "MissedPointsModel" "items" "[I") (by decide +kernel)) (fun _ h9 => h9) rfl dX12_sheet_76 ?_
                                                refine lv_bipush (v := 40) hx hb dX12_sheet_79 (by decide) ?_
                                                refine lv_iload_n hx hb dX12_sheet_81 rfl (lv_at hl 2 rfl) ?_
                                                refine lv_imul hx hb dX12_sheet_82 ?_
                                                refine lz_top (y := 0) (by decide) ?_
                                                refine lv_iload hx hb dX12_sheet_83 (lv_at hl 0 rfl) ?_
                                                refine lv_iadd hx hb dX12_sheet_85 ?_
                                                refine lz_top (y := 10) (by decide) ?_
                                                refine lv_iconst (v := 0) hx hb dX12_sheet_86 (by decide) ?_
                                                refine lz_astc hx hb hK hP hD hS 3 0 rfl rfl (lz_vp (x := 10) (n := 160) (by decide) (by decide)) dX12_sheet_87 (fun H locs hP hD hS => ?_)
                                                refine lv_iinc (v := 11) (lv' := [(4, .int 11), (0, .ref h0), (1, .int 0), (2, .int x1), (3, .int x2)]) hx hb dX12_sheet_88 hl (k := 0) rfl (by decide) (by decide) rfl (fun ls hl => ?_)
                                                refine lv_goto (tgt := 68) hx hb dX12_sheet_91 (by decide) ?_
                                                refine lv_iload hx hb dX12_sheet_68 (lv_at hl 0 rfl) ?_
                                                refine lv_bipush (v := 40) hx hb dX12_sheet_70 (by decide) ?_
                                                refine lv_icmp_ge (tgt := 94) hx hb dX12_sheet_72 (by decide) (fun c2295 => ?_) (fun c2295 => ?_)
                                                · exact absurd c2295 (by decide)
                                                · refine lv_aload_n hx hb dX12_sheet_75 rfl (lv_at hl 1 rfl) ?_
                                                  refine va_get (D := D) (ci := 12) (v := .ref h11) (C := RX12) (T := TX12) (N := 24) hx hb hts hin12 hown hK hP 0 rfl rfl 18 (by decide) (hts (.fieldLink RX12 44 "MissedPointsModel" "items" "[I") (by decide +kernel)) (fun _ h9 => h9) rfl dX12_sheet_76 ?_
                                                  refine lv_bipush (v := 40) hx hb dX12_sheet_79 (by decide) ?_
                                                  refine lv_iload_n hx hb dX12_sheet_81 rfl (lv_at hl 2 rfl) ?_
                                                  refine lv_imul hx hb dX12_sheet_82 ?_
                                                  refine lz_top (y := 0) (by decide) ?_
                                                  refine lv_iload hx hb dX12_sheet_83 (lv_at hl 0 rfl) ?_
                                                  refine lv_iadd hx hb dX12_sheet_85 ?_
                                                  refine lz_top (y := 11) (by decide) ?_
                                                  refine lv_iconst (v := 0) hx hb dX12_sheet_86 (by decide) ?_
                                                  refine lz_astc hx hb hK hP hD hS 3 0 rfl rfl (lz_vp (x := 11) (n := 160) (by decide) (by decide)) dX12_sheet_87 (fun H locs hP hD hS => ?_)
                                                  refine lv_iinc (v := 12) (lv' := [(4, .int 12), (0, .ref h0), (1, .int 0), (2, .int x1), (3, .int x2)]) hx hb dX12_sheet_88 hl (k := 0) rfl (by decide) (by decide) rfl (fun ls hl => ?_)
                                                  refine lv_goto (tgt := 68) hx hb dX12_sheet_91 (by decide) ?_
                                                  refine lv_iload hx hb dX12_sheet_68 (lv_at hl 0 rfl) ?_
                                                  refine lv_bipush (v := 40) hx hb dX12_sheet_70 (by decide) ?_
                                                  refine lv_icmp_ge (tgt := 94) hx hb dX12_sheet_72 (by decide) (fun c2296 => ?_) (fun c2296 => ?_)
                                                  · exact absurd c2296 (by decide)
                                                  · refine lv_aload_n hx hb dX12_sheet_75 rfl (lv_at hl 1 rfl) ?_
                                                    refine va_get (D := D) (ci := 12) (v := .ref h11) (C := RX12) (T := TX12) (N := 24) hx hb hts hin12 hown hK hP 0 rfl rfl 18 (by decide) (hts (.fieldLink RX12 44 "MissedPointsModel" "items" "[I") (by decide +kernel)) (fun _ h9 => h9) rfl dX12_sheet_76 ?_
                                                    refine lv_bipush (v := 40) hx hb dX12_sheet_79 (by decide) ?_
                                                    refine lv_iload_n hx hb dX12_sheet_81 rfl (lv_at hl 2 rfl) ?_
                                                    refine lv_imul hx hb dX12_sheet_82 ?_
                                                    refine lz_top (y := 0) (by decide) ?_
                                                    refine lv_iload hx hb dX12_sheet_83 (lv_at hl 0 rfl) ?_
                                                    refine lv_iadd hx hb dX12_sheet_85 ?_
                                                    refine lz_top (y := 12) (by decide) ?_
                                                    refine lv_iconst (v := 0) hx hb dX12_sheet_86 (by decide) ?_
                                                    refine lz_astc hx hb hK hP hD hS 3 0 rfl rfl (lz_vp (x := 12) (n := 160) (by decide) (by decide)) dX12_sheet_87 (fun H locs hP hD hS => ?_)
                                                    refine lv_iinc (v := 13) (lv' := [(4, .int 13), (0, .ref h0), (1, .int 0), (2, .int x1), (3, .int x2)]) hx hb dX12_sheet_88 hl (k := 0) rfl (by decide) (by decide) rfl (fun ls hl => ?_)
                                                    refine lv_goto (tgt := 68) hx hb dX12_sheet_91 (by decide) ?_
                                                    refine lv_iload hx hb dX12_sheet_68 (lv_at hl 0 rfl) ?_
                                                    refine lv_bipush (v := 40) hx hb dX12_sheet_70 (by decide) ?_
                                                    refine lv_icmp_ge (tgt := 94) hx hb dX12_sheet_72 (by decide) (fun c2297 => ?_) (fun c2297 => ?_)
                                                    · exact absurd c2297 (by decide)
                                                    · refine lv_aload_n hx hb dX12_sheet_75 rfl (lv_at hl 1 rfl) ?_
                                                      refine va_get (D := D) (ci := 12) (v := .ref h11) (C := RX12) (T := TX12) (N := 24) hx hb hts hin12 hown hK hP 0 rfl rfl 18 (by decide) (hts (.fieldLink RX12 44 "MissedPointsModel" "items" "[I") (by decide +kernel)) (fun _ h9 => h9) rfl dX12_sheet_76 ?_
                                                      refine lv_bipush (v := 40) hx hb dX12_sheet_79 (by decide) ?_
                                                      refine lv_iload_n hx hb dX12_sheet_81 rfl (lv_at hl 2 rfl) ?_
                                                      refine lv_imul hx hb dX12_sheet_82 ?_
                                                      refine lz_top (y := 0) (by decide) ?_
                                                      refine lv_iload hx hb dX12_sheet_83 (lv_at hl 0 rfl) ?_
                                                      refine lv_iadd hx hb dX12_sheet_85 ?_
                                                      refine lz_top (y := 13) (by decide) ?_
                                                      refine lv_iconst (v := 0) hx hb dX12_sheet_86 (by decide) ?_
                                                      refine lz_astc hx hb hK hP hD hS 3 0 rfl rfl (lz_vp (x := 13) (n := 160) (by decide) (by decide)) dX12_sheet_87 (fun H locs hP hD hS => ?_)
                                                      refine lv_iinc (v := 14) (lv' := [(4, .int 14), (0, .ref h0), (1, .int 0), (2, .int x1), (3, .int x2)]) hx hb dX12_sheet_88 hl (k := 0) rfl (by decide) (by decide) rfl (fun ls hl => ?_)
                                                      refine lv_goto (tgt := 68) hx hb dX12_sheet_91 (by decide) ?_
                                                      refine lv_iload hx hb dX12_sheet_68 (lv_at hl 0 rfl) ?_
                                                      refine lv_bipush (v := 40) hx hb dX12_sheet_70 (by decide) ?_
                                                      refine lv_icmp_ge (tgt := 94) hx hb dX12_sheet_72 (by decide) (fun c2298 => ?_) (fun c2298 => ?_)
                                                      · exact absurd c2298 (by decide)
                                                      · refine lv_aload_n hx hb dX12_sheet_75 rfl (lv_at hl 1 rfl) ?_
                                                        refine va_get (D := D) (ci := 12) (v := .ref h11) (C := RX12) (T := TX12) (N := 24) hx hb hts hin12 hown hK hP 0 rfl rfl 18 (by decide) (hts (.fieldLink RX12 44 "MissedPointsModel" "items" "[I") (by decide +kernel)) (fun _ h9 => h9) rfl dX12_sheet_76 ?_
                                                        refine lv_bipush (v := 40) hx hb dX12_sheet_79 (by decide) ?_
                                                        refine lv_iload_n hx hb dX12_sheet_81 rfl (lv_at hl 2 rfl) ?_
                                                        refine lv_imul hx hb dX12_sheet_82 ?_
                                                        refine lz_top (y := 0) (by decide) ?_
                                                        refine lv_iload hx hb dX12_sheet_83 (lv_at hl 0 rfl) ?_
                                                        refine lv_iadd hx hb dX12_sheet_85 ?_
                                                        refine lz_top (y := 14) (by decide) ?_
                                                        refine lv_iconst (v := 0) hx hb dX12_sheet_86 (by decide) ?_
                                                        refine lz_astc hx hb hK hP hD hS 3 0 rfl rfl (lz_vp (x := 14) (n := 160) (by decide) (by decide)) dX12_sheet_87 (fun H locs hP hD hS => ?_)
                                                        refine lv_iinc (v := 15) (lv' := [(4, .int 15), (0, .ref h0), (1, .int 0), (2, .int x1), (3, .int x2)]) hx hb dX12_sheet_88 hl (k := 0) rfl (by decide) (by decide) rfl (fun ls hl => ?_)
                                                        refine lv_goto (tgt := 68) hx hb dX12_sheet_91 (by decide) ?_
                                                        refine lv_iload hx hb dX12_sheet_68 (lv_at hl 0 rfl) ?_
                                                        refine lv_bipush (v := 40) hx hb dX12_sheet_70 (by decide) ?_
                                                        refine lv_icmp_ge (tgt := 94) hx hb dX12_sheet_72 (by decide) (fun c2299 => ?_) (fun c2299 => ?_)
                                                        · exact absurd c2299 (by decide)
                                                        · refine lv_aload_n hx hb dX12_sheet_75 rfl (lv_at hl 1 rfl) ?_
                                                          refine va_get (D := D) (ci := 12) (v := .ref h11) (C := RX12) (T := TX12) (N := 24) hx hb hts hin12 hown hK hP 0 rfl rfl 18 (by decide) (hts (.fieldLink RX12 44 "MissedPointsModel" "items" "[I") (by decide +kernel)) (fun _ h9 => h9) rfl dX12_sheet_76 ?_
                                                          refine lv_bipush (v := 40) hx hb dX12_sheet_79 (by decide) ?_
                                                          refine lv_iload_n hx hb dX12_sheet_81 rfl (lv_at hl 2 rfl) ?_
                                                          refine lv_imul hx hb dX12_sheet_82 ?_
                                                          refine lz_top (y := 0) (by decide) ?_
                                                          refine lv_iload hx hb dX12_sheet_83 (lv_at hl 0 rfl) ?_
                                                          refine lv_iadd hx hb dX12_sheet_85 ?_
                                                          refine lz_top (y := 15) (by decide) ?_
                                                          refine lv_iconst (v := 0) hx hb dX12_sheet_86 (by decide) ?_
                                                          refine lz_astc hx hb hK hP hD hS 3 0 rfl rfl (lz_vp (x := 15) (n := 160) (by decide) (by decide)) dX12_sheet_87 (fun H locs hP hD hS => ?_)
                                                          refine lv_iinc (v := 16) (lv' := [(4, .int 16), (0, .ref h0), (1, .int 0), (2, .int x1), (3, .int x2)]) hx hb dX12_sheet_88 hl (k := 0) rfl (by decide) (by decide) rfl (fun ls hl => ?_)
                                                          refine lv_goto (tgt := 68) hx hb dX12_sheet_91 (by decide) ?_
                                                          refine lv_iload hx hb dX12_sheet_68 (lv_at hl 0 rfl) ?_
                                                          refine lv_bipush (v := 40) hx hb dX12_sheet_70 (by decide) ?_
                                                          refine lv_icmp_ge (tgt := 94) hx hb dX12_sheet_72 (by decide) (fun c2300 => ?_) (fun c2300 => ?_)
                                                          · exact absurd c2300 (by decide)
                                                          · refine lv_aload_n hx hb dX12_sheet_75 rfl (lv_at hl 1 rfl) ?_
                                                            refine va_get (D := D) (ci := 12) (v := .ref h11) (C := RX12) (T := TX12) (N := 24) hx hb hts hin12 hown hK hP 0 rfl rfl 18 (by decide) (hts (.fieldLink RX12 44 "MissedPointsModel" "items" "[I") (by decide +kernel)) (fun _ h9 => h9) rfl dX12_sheet_76 ?_
                                                            refine lv_bipush (v := 40) hx hb dX12_sheet_79 (by decide) ?_
                                                            refine lv_iload_n hx hb dX12_sheet_81 rfl (lv_at hl 2 rfl) ?_
                                                            refine lv_imul hx hb dX12_sheet_82 ?_
                                                            refine lz_top (y := 0) (by decide) ?_
                                                            refine lv_iload hx hb dX12_sheet_83 (lv_at hl 0 rfl) ?_
                                                            refine lv_iadd hx hb dX12_sheet_85 ?_
                                                            refine lz_top (y := 16) (by decide) ?_
                                                            refine lv_iconst (v := 0) hx hb dX12_sheet_86 (by decide) ?_
                                                            refine lz_astc hx hb hK hP hD hS 3 0 rfl rfl (lz_vp (x := 16) (n := 160) (by decide) (by decide)) dX12_sheet_87 (fun H locs hP hD hS => ?_)
                                                            refine lv_iinc (v := 17) (lv' := [(4, .int 17), (0, .ref h0), (1, .int 0), (2, .int x1), (3, .int x2)]) hx hb dX12_sheet_88 hl (k := 0) rfl (by decide) (by decide) rfl (fun ls hl => ?_)
                                                            refine lv_goto (tgt := 68) hx hb dX12_sheet_91 (by decide) ?_
                                                            refine lv_iload hx hb dX12_sheet_68 (lv_at hl 0 rfl) ?_
                                                            refine lv_bipush (v := 40) hx hb dX12_sheet_70 (by decide) ?_
                                                            refine lv_icmp_ge (tgt := 94) hx hb dX12_sheet_72 (by decide) (fun c2301 => ?_) (fun c2301 => ?_)
                                                            · exact absurd c2301 (by decide)
                                                            · refine lv_aload_n hx hb dX12_sheet_75 rfl (lv_at hl 1 rfl) ?_
                                                              refine va_get (D := D) (ci := 12) (v := .ref h11) (C := RX12) (T := TX12) (N := 24) hx hb hts hin12 hown hK hP 0 rfl rfl 18 (by decide) (hts (.fieldLink RX12 44 "MissedPointsModel" "items" "[I") (by decide +kernel)) (fun _ h9 => h9) rfl dX12_sheet_76 ?_
                                                              refine lv_bipush (v := 40) hx hb dX12_sheet_79 (by decide) ?_
                                                              refine lv_iload_n hx hb dX12_sheet_81 rfl (lv_at hl 2 rfl) ?_
                                                              refine lv_imul hx hb dX12_sheet_82 ?_
                                                              refine lz_top (y := 0) (by decide) ?_
                                                              refine lv_iload hx hb dX12_sheet_83 (lv_at hl 0 rfl) ?_
                                                              refine lv_iadd hx hb dX12_sheet_85 ?_
                                                              refine lz_top (y := 17) (by decide) ?_
                                                              refine lv_iconst (v := 0) hx hb dX12_sheet_86 (by decide) ?_
                                                              refine lz_astc hx hb hK hP hD hS 3 0 rfl rfl (lz_vp (x := 17) (n := 160) (by decide) (by decide)) dX12_sheet_87 (fun H locs hP hD hS => ?_)
                                                              refine lv_iinc (v := 18) (lv' := [(4, .int 18), (0, .ref h0), (1, .int 0), (2, .int x1), (3, .int x2)]) hx hb dX12_sheet_88 hl (k := 0) rfl (by decide) (by decide) rfl (fun ls hl => ?_)
                                                              refine lv_goto (tgt := 68) hx hb dX12_sheet_91 (by decide) ?_
                                                              refine lv_iload hx hb dX12_sheet_68 (lv_at hl 0 rfl) ?_
                                                              refine lv_bipush (v := 40) hx hb dX12_sheet_70 (by decide) ?_
                                                              refine lv_icmp_ge (tgt := 94) hx hb dX12_sheet_72 (by decide) (fun c2302 => ?_) (fun c2302 => ?_)
                                                              · exact absurd c2302 (by decide)
                                                              · refine lv_aload_n hx hb dX12_sheet_75 rfl (lv_at hl 1 rfl) ?_
                                                                refine va_get (D := D) (ci := 12) (v := .ref h11) (C := RX12) (T := TX12) (N := 24) hx hb hts hin12 hown hK hP 0 rfl rfl 18 (by decide) (hts (.fieldLink RX12 44 "MissedPointsModel" "items" "[I") (by decide +kernel)) (fun _ h9 => h9) rfl dX12_sheet_76 ?_
                                                                refine lv_bipush (v := 40) hx hb dX12_sheet_79 (by decide) ?_
                                                                refine lv_iload_n hx hb dX12_sheet_81 rfl (lv_at hl 2 rfl) ?_
                                                                refine lv_imul hx hb dX12_sheet_82 ?_
                                                                refine lz_top (y := 0) (by decide) ?_
                                                                refine lv_iload hx hb dX12_sheet_83 (lv_at hl 0 rfl) ?_
                                                                refine lv_iadd hx hb dX12_sheet_85 ?_
                                                                refine lz_top (y := 18) (by decide) ?_
                                                                refine lv_iconst (v := 0) hx hb dX12_sheet_86 (by decide) ?_
                                                                refine lz_astc hx hb hK hP hD hS 3 0 rfl rfl (lz_vp (x := 18) (n := 160) (by decide) (by decide)) dX12_sheet_87 (fun H locs hP hD hS => ?_)
                                                                refine lv_iinc (v := 19) (lv' := [(4, .int 19), (0, .ref h0), (1, .int 0), (2, .int x1), (3, .int x2)]) hx hb dX12_sheet_88 hl (k := 0) rfl (by decide) (by decide) rfl (fun ls hl => ?_)
                                                                refine lv_goto (tgt := 68) hx hb dX12_sheet_91 (by decide) ?_
                                                                refine lv_iload hx hb dX12_sheet_68 (lv_at hl 0 rfl) ?_
                                                                refine lv_bipush (v := 40) hx hb dX12_sheet_70 (by decide) ?_
                                                                refine lv_icmp_ge (tgt := 94) hx hb dX12_sheet_72 (by decide) (fun c2303 => ?_) (fun c2303 => ?_)
                                                                · exact absurd c2303 (by decide)
                                                                · refine lv_aload_n hx hb dX12_sheet_75 rfl (lv_at hl 1 rfl) ?_
                                                                  refine va_get (D := D) (ci := 12) (v := .ref h11) (C := RX12) (T := TX12) (N := 24) hx hb hts hin12 hown hK hP 0 rfl rfl 18 (by decide) (hts (.fieldLink RX12 44 "MissedPointsModel" "items" "[I") (by decide +kernel)) (fun _ h9 => h9) rfl dX12_sheet_76 ?_
                                                                  refine lv_bipush (v := 40) hx hb dX12_sheet_79 (by decide) ?_
                                                                  refine lv_iload_n hx hb dX12_sheet_81 rfl (lv_at hl 2 rfl) ?_
                                                                  refine lv_imul hx hb dX12_sheet_82 ?_
                                                                  refine lz_top (y := 0) (by decide) ?_
                                                                  refine lv_iload hx hb dX12_sheet_83 (lv_at hl 0 rfl) ?_
                                                                  refine lv_iadd hx hb dX12_sheet_85 ?_
                                                                  refine lz_top (y := 19) (by decide) ?_
                                                                  refine lv_iconst (v := 0) hx hb dX12_sheet_86 (by decide) ?_
                                                                  refine lz_astc hx hb hK hP hD hS 3 0 rfl rfl (lz_vp (x := 19) (n := 160) (by decide) (by decide)) dX12_sheet_87 (fun H locs hP hD hS => ?_)
                                                                  refine lv_iinc (v := 20) (lv' := [(4, .int 20), (0, .ref h0), (1, .int 0), (2, .int x1), (3, .int x2)]) hx hb dX12_sheet_88 hl (k := 0) rfl (by decide) (by decide) rfl (fun ls hl => ?_)
                                                                  refine lv_goto (tgt := 68) hx hb dX12_sheet_91 (by decide) ?_
                                                                  refine lv_iload hx hb dX12_sheet_68 (lv_at hl 0 rfl) ?_
                                                                  refine lv_bipush (v := 40) hx hb dX12_sheet_70 (by decide) ?_
                                                                  refine lv_icmp_ge (tgt := 94) hx hb dX12_sheet_72 (by decide) (fun c2304 => ?_) (fun c2304 => ?_)
                                                                  · exact absurd c2304 (by decide)
                                                                  · refine lv_aload_n hx hb dX12_sheet_75 rfl (lv_at hl 1 rfl) ?_
                                                                    refine va_get (D := D) (ci := 12) (v := .ref h11) (C := RX12) (T := TX12) (N := 24) hx hb hts hin12 hown hK hP 0 rfl rfl 18 (by decide) (hts (.fieldLink RX12 44 "MissedPointsModel" "items" "[I") (by decide +kernel)) (fun _ h9 => h9) rfl dX12_sheet_76 ?_
                                                                    refine lv_bipush (v := 40) hx hb dX12_sheet_79 (by decide) ?_
                                                                    refine lv_iload_n hx hb dX12_sheet_81 rfl (lv_at hl 2 rfl) ?_
                                                                    refine lv_imul hx hb dX12_sheet_82 ?_
                                                                    refine lz_top (y := 0) (by decide) ?_
                                                                    refine lv_iload hx hb dX12_sheet_83 (lv_at hl 0 rfl) ?_
                                                                    refine lv_iadd hx hb dX12_sheet_85 ?_
                                                                    refine lz_top (y := 20) (by decide) ?_
                                                                    refine lv_iconst (v := 0) hx hb dX12_sheet_86 (by decide) ?_
                                                                    refine lz_astc hx hb hK hP hD hS 3 0 rfl rfl (lz_vp (x := 20) (n := 160) (by decide) (by decide)) dX12_sheet_87 (fun H locs hP hD hS => ?_)
                                                                    refine lv_iinc (v := 21) (lv' := [(4, .int 21), (0, .ref h0), (1, .int 0), (2, .int x1), (3, .int x2)]) hx hb dX12_sheet_88 hl (k := 0) rfl (by decide) (by decide) rfl (fun ls hl => ?_)
                                                                    refine lv_goto (tgt := 68) hx hb dX12_sheet_91 (by decide) ?_
                                                                    refine lv_iload hx hb dX12_sheet_68 (lv_at hl 0 rfl) ?_
                                                                    refine lv_bipush (v := 40) hx hb dX12_sheet_70 (by decide) ?_
                                                                    refine lv_icmp_ge (tgt := 94) hx hb dX12_sheet_72 (by decide) (fun c2305 => ?_) (fun c2305 => ?_)
                                                                    · exact absurd c2305 (by decide)
                                                                    · refine lv_aload_n hx hb dX12_sheet_75 rfl (lv_at hl 1 rfl) ?_
                                                                      refine va_get (D := D) (ci := 12) (v := .ref h11) (C := RX12) (T := TX12) (N := 24) hx hb hts hin12 hown hK hP 0 rfl rfl 18 (by decide) (hts (.fieldLink RX12 44 "MissedPointsModel" "items" "[I") (by decide +kernel)) (fun _ h9 => h9) rfl dX12_sheet_76 ?_
                                                                      refine lv_bipush (v := 40) hx hb dX12_sheet_79 (by decide) ?_
                                                                      refine lv_iload_n hx hb dX12_sheet_81 rfl (lv_at hl 2 rfl) ?_
                                                                      refine lv_imul hx hb dX12_sheet_82 ?_
                                                                      refine lz_top (y := 0) (by decide) ?_
                                                                      refine lv_iload hx hb dX12_sheet_83 (lv_at hl 0 rfl) ?_
                                                                      refine lv_iadd hx hb dX12_sheet_85 ?_
                                                                      refine lz_top (y := 21) (by decide) ?_
                                                                      refine lv_iconst (v := 0) hx hb dX12_sheet_86 (by decide) ?_
                                                                      refine lz_astc hx hb hK hP hD hS 3 0 rfl rfl (lz_vp (x := 21) (n := 160) (by decide) (by decide)) dX12_sheet_87 (fun H locs hP hD hS => ?_)
                                                                      refine lv_iinc (v := 22) (lv' := [(4, .int 22), (0, .ref h0), (1, .int 0), (2, .int x1), (3, .int x2)]) hx hb dX12_sheet_88 hl (k := 0) rfl (by decide) (by decide) rfl (fun ls hl => ?_)
                                                                      refine lv_goto (tgt := 68) hx hb dX12_sheet_91 (by decide) ?_
                                                                      refine lv_iload hx hb dX12_sheet_68 (lv_at hl 0 rfl) ?_
                                                                      refine lv_bipush (v := 40) hx hb dX12_sheet_70 (by decide) ?_
                                                                      refine lv_icmp_ge (tgt := 94) hx hb dX12_sheet_72 (by decide) (fun c2306 => ?_) (fun c2306 => ?_)
                                                                      · exact absurd c2306 (by decide)
                                                                      · refine lv_aload_n hx hb dX12_sheet_75 rfl (lv_at hl 1 rfl) ?_
                                                                        refine va_get (D := D) (ci := 12) (v := .ref h11) (C := RX12) (T := TX12) (N := 24) hx hb hts hin12 hown hK hP 0 rfl rfl 18 (by decide) (hts (.fieldLink RX12 44 "MissedPointsModel" "items" "[I") (by decide +kernel)) (fun _ h9 => h9) rfl dX12_sheet_76 ?_
                                                                        refine lv_bipush (v := 40) hx hb dX12_sheet_79 (by decide) ?_
                                                                        refine lv_iload_n hx hb dX12_sheet_81 rfl (lv_at hl 2 rfl) ?_
                                                                        refine lv_imul hx hb dX12_sheet_82 ?_
                                                                        refine lz_top (y := 0) (by decide) ?_
                                                                        refine lv_iload hx hb dX12_sheet_83 (lv_at hl 0 rfl) ?_
                                                                        refine lv_iadd hx hb dX12_sheet_85 ?_
                                                                        refine lz_top (y := 22) (by decide) ?_
                                                                        refine lv_iconst (v := 0) hx hb dX12_sheet_86 (by decide) ?_
                                                                        refine lz_astc hx hb hK hP hD hS 3 0 rfl rfl (lz_vp (x := 22) (n := 160) (by decide) (by decide)) dX12_sheet_87 (fun H locs hP hD hS => ?_)
                                                                        refine lv_iinc (v := 23) (lv' := [(4, .int 23), (0, .ref h0), (1, .int 0), (2, .int x1), (3, .int x2)]) hx hb dX12_sheet_88 hl (k := 0) rfl (by decide) (by decide) rfl (fun ls hl => ?_)
                                                                        refine lv_goto (tgt := 68) hx hb dX12_sheet_91 (by decide) ?_
                                                                        refine lv_iload hx hb dX12_sheet_68 (lv_at hl 0 rfl) ?_
                                                                        refine lv_bipush (v := 40) hx hb dX12_sheet_70 (by decide) ?_
                                                                        refine lv_icmp_ge (tgt := 94) hx hb dX12_sheet_72 (by decide) (fun c2307 => ?_) (fun c2307 => ?_)
                                                                        · exact absurd c2307 (by decide)
                                                                        · refine lv_aload_n hx hb dX12_sheet_75 rfl (lv_at hl 1 rfl) ?_
                                                                          refine va_get (D := D) (ci := 12) (v := .ref h11) (C := RX12) (T := TX12) (N := 24) hx hb hts hin12 hown hK hP 0 rfl rfl 18 (by decide) (hts (.fieldLink RX12 44 "MissedPointsModel" "items" "[I") (by decide +kernel)) (fun _ h9 => h9) rfl dX12_sheet_76 ?_
                                                                          refine lv_bipush (v := 40) hx hb dX12_sheet_79 (by decide) ?_
                                                                          refine lv_iload_n hx hb dX12_sheet_81 rfl (lv_at hl 2 rfl) ?_
                                                                          refine lv_imul hx hb dX12_sheet_82 ?_
                                                                          refine lz_top (y := 0) (by decide) ?_
                                                                          refine lv_iload hx hb dX12_sheet_83 (lv_at hl 0 rfl) ?_
                                                                          refine lv_iadd hx hb dX12_sheet_85 ?_
                                                                          refine lz_top (y := 23) (by decide) ?_
                                                                          refine lv_iconst (v := 0) hx hb dX12_sheet_86 (by decide) ?_
                                                                          refine lz_astc hx hb hK hP hD hS 3 0 rfl rfl (lz_vp (x := 23) (n := 160) (by decide) (by decide)) dX12_sheet_87 (fun H locs hP hD hS => ?_)
                                                                          refine lv_iinc (v := 24) (lv' := [(4, .int 24), (0, .ref h0), (1, .int 0), (2, .int x1), (3, .int x2)]) hx hb dX12_sheet_88 hl (k := 0) rfl (by decide) (by decide) rfl (fun ls hl => ?_)
                                                                          refine lv_goto (tgt := 68) hx hb dX12_sheet_91 (by decide) ?_
                                                                          refine lv_iload hx hb dX12_sheet_68 (lv_at hl 0 rfl) ?_
                                                                          refine lv_bipush (v := 40) hx hb dX12_sheet_70 (by decide) ?_
                                                                          refine lv_icmp_ge (tgt := 94) hx hb dX12_sheet_72 (by decide) (fun c2308 => ?_) (fun c2308 => ?_)
                                                                          · exact absurd c2308 (by decide)
                                                                          · refine lv_aload_n hx hb dX12_sheet_75 rfl (lv_at hl 1 rfl) ?_
                                                                            refine va_get (D := D) (ci := 12) (v := .ref h11) (C := RX12) (T := TX12) (N := 24) hx hb hts hin12 hown hK hP 0 rfl rfl 18 (by decide) (hts (.fieldLink RX12 44 "MissedPointsModel" "items" "[I") (by decide +kernel)) (fun _ h9 => h9) rfl dX12_sheet_76 ?_
                                                                            refine lv_bipush (v := 40) hx hb dX12_sheet_79 (by decide) ?_
                                                                            refine lv_iload_n hx hb dX12_sheet_81 rfl (lv_at hl 2 rfl) ?_
                                                                            refine lv_imul hx hb dX12_sheet_82 ?_
                                                                            refine lz_top (y := 0) (by decide) ?_
                                                                            refine lv_iload hx hb dX12_sheet_83 (lv_at hl 0 rfl) ?_
                                                                            refine lv_iadd hx hb dX12_sheet_85 ?_
                                                                            refine lz_top (y := 24) (by decide) ?_
                                                                            refine lv_iconst (v := 0) hx hb dX12_sheet_86 (by decide) ?_
                                                                            refine lz_astc hx hb hK hP hD hS 3 0 rfl rfl (lz_vp (x := 24) (n := 160) (by decide) (by decide)) dX12_sheet_87 (fun H locs hP hD hS => ?_)
                                                                            refine lv_iinc (v := 25) (lv' := [(4, .int 25), (0, .ref h0), (1, .int 0), (2, .int x1), (3, .int x2)]) hx hb dX12_sheet_88 hl (k := 0) rfl (by decide) (by decide) rfl (fun ls hl => ?_)
                                                                            refine lv_goto (tgt := 68) hx hb dX12_sheet_91 (by decide) ?_
                                                                            refine lv_iload hx hb dX12_sheet_68 (lv_at hl 0 rfl) ?_
                                                                            refine lv_bipush (v := 40) hx hb dX12_sheet_70 (by decide) ?_
                                                                            refine lv_icmp_ge (tgt := 94) hx hb dX12_sheet_72 (by decide) (fun c2309 => ?_) (fun c2309 => ?_)
                                                                            · exact absurd c2309 (by decide)
                                                                            · refine lv_aload_n hx hb dX12_sheet_75 rfl (lv_at hl 1 rfl) ?_
                                                                              refine va_get (D := D) (ci := 12) (v := .ref h11) (C := RX12) (T := TX12) (N := 24) hx hb hts hin12 hown hK hP 0 rfl rfl 18 (by decide) (hts (.fieldLink RX12 44 "MissedPointsModel" "items" "[I") (by decide +kernel)) (fun _ h9 => h9) rfl dX12_sheet_76 ?_
                                                                              refine lv_bipush (v := 40) hx hb dX12_sheet_79 (by decide) ?_
                                                                              refine lv_iload_n hx hb dX12_sheet_81 rfl (lv_at hl 2 rfl) ?_
                                                                              refine lv_imul hx hb dX12_sheet_82 ?_
                                                                              refine lz_top (y := 0) (by decide) ?_
                                                                              refine lv_iload hx hb dX12_sheet_83 (lv_at hl 0 rfl) ?_
                                                                              refine lv_iadd hx hb dX12_sheet_85 ?_
                                                                              refine lz_top (y := 25) (by decide) ?_
                                                                              refine lv_iconst (v := 0) hx hb dX12_sheet_86 (by decide) ?_
                                                                              refine lz_astc hx hb hK hP hD hS 3 0 rfl rfl (lz_vp (x := 25) (n := 160) (by decide) (by decide)) dX12_sheet_87 (fun H locs hP hD hS => ?_)
                                                                              refine lv_iinc (v := 26) (lv' := [(4, .int 26), (0, .ref h0), (1, .int 0), (2, .int x1), (3, .int x2)]) hx hb dX12_sheet_88 hl (k := 0) rfl (by decide) (by decide) rfl (fun ls hl => ?_)
                                                                              refine lv_goto (tgt := 68) hx hb dX12_sheet_91 (by decide) ?_
                                                                              refine lv_iload hx hb dX12_sheet_68 (lv_at hl 0 rfl) ?_
                                                                              refine lv_bipush (v := 40) hx hb dX12_sheet_70 (by decide) ?_
                                                                              refine lv_icmp_ge (tgt := 94) hx hb dX12_sheet_72 (by decide) (fun c2310 => ?_) (fun c2310 => ?_)
                                                                              · exact absurd c2310 (by decide)
                                                                              · refine lv_aload_n hx hb dX12_sheet_75 rfl (lv_at hl 1 rfl) ?_
                                                                                refine va_get (D := D) (ci := 12) (v := .ref h11) (C := RX12) (T := TX12) (N := 24) hx hb hts hin12 hown hK hP 0 rfl rfl 18 (by decide) (hts (.fieldLink RX12 44 "MissedPointsModel" "items" "[I") (by decide +kernel)) (fun _ h9 => h9) rfl dX12_sheet_76 ?_
                                                                                refine lv_bipush (v := 40) hx hb dX12_sheet_79 (by decide) ?_
                                                                                refine lv_iload_n hx hb dX12_sheet_81 rfl (lv_at hl 2 rfl) ?_
                                                                                refine lv_imul hx hb dX12_sheet_82 ?_
                                                                                refine lz_top (y := 0) (by decide) ?_
                                                                                refine lv_iload hx hb dX12_sheet_83 (lv_at hl 0 rfl) ?_
                                                                                refine lv_iadd hx hb dX12_sheet_85 ?_
                                                                                refine lz_top (y := 26) (by decide) ?_
                                                                                refine lv_iconst (v := 0) hx hb dX12_sheet_86 (by decide) ?_
                                                                                refine lz_astc hx hb hK hP hD hS 3 0 rfl rfl (lz_vp (x := 26) (n := 160) (by decide) (by decide)) dX12_sheet_87 (fun H locs hP hD hS => ?_)
                                                                                refine lv_iinc (v := 27) (lv' := [(4, .int 27), (0, .ref h0), (1, .int 0), (2, .int x1), (3, .int x2)]) hx hb dX12_sheet_88 hl (k := 0) rfl (by decide) (by decide) rfl (fun ls hl => ?_)
                                                                                refine lv_goto (tgt := 68) hx hb dX12_sheet_91 (by decide) ?_
                                                                                refine lv_iload hx hb dX12_sheet_68 (lv_at hl 0 rfl) ?_
                                                                                refine lv_bipush (v := 40) hx hb dX12_sheet_70 (by decide) ?_
                                                                                refine lv_icmp_ge (tgt := 94) hx hb dX12_sheet_72 (by decide) (fun c2311 => ?_) (fun c2311 => ?_)
                                                                                · exact absurd c2311 (by decide)
                                                                                · refine lv_aload_n hx hb dX12_sheet_75 rfl (lv_at hl 1 rfl) ?_
                                                                                  refine va_get (D := D) (ci := 12) (v := .ref h11) (C := RX12) (T := TX12) (N := 24) hx hb hts hin12 hown hK hP 0 rfl rfl 18 (by decide) (hts (.fieldLink RX12 44 "MissedPointsModel" "items" "[I") (by decide +kernel)) (fun _ h9 => h9) rfl dX12_sheet_76 ?_
                                                                                  refine lv_bipush (v := 40) hx hb dX12_sheet_79 (by decide) ?_
                                                                                  refine lv_iload_n hx hb dX12_sheet_81 rfl (lv_at hl 2 rfl) ?_
                                                                                  refine lv_imul hx hb dX12_sheet_82 ?_
                                                                                  refine lz_top (y := 0) (by decide) ?_
                                                                                  refine lv_iload hx hb dX12_sheet_83 (lv_at hl 0 rfl) ?_
                                                                                  refine lv_iadd hx hb dX12_sheet_85 ?_
                                                                                  refine lz_top (y := 27) (by decide) ?_
                                                                                  refine lv_iconst (v := 0) hx hb dX12_sheet_86 (by decide) ?_
                                                                                  refine lz_astc hx hb hK hP hD hS 3 0 rfl rfl (lz_vp (x := 27) (n := 160) (by decide) (by decide)) dX12_sheet_87 (fun H locs hP hD hS => ?_)
                                                                                  refine lv_iinc (v := 28) (lv' := [(4, .int 28), (0, .ref h0), (1, .int 0), (2, .int x1), (3, .int x2)]) hx hb dX12_sheet_88 hl (k := 0) rfl (by decide) (by decide) rfl (fun ls hl => ?_)
                                                                                  refine lv_goto (tgt := 68) hx hb dX12_sheet_91 (by decide) ?_
                                                                                  refine lv_iload hx hb dX12_sheet_68 (lv_at hl 0 rfl) ?_
                                                                                  refine lv_bipush (v := 40) hx hb dX12_sheet_70 (by decide) ?_
                                                                                  refine lv_icmp_ge (tgt := 94) hx hb dX12_sheet_72 (by decide) (fun c2312 => ?_) (fun c2312 => ?_)
                                                                                  · exact absurd c2312 (by decide)
                                                                                  · refine lv_aload_n hx hb dX12_sheet_75 rfl (lv_at hl 1 rfl) ?_
                                                                                    refine va_get (D := D) (ci := 12) (v := .ref h11) (C := RX12) (T := TX12) (N := 24) hx hb hts hin12 hown hK hP 0 rfl rfl 18 (by decide) (hts (.fieldLink RX12 44 "MissedPointsModel" "items" "[I") (by decide +kernel)) (fun _ h9 => h9) rfl dX12_sheet_76 ?_
                                                                                    refine lv_bipush (v := 40) hx hb dX12_sheet_79 (by decide) ?_
                                                                                    refine lv_iload_n hx hb dX12_sheet_81 rfl (lv_at hl 2 rfl) ?_
                                                                                    refine lv_imul hx hb dX12_sheet_82 ?_
                                                                                    refine lz_top (y := 0) (by decide) ?_
                                                                                    refine lv_iload hx hb dX12_sheet_83 (lv_at hl 0 rfl) ?_
                                                                                    refine lv_iadd hx hb dX12_sheet_85 ?_
                                                                                    refine lz_top (y := 28) (by decide) ?_
                                                                                    refine lv_iconst (v := 0) hx hb dX12_sheet_86 (by decide) ?_
                                                                                    refine lz_astc hx hb hK hP hD hS 3 0 rfl rfl (lz_vp (x := 28) (n := 160) (by decide) (by decide)) dX12_sheet_87 (fun H locs hP hD hS => ?_)
                                                                                    refine lv_iinc (v := 29) (lv' := [(4, .int 29), (0, .ref h0), (1, .int 0), (2, .int x1), (3, .int x2)]) hx hb dX12_sheet_88 hl (k := 0) rfl (by decide) (by decide) rfl (fun ls hl => ?_)
                                                                                    refine lv_goto (tgt := 68) hx hb dX12_sheet_91 (by decide) ?_
                                                                                    refine lv_iload hx hb dX12_sheet_68 (lv_at hl 0 rfl) ?_
                                                                                    refine lv_bipush (v := 40) hx hb dX12_sheet_70 (by decide) ?_
                                                                                    refine lv_icmp_ge (tgt := 94) hx hb dX12_sheet_72 (by decide) (fun c2313 => ?_) (fun c2313 => ?_)
                                                                                    · exact absurd c2313 (by decide)
                                                                                    · refine lv_aload_n hx hb dX12_sheet_75 rfl (lv_at hl 1 rfl) ?_
                                                                                      refine va_get (D := D) (ci := 12) (v := .ref h11) (C := RX12) (T := TX12) (N := 24) hx hb hts hin12 hown hK hP 0 rfl rfl 18 (by decide) (hts (.fieldLink RX12 44 "MissedPointsModel" "items" "[I") (by decide +kernel)) (fun _ h9 => h9) rfl dX12_sheet_76 ?_
                                                                                      refine lv_bipush (v := 40) hx hb dX12_sheet_79 (by decide) ?_
                                                                                      refine lv_iload_n hx hb dX12_sheet_81 rfl (lv_at hl 2 rfl) ?_
                                                                                      refine lv_imul hx hb dX12_sheet_82 ?_
                                                                                      refine lz_top (y := 0) (by decide) ?_
                                                                                      refine lv_iload hx hb dX12_sheet_83 (lv_at hl 0 rfl) ?_
                                                                                      refine lv_iadd hx hb dX12_sheet_85 ?_
                                                                                      refine lz_top (y := 29) (by decide) ?_
                                                                                      refine lv_iconst (v := 0) hx hb dX12_sheet_86 (by decide) ?_
                                                                                      refine lz_astc hx hb hK hP hD hS 3 0 rfl rfl (lz_vp (x := 29) (n := 160) (by decide) (by decide)) dX12_sheet_87 (fun H locs hP hD hS => ?_)
                                                                                      refine lv_iinc (v := 30) (lv' := [(4, .int 30), (0, .ref h0), (1, .int 0), (2, .int x1), (3, .int x2)]) hx hb dX12_sheet_88 hl (k := 0) rfl (by decide) (by decide) rfl (fun ls hl => ?_)
                                                                                      refine lv_goto (tgt := 68) hx hb dX12_sheet_91 (by decide) ?_
                                                                                      refine lv_iload hx hb dX12_sheet_68 (lv_at hl 0 rfl) ?_
                                                                                      refine lv_bipush (v := 40) hx hb dX12_sheet_70 (by decide) ?_
                                                                                      refine lv_icmp_ge (tgt := 94) hx hb dX12_sheet_72 (by decide) (fun c2314 => ?_) (fun c2314 => ?_)
                                                                                      · exact absurd c2314 (by decide)
                                                                                      · refine lv_aload_n hx hb dX12_sheet_75 rfl (lv_at hl 1 rfl) ?_
                                                                                        refine va_get (D := D) (ci := 12) (v := .ref h11) (C := RX12) (T := TX12) (N := 24) hx hb hts hin12 hown hK hP 0 rfl rfl 18 (by decide) (hts (.fieldLink RX12 44 "MissedPointsModel" "items" "[I") (by decide +kernel)) (fun _ h9 => h9) rfl dX12_sheet_76 ?_
                                                                                        refine lv_bipush (v := 40) hx hb dX12_sheet_79 (by decide) ?_
                                                                                        refine lv_iload_n hx hb dX12_sheet_81 rfl (lv_at hl 2 rfl) ?_
                                                                                        refine lv_imul hx hb dX12_sheet_82 ?_
                                                                                        refine lz_top (y := 0) (by decide) ?_
                                                                                        refine lv_iload hx hb dX12_sheet_83 (lv_at hl 0 rfl) ?_
                                                                                        refine lv_iadd hx hb dX12_sheet_85 ?_
                                                                                        refine lz_top (y := 30) (by decide) ?_
                                                                                        refine lv_iconst (v := 0) hx hb dX12_sheet_86 (by decide) ?_
                                                                                        refine lz_astc hx hb hK hP hD hS 3 0 rfl rfl (lz_vp (x := 30) (n := 160) (by decide) (by decide)) dX12_sheet_87 (fun H locs hP hD hS => ?_)
                                                                                        refine lv_iinc (v := 31) (lv' := [(4, .int 31), (0, .ref h0), (1, .int 0), (2, .int x1), (3, .int x2)]) hx hb dX12_sheet_88 hl (k := 0) rfl (by decide) (by decide) rfl (fun ls hl => ?_)
                                                                                        refine lv_goto (tgt := 68) hx hb dX12_sheet_91 (by decide) ?_
                                                                                        refine lv_iload hx hb dX12_sheet_68 (lv_at hl 0 rfl) ?_
                                                                                        refine lv_bipush (v := 40) hx hb dX12_sheet_70 (by decide) ?_
                                                                                        refine lv_icmp_ge (tgt := 94) hx hb dX12_sheet_72 (by decide) (fun c2315 => ?_) (fun c2315 => ?_)
                                                                                        · exact absurd c2315 (by decide)
                                                                                        · refine lv_aload_n hx hb dX12_sheet_75 rfl (lv_at hl 1 rfl) ?_
                                                                                          refine va_get (D := D) (ci := 12) (v := .ref h11) (C := RX12) (T := TX12) (N := 24) hx hb hts hin12 hown hK hP 0 rfl rfl 18 (by decide) (hts (.fieldLink RX12 44 "MissedPointsModel" "items" "[I") (by decide +kernel)) (fun _ h9 => h9) rfl dX12_sheet_76 ?_
                                                                                          refine lv_bipush (v := 40) hx hb dX12_sheet_79 (by decide) ?_
                                                                                          refine lv_iload_n hx hb dX12_sheet_81 rfl (lv_at hl 2 rfl) ?_
                                                                                          refine lv_imul hx hb dX12_sheet_82 ?_
                                                                                          refine lz_top (y := 0) (by decide) ?_
                                                                                          refine lv_iload hx hb dX12_sheet_83 (lv_at hl 0 rfl) ?_
                                                                                          refine lv_iadd hx hb dX12_sheet_85 ?_
                                                                                          refine lz_top (y := 31) (by decide) ?_
                                                                                          refine lv_iconst (v := 0) hx hb dX12_sheet_86 (by decide) ?_
                                                                                          refine lz_astc hx hb hK hP hD hS 3 0 rfl rfl (lz_vp (x := 31) (n := 160) (by decide) (by decide)) dX12_sheet_87 (fun H locs hP hD hS => ?_)
                                                                                          refine lv_iinc (v := 32) (lv' := [(4, .int 32), (0, .ref h0), (1, .int 0), (2, .int x1), (3, .int x2)]) hx hb dX12_sheet_88 hl (k := 0) rfl (by decide) (by decide) rfl (fun ls hl => ?_)
                                                                                          refine lv_goto (tgt := 68) hx hb dX12_sheet_91 (by decide) ?_
                                                                                          refine lv_iload hx hb dX12_sheet_68 (lv_at hl 0 rfl) ?_
                                                                                          refine lv_bipush (v := 40) hx hb dX12_sheet_70 (by decide) ?_
                                                                                          refine lv_icmp_ge (tgt := 94) hx hb dX12_sheet_72 (by decide) (fun c2316 => ?_) (fun c2316 => ?_)
                                                                                          · exact absurd c2316 (by decide)
                                                                                          · refine lv_aload_n hx hb dX12_sheet_75 rfl (lv_at hl 1 rfl) ?_
                                                                                            refine va_get (D := D) (ci := 12) (v := .ref h11) (C := RX12) (T := TX12) (N := 24) hx hb hts hin12 hown hK hP 0 rfl rfl 18 (by decide) (hts (.fieldLink RX12 44 "MissedPointsModel" "items" "[I") (by decide +kernel)) (fun _ h9 => h9) rfl dX12_sheet_76 ?_
                                                                                            refine lv_bipush (v := 40) hx hb dX12_sheet_79 (by decide) ?_
                                                                                            refine lv_iload_n hx hb dX12_sheet_81 rfl (lv_at hl 2 rfl) ?_
                                                                                            refine lv_imul hx hb dX12_sheet_82 ?_
                                                                                            refine lz_top (y := 0) (by decide) ?_
                                                                                            refine lv_iload hx hb dX12_sheet_83 (lv_at hl 0 rfl) ?_
                                                                                            refine lv_iadd hx hb dX12_sheet_85 ?_
                                                                                            refine lz_top (y := 32) (by decide) ?_
                                                                                            refine lv_iconst (v := 0) hx hb dX12_sheet_86 (by decide) ?_
                                                                                            refine lz_astc hx hb hK hP hD hS 3 0 rfl rfl (lz_vp (x := 32) (n := 160) (by decide) (by decide)) dX12_sheet_87 (fun H locs hP hD hS => ?_)
                                                                                            refine lv_iinc (v := 33) (lv' := [(4, .int 33), (0, .ref h0), (1, .int 0), (2, .int x1), (3, .int x2)]) hx hb dX12_sheet_88 hl (k := 0) rfl (by decide) (by decide) rfl (fun ls hl => ?_)
                                                                                            refine lv_goto (tgt := 68) hx hb dX12_sheet_91 (by decide) ?_
                                                                                            refine lv_iload hx hb dX12_sheet_68 (lv_at hl 0 rfl) ?_
                                                                                            refine lv_bipush (v := 40) hx hb dX12_sheet_70 (by decide) ?_
                                                                                            refine lv_icmp_ge (tgt := 94) hx hb dX12_sheet_72 (by decide) (fun c2317 => ?_) (fun c2317 => ?_)
                                                                                            · exact absurd c2317 (by decide)
                                                                                            · refine lv_aload_n hx hb dX12_sheet_75 rfl (lv_at hl 1 rfl) ?_
                                                                                              refine va_get (D := D) (ci := 12) (v := .ref h11) (C := RX12) (T := TX12) (N := 24) hx hb hts hin12 hown hK hP 0 rfl rfl 18 (by decide) (hts (.fieldLink RX12 44 "MissedPointsModel" "items" "[I") (by decide +kernel)) (fun _ h9 => h9) rfl dX12_sheet_76 ?_
                                                                                              refine lv_bipush (v := 40) hx hb dX12_sheet_79 (by decide) ?_
                                                                                              refine lv_iload_n hx hb dX12_sheet_81 rfl (lv_at hl 2 rfl) ?_
                                                                                              refine lv_imul hx hb dX12_sheet_82 ?_
                                                                                              refine lz_top (y := 0) (by decide) ?_
                                                                                              refine lv_iload hx hb dX12_sheet_83 (lv_at hl 0 rfl) ?_
                                                                                              refine lv_iadd hx hb dX12_sheet_85 ?_
                                                                                              refine lz_top (y := 33) (by decide) ?_
                                                                                              refine lv_iconst (v := 0) hx hb dX12_sheet_86 (by decide) ?_
                                                                                              refine lz_astc hx hb hK hP hD hS 3 0 rfl rfl (lz_vp (x := 33) (n := 160) (by decide) (by decide)) dX12_sheet_87 (fun H locs hP hD hS => ?_)
                                                                                              refine lv_iinc (v := 34) (lv' := [(4, .int 34), (0, .ref h0), (1, .int 0), (2, .int x1), (3, .int x2)]) hx hb dX12_sheet_88 hl (k := 0) rfl (by decide) (by decide) rfl (fun ls hl => ?_)
                                                                                              refine lv_goto (tgt := 68) hx hb dX12_sheet_91 (by decide) ?_
                                                                                              refine lv_iload hx hb dX12_sheet_68 (lv_at hl 0 rfl) ?_
                                                                                              refine lv_bipush (v := 40) hx hb dX12_sheet_70 (by decide) ?_
                                                                                              refine lv_icmp_ge (tgt := 94) hx hb dX12_sheet_72 (by decide) (fun c2318 => ?_) (fun c2318 => ?_)
                                                                                              · exact absurd c2318 (by decide)
                                                                                              · refine lv_aload_n hx hb dX12_sheet_75 rfl (lv_at hl 1 rfl) ?_
                                                                                                refine va_get (D := D) (ci := 12) (v := .ref h11) (C := RX12) (T := TX12) (N := 24) hx hb hts hin12 hown hK hP 0 rfl rfl 18 (by decide) (hts (.fieldLink RX12 44 "MissedPointsModel" "items" "[I") (by decide +kernel)) (fun _ h9 => h9) rfl dX12_sheet_76 ?_
                                                                                                refine lv_bipush (v := 40) hx hb dX12_sheet_79 (by decide) ?_
                                                                                                refine lv_iload_n hx hb dX12_sheet_81 rfl (lv_at hl 2 rfl) ?_
                                                                                                refine lv_imul hx hb dX12_sheet_82 ?_
                                                                                                refine lz_top (y := 0) (by decide) ?_
                                                                                                refine lv_iload hx hb dX12_sheet_83 (lv_at hl 0 rfl) ?_
                                                                                                refine lv_iadd hx hb dX12_sheet_85 ?_
                                                                                                refine lz_top (y := 34) (by decide) ?_
                                                                                                refine lv_iconst (v := 0) hx hb dX12_sheet_86 (by decide) ?_
                                                                                                refine lz_astc hx hb hK hP hD hS 3 0 rfl rfl (lz_vp (x := 34) (n := 160) (by decide) (by decide)) dX12_sheet_87 (fun H locs hP hD hS => ?_)
                                                                                                refine lv_iinc (v := 35) (lv' := [(4, .int 35), (0, .ref h0), (1, .int 0), (2, .int x1), (3, .int x2)]) hx hb dX12_sheet_88 hl (k := 0) rfl (by decide) (by decide) rfl (fun ls hl => ?_)
                                                                                                refine lv_goto (tgt := 68) hx hb dX12_sheet_91 (by decide) ?_
                                                                                                refine lv_iload hx hb dX12_sheet_68 (lv_at hl 0 rfl) ?_
                                                                                                refine lv_bipush (v := 40) hx hb dX12_sheet_70 (by decide) ?_
                                                                                                refine lv_icmp_ge (tgt := 94) hx hb dX12_sheet_72 (by decide) (fun c2319 => ?_) (fun c2319 => ?_)
                                                                                                · exact absurd c2319 (by decide)
                                                                                                · refine lv_aload_n hx hb dX12_sheet_75 rfl (lv_at hl 1 rfl) ?_
                                                                                                  refine va_get (D := D) (ci := 12) (v := .ref h11) (C := RX12) (T := TX12) (N := 24) hx hb hts hin12 hown hK hP 0 rfl rfl 18 (by decide) (hts (.fieldLink RX12 44 "MissedPointsModel" "items" "[I") (by decide +kernel)) (fun _ h9 => h9) rfl dX12_sheet_76 ?_
                                                                                                  refine lv_bipush (v := 40) hx hb dX12_sheet_79 (by decide) ?_
                                                                                                  refine lv_iload_n hx hb dX12_sheet_81 rfl (lv_at hl 2 rfl) ?_
                                                                                                  refine lv_imul hx hb dX12_sheet_82 ?_
                                                                                                  refine lz_top (y := 0) (by decide) ?_
                                                                                                  refine lv_iload hx hb dX12_sheet_83 (lv_at hl 0 rfl) ?_
                                                                                                  refine lv_iadd hx hb dX12_sheet_85 ?_
                                                                                                  refine lz_top (y := 35) (by decide) ?_
                                                                                                  refine lv_iconst (v := 0) hx hb dX12_sheet_86 (by decide) ?_
                                                                                                  refine lz_astc hx hb hK hP hD hS 3 0 rfl rfl (lz_vp (x := 35) (n := 160) (by decide) (by decide)) dX12_sheet_87 (fun H locs hP hD hS => ?_)
                                                                                                  refine lv_iinc (v := 36) (lv' := [(4, .int 36), (0, .ref h0), (1, .int 0), (2, .int x1), (3, .int x2)]) hx hb dX12_sheet_88 hl (k := 0) rfl (by decide) (by decide) rfl (fun ls hl => ?_)
                                                                                                  refine lv_goto (tgt := 68) hx hb dX12_sheet_91 (by decide) ?_
                                                                                                  refine lv_iload hx hb dX12_sheet_68 (lv_at hl 0 rfl) ?_
                                                                                                  refine lv_bipush (v := 40) hx hb dX12_sheet_70 (by decide) ?_
                                                                                                  refine lv_icmp_ge (tgt := 94) hx hb dX12_sheet_72 (by decide) (fun c2320 => ?_) (fun c2320 => ?_)
                                                                                                  · exact absurd c2320 (by decide)
                                                                                                  · refine lv_aload_n hx hb dX12_sheet_75 rfl (lv_at hl 1 rfl) ?_
                                                                                                    refine va_get (D := D) (ci := 12) (v := .ref h11) (C := RX12) (T := TX12) (N := 24) hx hb hts hin12 hown hK hP 0 rfl rfl 18 (by decide) (hts (.fieldLink RX12 44 "MissedPointsModel" "items" "[I") (by decide +kernel)) (fun _ h9 => h9) rfl dX12_sheet_76 ?_
                                                                                                    refine lv_bipush (v := 40) hx hb dX12_sheet_79 (by decide) ?_
                                                                                                    refine lv_iload_n hx hb dX12_sheet_81 rfl (lv_at hl 2 rfl) ?_
                                                                                                    refine lv_imul hx hb dX12_sheet_82 ?_
                                                                                                    refine lz_top (y := 0) (by decide) ?_
                                                                                                    refine lv_iload hx hb dX12_sheet_83 (lv_at hl 0 rfl) ?_
                                                                                                    refine lv_iadd hx hb dX12_sheet_85 ?_
                                                                                                    refine lz_top (y := 36) (by decide) ?_
                                                                                                    refine lv_iconst (v := 0) hx hb dX12_sheet_86 (by decide) ?_
                                                                                                    refine lz_astc hx hb hK hP hD hS 3 0 rfl rfl (lz_vp (x := 36) (n := 160) (by decide) (by decide)) dX12_sheet_87 (fun H locs hP hD hS => ?_)
                                                                                                    refine lv_iinc (v := 37) (lv' := [(4, .int 37), (0, .ref h0), (1, .int 0), (2, .int x1), (3, .int x2)]) hx hb dX12_sheet_88 hl (k := 0) rfl (by decide) (by decide) rfl (fun ls hl => ?_)
                                                                                                    refine lv_goto (tgt := 68) hx hb dX12_sheet_91 (by decide) ?_
                                                                                                    refine lv_iload hx hb dX12_sheet_68 (lv_at hl 0 rfl) ?_
                                                                                                    refine lv_bipush (v := 40) hx hb dX12_sheet_70 (by decide) ?_
                                                                                                    refine lv_icmp_ge (tgt := 94) hx hb dX12_sheet_72 (by decide) (fun c2321 => ?_) (fun c2321 => ?_)
                                                                                                    · exact absurd c2321 (by decide)
                                                                                                    · refine lv_aload_n hx hb dX12_sheet_75 rfl (lv_at hl 1 rfl) ?_
                                                                                                      refine va_get (D := D) (ci := 12) (v := .ref h11) (C := RX12) (T := TX12) (N := 24) hx hb hts hin12 hown hK hP 0 rfl rfl 18 (by decide) (hts (.fieldLink RX12 44 "MissedPointsModel" "items" "[I") (by decide +kernel)) (fun _ h9 => h9) rfl dX12_sheet_76 ?_
                                                                                                      refine lv_bipush (v := 40) hx hb dX12_sheet_79 (by decide) ?_
                                                                                                      refine lv_iload_n hx hb dX12_sheet_81 rfl (lv_at hl 2 rfl) ?_
                                                                                                      refine lv_imul hx hb dX12_sheet_82 ?_
                                                                                                      refine lz_top (y := 0) (by decide) ?_
                                                                                                      refine lv_iload hx hb dX12_sheet_83 (lv_at hl 0 rfl) ?_
                                                                                                      refine lv_iadd hx hb dX12_sheet_85 ?_
                                                                                                      refine lz_top (y := 37) (by decide) ?_
                                                                                                      refine lv_iconst (v := 0) hx hb dX12_sheet_86 (by decide) ?_
                                                                                                      refine lz_astc hx hb hK hP hD hS 3 0 rfl rfl (lz_vp (x := 37) (n := 160) (by decide) (by decide)) dX12_sheet_87 (fun H locs hP hD hS => ?_)
                                                                                                      refine lv_iinc (v := 38) (lv' := [(4, .int 38), (0, .ref h0), (1, .int 0), (2, .int x1), (3, .int x2)]) hx hb dX12_sheet_88 hl (k := 0) rfl (by decide) (by decide) rfl (fun ls hl => ?_)
                                                                                                      refine lv_goto (tgt := 68) hx hb dX12_sheet_91 (by decide) ?_
                                                                                                      refine lv_iload hx hb dX12_sheet_68 (lv_at hl 0 rfl) ?_
                                                                                                      refine lv_bipush (v := 40) hx hb dX12_sheet_70 (by decide) ?_
                                                                                                      refine lv_icmp_ge (tgt := 94) hx hb dX12_sheet_72 (by decide) (fun c2322 => ?_) (fun c2322 => ?_)
                                                                                                      · exact absurd c2322 (by decide)
                                                                                                      · refine lv_aload_n hx hb dX12_sheet_75 rfl (lv_at hl 1 rfl) ?_
                                                                                                        refine va_get (D := D) (ci := 12) (v := .ref h11) (C := RX12) (T := TX12) (N := 24) hx hb hts hin12 hown hK hP 0 rfl rfl 18 (by decide) (hts (.fieldLink RX12 44 "MissedPointsModel" "items" "[I") (by decide +kernel)) (fun _ h9 => h9) rfl dX12_sheet_76 ?_
                                                                                                        refine lv_bipush (v := 40) hx hb dX12_sheet_79 (by decide) ?_
                                                                                                        refine lv_iload_n hx hb dX12_sheet_81 rfl (lv_at hl 2 rfl) ?_
                                                                                                        refine lv_imul hx hb dX12_sheet_82 ?_
                                                                                                        refine lz_top (y := 0) (by decide) ?_
                                                                                                        refine lv_iload hx hb dX12_sheet_83 (lv_at hl 0 rfl) ?_
                                                                                                        refine lv_iadd hx hb dX12_sheet_85 ?_
                                                                                                        refine lz_top (y := 38) (by decide) ?_
                                                                                                        refine lv_iconst (v := 0) hx hb dX12_sheet_86 (by decide) ?_
                                                                                                        refine lz_astc hx hb hK hP hD hS 3 0 rfl rfl (lz_vp (x := 38) (n := 160) (by decide) (by decide)) dX12_sheet_87 (fun H locs hP hD hS => ?_)
                                                                                                        refine lv_iinc (v := 39) (lv' := [(4, .int 39), (0, .ref h0), (1, .int 0), (2, .int x1), (3, .int x2)]) hx hb dX12_sheet_88 hl (k := 0) rfl (by decide) (by decide) rfl (fun ls hl => ?_)
                                                                                                        refine lv_goto (tgt := 68) hx hb dX12_sheet_91 (by decide) ?_
                                                                                                        refine lv_iload hx hb dX12_sheet_68 (lv_at hl 0 rfl) ?_
                                                                                                        refine lv_bipush (v := 40) hx hb dX12_sheet_70 (by decide) ?_
                                                                                                        refine lv_icmp_ge (tgt := 94) hx hb dX12_sheet_72 (by decide) (fun c2323 => ?_) (fun c2323 => ?_)
                                                                                                        · exact absurd c2323 (by decide)
                                                                                                        · refine lv_aload_n hx hb dX12_sheet_75 rfl (lv_at hl 1 rfl) ?_
                                                                                                          refine va_get (D := D) (ci := 12) (v := .ref h11) (C := RX12) (T := TX12) (N := 24) hx hb hts hin12 hown hK hP 0 rfl rfl 18 (by decide) (hts (.fieldLink RX12 44 "MissedPointsModel" "items" "[I") (by decide +kernel)) (fun _ h9 => h9) rfl dX12_sheet_76 ?_
                                                                                                          refine lv_bipush (v := 40) hx hb dX12_sheet_79 (by decide) ?_
                                                                                                          refine lv_iload_n hx hb dX12_sheet_81 rfl (lv_at hl 2 rfl) ?_
                                                                                                          refine lv_imul hx hb dX12_sheet_82 ?_
                                                                                                          refine lz_top (y := 0) (by decide) ?_
                                                                                                          refine lv_iload hx hb dX12_sheet_83 (lv_at hl 0 rfl) ?_
                                                                                                          refine lv_iadd hx hb dX12_sheet_85 ?_
                                                                                                          refine lz_top (y := 39) (by decide) ?_
                                                                                                          refine lv_iconst (v := 0) hx hb dX12_sheet_86 (by decide) ?_
                                                                                                          refine lz_astc hx hb hK hP hD hS 3 0 rfl rfl (lz_vp (x := 39) (n := 160) (by decide) (by decide)) dX12_sheet_87 (fun H locs hP hD hS => ?_)
                                                                                                          refine lv_iinc (v := 40) (lv' := [(4, .int 40), (0, .ref h0), (1, .int 0), (2, .int x1), (3, .int x2)]) hx hb dX12_sheet_88 hl (k := 0) rfl (by decide) (by decide) rfl (fun ls hl => ?_)
                                                                                                          refine lv_goto (tgt := 68) hx hb dX12_sheet_91 (by decide) ?_
                                                                                                          refine lv_iload hx hb dX12_sheet_68 (lv_at hl 0 rfl) ?_
                                                                                                          refine lv_bipush (v := 40) hx hb dX12_sheet_70 (by decide) ?_
                                                                                                          refine lv_icmp_ge (tgt := 94) hx hb dX12_sheet_72 (by decide) (fun c2324 => ?_) (fun c2324 => ?_)
                                                                                                          · refine lv_iconst (v := 1) hx hb dX12_sheet_94 (by decide) ?_
                                                                                                            have hP9 := hP.sub (ws' := []) [] rfl
                                                                                                            have hD9 := hD.sub (ws' := []) [] (by decide) rfl
                                                                                                            subst hAe
                                                                                                            exact W.iret (v := 1) hx hb hr (fun t ht hW => ⟨⟨_, (), rfl, by rw [if_neg k2095, if_neg k2097, if_neg k2101, if_neg k2103, if_neg c2106, if_pos c2279, if_pos c2281], by rw [ht]; exact hP9, hD9⟩, hS.F ht⟩) hS.2.2 dX12_sheet_95
                                                                                                          · exact absurd c2324 (by decide)
                        · exact absurd c2283 c2106
                      · by_cases k2325 : x0 = 1
                        · subst k2325
                          refine lv_aload_n hx hb dX12_sheet_42 rfl (lv_at hl 0 rfl) ?_
                          refine va_get (D := D) (ci := 12) (v := .ref h9) (C := RX12) (T := TX12) (N := 24) hx hb hts hin12 hown hK hP 0 rfl rfl 16 (by decide) (hts (.fieldLink RX12 38 "MissedPointsModel" "sort" "[I") (by decide +kernel)) (fun _ h9 => h9) rfl dX12_sheet_43 ?_
                          refine lv_iload_n hx hb dX12_sheet_46 rfl (lv_at hl 1 rfl) ?_
                          refine lv_iload_n hx hb dX12_sheet_47 rfl (lv_at hl 2 rfl) ?_
                          refine va_iast hx hb hK hP hD hS 1 0 rfl rfl (lz_vp (x := 1) (n := 4) (by decide) (by decide)) dX12_sheet_48 (fun H locs hP hD hS => ?_)
                          have hP : va_P D cls [(h0, .inr (12, [.int 0, .int 1, .ref h1, .ref h2, .ref h3, .ref h4, .ref h5, .ref h6, .ref h7, .ref h8, .int 0, .int 0, .int 0, .int 0, .int 0, .int 0, .ref h9, .ref h10, .ref h11, .ref h12, .ref h13, .ref h14, .ref h15, .int 0])), (h9, .inl (cI, 4, .inl (upd (fun _ => -1) 1 x1))), (h10, .inl (cI, 4, .inl (fun _ => 0))), (h11, .inl (cI, 160, .inl (fun _ => 0)))] H := hP
                          have hD : va_D A [(h0, .inr (12, [.int 0, .int 1, .ref h1, .ref h2, .ref h3, .ref h4, .ref h5, .ref h6, .ref h7, .ref h8, .int 0, .int 0, .int 0, .int 0, .int 0, .int 0, .ref h9, .ref h10, .ref h11, .ref h12, .ref h13, .ref h14, .ref h15, .int 0])), (h9, .inl (cI, 4, .inl (upd (fun _ => -1) 1 x1))), (h10, .inl (cI, 4, .inl (fun _ => 0))), (h11, .inl (cI, 160, .inl (fun _ => 0)))] := hD
                          refine lv_aload_n hx hb dX12_sheet_49 rfl (lv_at hl 0 rfl) ?_
                          refine va_get (D := D) (ci := 12) (v := .ref h10) (C := RX12) (T := TX12) (N := 24) hx hb hts hin12 hown hK hP 0 rfl rfl 17 (by decide) (hts (.fieldLink RX12 41 "MissedPointsModel" "size" "[I") (by decide +kernel)) (fun _ h9 => h9) rfl dX12_sheet_50 ?_
                          refine lv_iload_n hx hb dX12_sheet_53 rfl (lv_at hl 1 rfl) ?_
                          refine lv_iload_n hx hb dX12_sheet_54 rfl (lv_at hl 2 rfl) ?_
                          refine lv_iconst (v := (-1)) hx hb dX12_sheet_55 (by decide) ?_
                          refine lv_icmp_ne (tgt := 63) hx hb dX12_sheet_56 (by decide) (fun c2326 => ?_) (fun c2326 => ?_)
                          · refine lv_iload_n hx hb dX12_sheet_63 rfl (lv_at hl 3 rfl) ?_
                            refine va_iast hx hb hK hP hD hS 2 0 rfl rfl (lz_vp (x := 1) (n := 4) (by decide) (by decide)) dX12_sheet_64 (fun H locs hP hD hS => ?_)
                            have hP : va_P D cls [(h0, .inr (12, [.int 0, .int 1, .ref h1, .ref h2, .ref h3, .ref h4, .ref h5, .ref h6, .ref h7, .ref h8, .int 0, .int 0, .int 0, .int 0, .int 0, .int 0, .ref h9, .ref h10, .ref h11, .ref h12, .ref h13, .ref h14, .ref h15, .int 0])), (h9, .inl (cI, 4, .inl (upd (fun _ => -1) 1 x1))), (h10, .inl (cI, 4, .inl (upd (fun _ => 0) 1 x2))), (h11, .inl (cI, 160, .inl (fun _ => 0)))] H := hP
                            have hD : va_D A [(h0, .inr (12, [.int 0, .int 1, .ref h1, .ref h2, .ref h3, .ref h4, .ref h5, .ref h6, .ref h7, .ref h8, .int 0, .int 0, .int 0, .int 0, .int 0, .int 0, .ref h9, .ref h10, .ref h11, .ref h12, .ref h13, .ref h14, .ref h15, .int 0])), (h9, .inl (cI, 4, .inl (upd (fun _ => -1) 1 x1))), (h10, .inl (cI, 4, .inl (upd (fun _ => 0) 1 x2))), (h11, .inl (cI, 160, .inl (fun _ => 0)))] := hD
                            refine lv_iconst (v := 0) hx hb dX12_sheet_65 (by decide) ?_
                            refine lv_istore (lv' := [(4, .int 0), (0, .ref h0), (1, .int 1), (2, .int x1), (3, .int x2)]) hx hb dX12_sheet_66 hl (by decide) rfl (fun ls hl => ?_)
                            refine lv_iload hx hb dX12_sheet_68 (lv_at hl 0 rfl) ?_
                            refine lv_bipush (v := 40) hx hb dX12_sheet_70 (by decide) ?_
                            refine lv_icmp_ge (tgt := 94) hx hb dX12_sheet_72 (by decide) (fun c2327 => ?_) (fun c2327 => ?_)
                            · exact absurd c2327 (by decide)
                            · refine lv_aload_n hx hb dX12_sheet_75 rfl (lv_at hl 1 rfl) ?_
                              refine va_get (D := D) (ci := 12) (v := .ref h11) (C := RX12) (T := TX12) (N := 24) hx hb hts hin12 hown hK hP 0 rfl rfl 18 (by decide) (hts (.fieldLink RX12 44 "MissedPointsModel" "items" "[I") (by decide +kernel)) (fun _ h9 => h9) rfl dX12_sheet_76 ?_
                              refine lv_bipush (v := 40) hx hb dX12_sheet_79 (by decide) ?_
                              refine lv_iload_n hx hb dX12_sheet_81 rfl (lv_at hl 2 rfl) ?_
                              refine lv_imul hx hb dX12_sheet_82 ?_
                              refine lz_top (y := 40) (by decide) ?_
                              refine lv_iload hx hb dX12_sheet_83 (lv_at hl 0 rfl) ?_
                              refine lv_iadd hx hb dX12_sheet_85 ?_
                              refine lz_top (y := 40) (by decide) ?_
                              refine lv_iconst (v := 0) hx hb dX12_sheet_86 (by decide) ?_
                              refine lz_astc hx hb hK hP hD hS 3 0 rfl rfl (lz_vp (x := 40) (n := 160) (by decide) (by decide)) dX12_sheet_87 (fun H locs hP hD hS => ?_)
                              refine lv_iinc (v := 1) (lv' := [(4, .int 1), (0, .ref h0), (1, .int 1), (2, .int x1), (3, .int x2)]) hx hb dX12_sheet_88 hl (k := 0) rfl (by decide) (by decide) rfl (fun ls hl => ?_)
                              refine lv_goto (tgt := 68) hx hb dX12_sheet_91 (by decide) ?_
                              refine lv_iload hx hb dX12_sheet_68 (lv_at hl 0 rfl) ?_
                              refine lv_bipush (v := 40) hx hb dX12_sheet_70 (by decide) ?_
                              refine lv_icmp_ge (tgt := 94) hx hb dX12_sheet_72 (by decide) (fun c2328 => ?_) (fun c2328 => ?_)
                              · exact absurd c2328 (by decide)
                              · refine lv_aload_n hx hb dX12_sheet_75 rfl (lv_at hl 1 rfl) ?_
                                refine va_get (D := D) (ci := 12) (v := .ref h11) (C := RX12) (T := TX12) (N := 24) hx hb hts hin12 hown hK hP 0 rfl rfl 18 (by decide) (hts (.fieldLink RX12 44 "MissedPointsModel" "items" "[I") (by decide +kernel)) (fun _ h9 => h9) rfl dX12_sheet_76 ?_
                                refine lv_bipush (v := 40) hx hb dX12_sheet_79 (by decide) ?_
                                refine lv_iload_n hx hb dX12_sheet_81 rfl (lv_at hl 2 rfl) ?_
                                refine lv_imul hx hb dX12_sheet_82 ?_
                                refine lz_top (y := 40) (by decide) ?_
                                refine lv_iload hx hb dX12_sheet_83 (lv_at hl 0 rfl) ?_
                                refine lv_iadd hx hb dX12_sheet_85 ?_
                                refine lz_top (y := 41) (by decide) ?_
                                refine lv_iconst (v := 0) hx hb dX12_sheet_86 (by decide) ?_
                                refine lz_astc hx hb hK hP hD hS 3 0 rfl rfl (lz_vp (x := 41) (n := 160) (by decide) (by decide)) dX12_sheet_87 (fun H locs hP hD hS => ?_)
                                refine lv_iinc (v := 2) (lv' := [(4, .int 2), (0, .ref h0), (1, .int 1), (2, .int x1), (3, .int x2)]) hx hb dX12_sheet_88 hl (k := 0) rfl (by decide) (by decide) rfl (fun ls hl => ?_)
                                refine lv_goto (tgt := 68) hx hb dX12_sheet_91 (by decide) ?_
                                refine lv_iload hx hb dX12_sheet_68 (lv_at hl 0 rfl) ?_
                                refine lv_bipush (v := 40) hx hb dX12_sheet_70 (by decide) ?_
                                refine lv_icmp_ge (tgt := 94) hx hb dX12_sheet_72 (by decide) (fun c2329 => ?_) (fun c2329 => ?_)
                                · exact absurd c2329 (by decide)
                                · refine lv_aload_n hx hb dX12_sheet_75 rfl (lv_at hl 1 rfl) ?_
                                  refine va_get (D := D) (ci := 12) (v := .ref h11) (C := RX12) (T := TX12) (N := 24) hx hb hts hin12 hown hK hP 0 rfl rfl 18 (by decide) (hts (.fieldLink RX12 44 "MissedPointsModel" "items" "[I") (by decide +kernel)) (fun _ h9 => h9) rfl dX12_sheet_76 ?_
                                  refine lv_bipush (v := 40) hx hb dX12_sheet_79 (by decide) ?_
                                  refine lv_iload_n hx hb dX12_sheet_81 rfl (lv_at hl 2 rfl) ?_
                                  refine lv_imul hx hb dX12_sheet_82 ?_
                                  refine lz_top (y := 40) (by decide) ?_
                                  refine lv_iload hx hb dX12_sheet_83 (lv_at hl 0 rfl) ?_
                                  refine lv_iadd hx hb dX12_sheet_85 ?_
                                  refine lz_top (y := 42) (by decide) ?_
                                  refine lv_iconst (v := 0) hx hb dX12_sheet_86 (by decide) ?_
                                  refine lz_astc hx hb hK hP hD hS 3 0 rfl rfl (lz_vp (x := 42) (n := 160) (by decide) (by decide)) dX12_sheet_87 (fun H locs hP hD hS => ?_)
                                  refine lv_iinc (v := 3) (lv' := [(4, .int 3), (0, .ref h0), (1, .int 1), (2, .int x1), (3, .int x2)]) hx hb dX12_sheet_88 hl (k := 0) rfl (by decide) (by decide) rfl (fun ls hl => ?_)
                                  refine lv_goto (tgt := 68) hx hb dX12_sheet_91 (by decide) ?_
                                  refine lv_iload hx hb dX12_sheet_68 (lv_at hl 0 rfl) ?_
                                  refine lv_bipush (v := 40) hx hb dX12_sheet_70 (by decide) ?_
                                  refine lv_icmp_ge (tgt := 94) hx hb dX12_sheet_72 (by decide) (fun c2330 => ?_) (fun c2330 => ?_)
                                  · exact absurd c2330 (by decide)
                                  · refine lv_aload_n hx hb dX12_sheet_75 rfl (lv_at hl 1 rfl) ?_
                                    refine va_get (D := D) (ci := 12) (v := .ref h11) (C := RX12) (T := TX12) (N := 24) hx hb hts hin12 hown hK hP 0 rfl rfl 18 (by decide) (hts (.fieldLink RX12 44 "MissedPointsModel" "items" "[I") (by decide +kernel)) (fun _ h9 => h9) rfl dX12_sheet_76 ?_
                                    refine lv_bipush (v := 40) hx hb dX12_sheet_79 (by decide) ?_
                                    refine lv_iload_n hx hb dX12_sheet_81 rfl (lv_at hl 2 rfl) ?_
                                    refine lv_imul hx hb dX12_sheet_82 ?_
                                    refine lz_top (y := 40) (by decide) ?_
                                    refine lv_iload hx hb dX12_sheet_83 (lv_at hl 0 rfl) ?_
                                    refine lv_iadd hx hb dX12_sheet_85 ?_
                                    refine lz_top (y := 43) (by decide) ?_
                                    refine lv_iconst (v := 0) hx hb dX12_sheet_86 (by decide) ?_
                                    refine lz_astc hx hb hK hP hD hS 3 0 rfl rfl (lz_vp (x := 43) (n := 160) (by decide) (by decide)) dX12_sheet_87 (fun H locs hP hD hS => ?_)
                                    refine lv_iinc (v := 4) (lv' := [(4, .int 4), (0, .ref h0), (1, .int 1), (2, .int x1), (3, .int x2)]) hx hb dX12_sheet_88 hl (k := 0) rfl (by decide) (by decide) rfl (fun ls hl => ?_)
                                    refine lv_goto (tgt := 68) hx hb dX12_sheet_91 (by decide) ?_
                                    refine lv_iload hx hb dX12_sheet_68 (lv_at hl 0 rfl) ?_
                                    refine lv_bipush (v := 40) hx hb dX12_sheet_70 (by decide) ?_
                                    refine lv_icmp_ge (tgt := 94) hx hb dX12_sheet_72 (by decide) (fun c2331 => ?_) (fun c2331 => ?_)
                                    · exact absurd c2331 (by decide)
                                    · refine lv_aload_n hx hb dX12_sheet_75 rfl (lv_at hl 1 rfl) ?_
                                      refine va_get (D := D) (ci := 12) (v := .ref h11) (C := RX12) (T := TX12) (N := 24) hx hb hts hin12 hown hK hP 0 rfl rfl 18 (by decide) (hts (.fieldLink RX12 44 "MissedPointsModel" "items" "[I") (by decide +kernel)) (fun _ h9 => h9) rfl dX12_sheet_76 ?_
                                      refine lv_bipush (v := 40) hx hb dX12_sheet_79 (by decide) ?_
                                      refine lv_iload_n hx hb dX12_sheet_81 rfl (lv_at hl 2 rfl) ?_
                                      refine lv_imul hx hb dX12_sheet_82 ?_
                                      refine lz_top (y := 40) (by decide) ?_
                                      refine lv_iload hx hb dX12_sheet_83 (lv_at hl 0 rfl) ?_
                                      refine lv_iadd hx hb dX12_sheet_85 ?_
                                      refine lz_top (y := 44) (by decide) ?_
                                      refine lv_iconst (v := 0) hx hb dX12_sheet_86 (by decide) ?_
                                      refine lz_astc hx hb hK hP hD hS 3 0 rfl rfl (lz_vp (x := 44) (n := 160) (by decide) (by decide)) dX12_sheet_87 (fun H locs hP hD hS => ?_)
                                      refine lv_iinc (v := 5) (lv' := [(4, .int 5), (0, .ref h0), (1, .int 1), (2, .int x1), (3, .int x2)]) hx hb dX12_sheet_88 hl (k := 0) rfl (by decide) (by decide) rfl (fun ls hl => ?_)
                                      refine lv_goto (tgt := 68) hx hb dX12_sheet_91 (by decide) ?_
                                      refine lv_iload hx hb dX12_sheet_68 (lv_at hl 0 rfl) ?_
                                      refine lv_bipush (v := 40) hx hb dX12_sheet_70 (by decide) ?_
                                      refine lv_icmp_ge (tgt := 94) hx hb dX12_sheet_72 (by decide) (fun c2332 => ?_) (fun c2332 => ?_)
                                      · exact absurd c2332 (by decide)
                                      · refine lv_aload_n hx hb dX12_sheet_75 rfl (lv_at hl 1 rfl) ?_
                                        refine va_get (D := D) (ci := 12) (v := .ref h11) (C := RX12) (T := TX12) (N := 24) hx hb hts hin12 hown hK hP 0 rfl rfl 18 (by decide) (hts (.fieldLink RX12 44 "MissedPointsModel" "items" "[I") (by decide +kernel)) (fun _ h9 => h9) rfl dX12_sheet_76 ?_
                                        refine lv_bipush (v := 40) hx hb dX12_sheet_79 (by decide) ?_
                                        refine lv_iload_n hx hb dX12_sheet_81 rfl (lv_at hl 2 rfl) ?_
                                        refine lv_imul hx hb dX12_sheet_82 ?_
                                        refine lz_top (y := 40) (by decide) ?_
                                        refine lv_iload hx hb dX12_sheet_83 (lv_at hl 0 rfl) ?_
                                        refine lv_iadd hx hb dX12_sheet_85 ?_
                                        refine lz_top (y := 45) (by decide) ?_
                                        refine lv_iconst (v := 0) hx hb dX12_sheet_86 (by decide) ?_
                                        refine lz_astc hx hb hK hP hD hS 3 0 rfl rfl (lz_vp (x := 45) (n := 160) (by decide) (by decide)) dX12_sheet_87 (fun H locs hP hD hS => ?_)
                                        refine lv_iinc (v := 6) (lv' := [(4, .int 6), (0, .ref h0), (1, .int 1), (2, .int x1), (3, .int x2)]) hx hb dX12_sheet_88 hl (k := 0) rfl (by decide) (by decide) rfl (fun ls hl => ?_)
                                        refine lv_goto (tgt := 68) hx hb dX12_sheet_91 (by decide) ?_
                                        refine lv_iload hx hb dX12_sheet_68 (lv_at hl 0 rfl) ?_
                                        refine lv_bipush (v := 40) hx hb dX12_sheet_70 (by decide) ?_
                                        refine lv_icmp_ge (tgt := 94) hx hb dX12_sheet_72 (by decide) (fun c2333 => ?_) (fun c2333 => ?_)
                                        · exact absurd c2333 (by decide)
                                        · refine lv_aload_n hx hb dX12_sheet_75 rfl (lv_at hl 1 rfl) ?_
                                          refine va_get (D := D) (ci := 12) (v := .ref h11) (C := RX12) (T := TX12) (N := 24) hx hb hts hin12 hown hK hP 0 rfl rfl 18 (by decide) (hts (.fieldLink RX12 44 "MissedPointsModel" "items" "[I") (by decide +kernel)) (fun _ h9 => h9) rfl dX12_sheet_76 ?_
                                          refine lv_bipush (v := 40) hx hb dX12_sheet_79 (by decide) ?_
                                          refine lv_iload_n hx hb dX12_sheet_81 rfl (lv_at hl 2 rfl) ?_
                                          refine lv_imul hx hb dX12_sheet_82 ?_
                                          refine lz_top (y := 40) (by decide) ?_
                                          refine lv_iload hx hb dX12_sheet_83 (lv_at hl 0 rfl) ?_
                                          refine lv_iadd hx hb dX12_sheet_85 ?_
                                          refine lz_top (y := 46) (by decide) ?_
                                          refine lv_iconst (v := 0) hx hb dX12_sheet_86 (by decide) ?_
                                          refine lz_astc hx hb hK hP hD hS 3 0 rfl rfl (lz_vp (x := 46) (n := 160) (by decide) (by decide)) dX12_sheet_87 (fun H locs hP hD hS => ?_)
                                          refine lv_iinc (v := 7) (lv' := [(4, .int 7), (0, .ref h0), (1, .int 1), (2, .int x1), (3, .int x2)]) hx hb dX12_sheet_88 hl (k := 0) rfl (by decide) (by decide) rfl (fun ls hl => ?_)
                                          refine lv_goto (tgt := 68) hx hb dX12_sheet_91 (by decide) ?_
                                          refine lv_iload hx hb dX12_sheet_68 (lv_at hl 0 rfl) ?_
                                          refine lv_bipush (v := 40) hx hb dX12_sheet_70 (by decide) ?_
                                          refine lv_icmp_ge (tgt := 94) hx hb dX12_sheet_72 (by decide) (fun c2334 => ?_) (fun c2334 => ?_)
                                          · exact absurd c2334 (by decide)
                                          · refine lv_aload_n hx hb dX12_sheet_75 rfl (lv_at hl 1 rfl) ?_
                                            refine va_get (D := D) (ci := 12) (v := .ref h11) (C := RX12) (T := TX12) (N := 24) hx hb hts hin12 hown hK hP 0 rfl rfl 18 (by decide) (hts (.fieldLink RX12 44 "MissedPointsModel" "items" "[I") (by decide +kernel)) (fun _ h9 => h9) rfl dX12_sheet_76 ?_
                                            refine lv_bipush (v := 40) hx hb dX12_sheet_79 (by decide) ?_
                                            refine lv_iload_n hx hb dX12_sheet_81 rfl (lv_at hl 2 rfl) ?_
                                            refine lv_imul hx hb dX12_sheet_82 ?_
                                            refine lz_top (y := 40) (by decide) ?_
                                            refine lv_iload hx hb dX12_sheet_83 (lv_at hl 0 rfl) ?_
                                            refine lv_iadd hx hb dX12_sheet_85 ?_
                                            refine lz_top (y := 47) (by decide) ?_
                                            refine lv_iconst (v := 0) hx hb dX12_sheet_86 (by decide) ?_
                                            refine lz_astc hx hb hK hP hD hS 3 0 rfl rfl (lz_vp (x := 47) (n := 160) (by decide) (by decide)) dX12_sheet_87 (fun H locs hP hD hS => ?_)
                                            refine lv_iinc (v := 8) (lv' := [(4, .int 8), (0, .ref h0), (1, .int 1), (2, .int x1), (3, .int x2)]) hx hb dX12_sheet_88 hl (k := 0) rfl (by decide) (by decide) rfl (fun ls hl => ?_)
                                            refine lv_goto (tgt := 68) hx hb dX12_sheet_91 (by decide) ?_
                                            refine lv_iload hx hb dX12_sheet_68 (lv_at hl 0 rfl) ?_
                                            refine lv_bipush (v := 40) hx hb dX12_sheet_70 (by decide) ?_
                                            refine lv_icmp_ge (tgt := 94) hx hb dX12_sheet_72 (by decide) (fun c2335 => ?_) (fun c2335 => ?_)
                                            · exact absurd c2335 (by decide)
                                            · refine lv_aload_n hx hb dX12_sheet_75 rfl (lv_at hl 1 rfl) ?_
                                              refine va_get (D := D) (ci := 12) (v := .ref h11) (C := RX12) (T := TX12) (N := 24) hx hb hts hin12 hown hK hP 0 rfl rfl 18 (by decide) (hts (.fieldLink RX12 44 "MissedPointsModel" "items" "[I") (by decide +kernel)) (fun _ h9 => h9) rfl dX12_sheet_76 ?_
                                              refine lv_bipush (v := 40) hx hb dX12_sheet_79 (by decide) ?_
                                              refine lv_iload_n hx hb dX12_sheet_81 rfl (lv_at hl 2 rfl) ?_
                                              refine lv_imul hx hb dX12_sheet_82 ?_
                                              refine lz_top (y := 40) (by decide) ?_
                                              refine lv_iload hx hb dX12_sheet_83 (lv_at hl 0 rfl) ?_
                                              refine lv_iadd hx hb dX12_sheet_85 ?_
                                              refine lz_top (y := 48) (by decide) ?_
                                              refine lv_iconst (v := 0) hx hb dX12_sheet_86 (by decide) ?_
                                              refine lz_astc hx hb hK hP hD hS 3 0 rfl rfl (lz_vp (x := 48) (n := 160) (by decide) (by decide)) dX12_sheet_87 (fun H locs hP hD hS => ?_)
                                              refine lv_iinc (v := 9) (lv' := [(4, .int 9), (0, .ref h0), (1, .int 1), (2, .int x1), (3, .int x2)]) hx hb dX12_sheet_88 hl (k := 0) rfl (by decide) (by decide) rfl (fun ls hl => ?_)
                                              refine lv_goto (tgt := 68) hx hb dX12_sheet_91 (by decide) ?_
                                              refine lv_iload hx hb dX12_sheet_68 (lv_at hl 0 rfl) ?_
                                              refine lv_bipush (v := 40) hx hb dX12_sheet_70 (by decide) ?_
                                              refine lv_icmp_ge (tgt := 94) hx hb dX12_sheet_72 (by decide) (fun c2336 => ?_) (fun c2336 => ?_)
                                              · exact absurd c2336 (by decide)
                                              · refine lv_aload_n hx hb dX12_sheet_75 rfl (lv_at hl 1 rfl) ?_
                                                refine va_get (D := D) (ci := 12) (v := .ref h11) (C := RX12) (T := TX12) (N := 24) hx hb hts hin12 hown hK hP 0 rfl rfl 18 (by decide) (hts (.fieldLink RX12 44 "MissedPointsModel" "items" "[I") (by decide +kernel)) (fun _ h9 => h9) rfl dX12_sheet_76 ?_
                                                refine lv_bipush (v := 40) hx hb dX12_sheet_79 (by decide) ?_
                                                refine lv_iload_n hx hb dX12_sheet_81 rfl (lv_at hl 2 rfl) ?_
                                                refine lv_imul hx hb dX12_sheet_82 ?_
                                                refine lz_top (y := 40) (by decide) ?_
                                                refine lv_iload hx hb dX12_sheet_83 (lv_at hl 0 rfl) ?_
                                                refine lv_iadd hx hb dX12_sheet_85 ?_
                                                refine lz_top (y := 49) (by decide) ?_
                                                refine lv_iconst (v := 0) hx hb dX12_sheet_86 (by decide) ?_
                                                refine lz_astc hx hb hK hP hD hS 3 0 rfl rfl (lz_vp (x := 49) (n := 160) (by decide) (by decide)) dX12_sheet_87 (fun H locs hP hD hS => ?_)
                                                refine lv_iinc (v := 10) (lv' := [(4, .int 10), (0, .ref h0), (1, .int 1), (2, .int x1), (3, .int x2)]) hx hb dX12_sheet_88 hl (k := 0) rfl (by decide) (by decide) rfl (fun ls hl => ?_)
                                                refine lv_goto (tgt := 68) hx hb dX12_sheet_91 (by decide) ?_
                                                refine lv_iload hx hb dX12_sheet_68 (lv_at hl 0 rfl) ?_
                                                refine lv_bipush (v := 40) hx hb dX12_sheet_70 (by decide) ?_
                                                refine lv_icmp_ge (tgt := 94) hx hb dX12_sheet_72 (by decide) (fun c2337 => ?_) (fun c2337 => ?_)
                                                · exact absurd c2337 (by decide)
                                                · refine lv_aload_n hx hb dX12_sheet_75 rfl (lv_at hl 1 rfl) ?_
                                                  refine va_get (D := D) (ci := 12) (v := .ref h11) (C := RX12) (T := TX12) (N := 24) hx hb hts hin12 hown hK hP 0 rfl rfl 18 (by decide) (hts (.fieldLink RX12 44 "MissedPointsModel" "items" "[I") (by decide +kernel)) (fun _ h9 => h9) rfl dX12_sheet_76 ?_
                                                  refine lv_bipush (v := 40) hx hb dX12_sheet_79 (by decide) ?_
                                                  refine lv_iload_n hx hb dX12_sheet_81 rfl (lv_at hl 2 rfl) ?_
                                                  refine lv_imul hx hb dX12_sheet_82 ?_
                                                  refine lz_top (y := 40) (by decide) ?_
                                                  refine lv_iload hx hb dX12_sheet_83 (lv_at hl 0 rfl) ?_
                                                  refine lv_iadd hx hb dX12_sheet_85 ?_
                                                  refine lz_top (y := 50) (by decide) ?_
                                                  refine lv_iconst (v := 0) hx hb dX12_sheet_86 (by decide) ?_
                                                  refine lz_astc hx hb hK hP hD hS 3 0 rfl rfl (lz_vp (x := 50) (n := 160) (by decide) (by decide)) dX12_sheet_87 (fun H locs hP hD hS => ?_)
                                                  refine lv_iinc (v := 11) (lv' := [(4, .int 11), (0, .ref h0), (1, .int 1), (2, .int x1), (3, .int x2)]) hx hb dX12_sheet_88 hl (k := 0) rfl (by decide) (by decide) rfl (fun ls hl => ?_)
                                                  refine lv_goto (tgt := 68) hx hb dX12_sheet_91 (by decide) ?_
                                                  refine lv_iload hx hb dX12_sheet_68 (lv_at hl 0 rfl) ?_
                                                  refine lv_bipush (v := 40) hx hb dX12_sheet_70 (by decide) ?_
                                                  refine lv_icmp_ge (tgt := 94) hx hb dX12_sheet_72 (by decide) (fun c2338 => ?_) (fun c2338 => ?_)
                                                  · exact absurd c2338 (by decide)
                                                  · refine lv_aload_n hx hb dX12_sheet_75 rfl (lv_at hl 1 rfl) ?_
                                                    refine va_get (D := D) (ci := 12) (v := .ref h11) (C := RX12) (T := TX12) (N := 24) hx hb hts hin12 hown hK hP 0 rfl rfl 18 (by decide) (hts (.fieldLink RX12 44 "MissedPointsModel" "items" "[I") (by decide +kernel)) (fun _ h9 => h9) rfl dX12_sheet_76 ?_
                                                    refine lv_bipush (v := 40) hx hb dX12_sheet_79 (by decide) ?_
                                                    refine lv_iload_n hx hb dX12_sheet_81 rfl (lv_at hl 2 rfl) ?_
                                                    refine lv_imul hx hb dX12_sheet_82 ?_
                                                    refine lz_top (y := 40) (by decide) ?_
                                                    refine lv_iload hx hb dX12_sheet_83 (lv_at hl 0 rfl) ?_
                                                    refine lv_iadd hx hb dX12_sheet_85 ?_
                                                    refine lz_top (y := 51) (by decide) ?_
                                                    refine lv_iconst (v := 0) hx hb dX12_sheet_86 (by decide) ?_
                                                    refine lz_astc hx hb hK hP hD hS 3 0 rfl rfl (lz_vp (x := 51) (n := 160) (by decide) (by decide)) dX12_sheet_87 (fun H locs hP hD hS => ?_)
                                                    refine lv_iinc (v := 12) (lv' := [(4, .int 12), (0, .ref h0), (1, .int 1), (2, .int x1), (3, .int x2)]) hx hb dX12_sheet_88 hl (k := 0) rfl (by decide) (by decide) rfl (fun ls hl => ?_)
                                                    refine lv_goto (tgt := 68) hx hb dX12_sheet_91 (by decide) ?_
                                                    refine lv_iload hx hb dX12_sheet_68 (lv_at hl 0 rfl) ?_
                                                    refine lv_bipush (v := 40) hx hb dX12_sheet_70 (by decide) ?_
                                                    refine lv_icmp_ge (tgt := 94) hx hb dX12_sheet_72 (by decide) (fun c2339 => ?_) (fun c2339 => ?_)
                                                    · exact absurd c2339 (by decide)
                                                    · refine lv_aload_n hx hb dX12_sheet_75 rfl (lv_at hl 1 rfl) ?_
                                                      refine va_get (D := D) (ci := 12) (v := .ref h11) (C := RX12) (T := TX12) (N := 24) hx hb hts hin12 hown hK hP 0 rfl rfl 18 (by decide) (hts (.fieldLink RX12 44 "MissedPointsModel" "items" "[I") (by decide +kernel)) (fun _ h9 => h9) rfl dX12_sheet_76 ?_
                                                      refine lv_bipush (v := 40) hx hb dX12_sheet_79 (by decide) ?_
                                                      refine lv_iload_n hx hb dX12_sheet_81 rfl (lv_at hl 2 rfl) ?_
                                                      refine lv_imul hx hb dX12_sheet_82 ?_
                                                      refine lz_top (y := 40) (by decide) ?_
                                                      refine lv_iload hx hb dX12_sheet_83 (lv_at hl 0 rfl) ?_
                                                      refine lv_iadd hx hb dX12_sheet_85 ?_
                                                      refine lz_top (y := 52) (by decide) ?_
                                                      refine lv_iconst (v := 0) hx hb dX12_sheet_86 (by decide) ?_
                                                      refine lz_astc hx hb hK hP hD hS 3 0 rfl rfl (lz_vp (x := 52) (n := 160) (by decide) (by decide)) dX12_sheet_87 (fun H locs hP hD hS => ?_)
                                                      refine lv_iinc (v := 13) (lv' := [(4, .int 13), (0, .ref h0), (1, .int 1), (2, .int x1), (3, .int x2)]) hx hb dX12_sheet_88 hl (k := 0) rfl (by decide) (by decide) rfl (fun ls hl => ?_)
                                                      refine lv_goto (tgt := 68) hx hb dX12_sheet_91 (by decide) ?_
                                                      refine lv_iload hx hb dX12_sheet_68 (lv_at hl 0 rfl) ?_
                                                      refine lv_bipush (v := 40) hx hb dX12_sheet_70 (by decide) ?_
                                                      refine lv_icmp_ge (tgt := 94) hx hb dX12_sheet_72 (by decide) (fun c2340 => ?_) (fun c2340 => ?_)
                                                      · exact absurd c2340 (by decide)
                                                      · refine lv_aload_n hx hb dX12_sheet_75 rfl (lv_at hl 1 rfl) ?_
                                                        refine va_get (D := D) (ci := 12) (v := .ref h11) (C := RX12) (T := TX12) (N := 24) hx hb hts hin12 hown hK hP 0 rfl rfl 18 (by decide) (hts (.fieldLink RX12 44 "MissedPointsModel" "items" "[I") (by decide +kernel)) (fun _ h9 => h9) rfl dX12_sheet_76 ?_
                                                        refine lv_bipush (v := 40) hx hb dX12_sheet_79 (by decide) ?_
                                                        refine lv_iload_n hx hb dX12_sheet_81 rfl (lv_at hl 2 rfl) ?_
                                                        refine lv_imul hx hb dX12_sheet_82 ?_
                                                        refine lz_top (y := 40) (by decide) ?_
                                                        refine lv_iload hx hb dX12_sheet_83 (lv_at hl 0 rfl) ?_
                                                        refine lv_iadd hx hb dX12_sheet_85 ?_
                                                        refine lz_top (y := 53) (by decide) ?_
                                                        refine lv_iconst (v := 0) hx hb dX12_sheet_86 (by decide) ?_
                                                        refine lz_astc hx hb hK hP hD hS 3 0 rfl rfl (lz_vp (x := 53) (n := 160) (by decide) (by decide)) dX12_sheet_87 (fun H locs hP hD hS => ?_)
                                                        refine lv_iinc (v := 14) (lv' := [(4, .int 14), (0, .ref h0), (1, .int 1), (2, .int x1), (3, .int x2)]) hx hb dX12_sheet_88 hl (k := 0) rfl (by decide) (by decide) rfl (fun ls hl => ?_)
                                                        refine lv_goto (tgt := 68) hx hb dX12_sheet_91 (by decide) ?_
                                                        refine lv_iload hx hb dX12_sheet_68 (lv_at hl 0 rfl) ?_
                                                        refine lv_bipush (v := 40) hx hb dX12_sheet_70 (by decide) ?_
                                                        refine lv_icmp_ge (tgt := 94) hx hb dX12_sheet_72 (by decide) (fun c2341 => ?_) (fun c2341 => ?_)
                                                        · exact absurd c2341 (by decide)
                                                        · refine lv_aload_n hx hb dX12_sheet_75 rfl (lv_at hl 1 rfl) ?_
                                                          refine va_get (D := D) (ci := 12) (v := .ref h11) (C := RX12) (T := TX12) (N := 24) hx hb hts hin12 hown hK hP 0 rfl rfl 18 (by decide) (hts (.fieldLink RX12 44 "MissedPointsModel" "items" "[I") (by decide +kernel)) (fun _ h9 => h9) rfl dX12_sheet_76 ?_
                                                          refine lv_bipush (v := 40) hx hb dX12_sheet_79 (by decide) ?_
                                                          refine lv_iload_n hx hb dX12_sheet_81 rfl (lv_at hl 2 rfl) ?_
                                                          refine lv_imul hx hb dX12_sheet_82 ?_
                                                          refine lz_top (y := 40) (by decide) ?_
                                                          refine lv_iload hx hb dX12_sheet_83 (lv_at hl 0 rfl) ?_
                                                          refine lv_iadd hx hb dX12_sheet_85 ?_
                                                          refine lz_top (y := 54) (by decide) ?_
                                                          refine lv_iconst (v := 0) hx hb dX12_sheet_86 (by decide) ?_
                                                          refine lz_astc hx hb hK hP hD hS 3 0 rfl rfl (lz_vp (x := 54) (n := 160) (by decide) (by decide)) dX12_sheet_87 (fun H locs hP hD hS => ?_)
                                                          refine lv_iinc (v := 15) (lv' := [(4, .int 15), (0, .ref h0), (1, .int 1), (2, .int x1), (3, .int x2)]) hx hb dX12_sheet_88 hl (k := 0) rfl (by decide) (by decide) rfl (fun ls hl => ?_)
                                                          refine lv_goto (tgt := 68) hx hb dX12_sheet_91 (by decide) ?_
                                                          refine lv_iload hx hb dX12_sheet_68 (lv_at hl 0 rfl) ?_
                                                          refine lv_bipush (v := 40) hx hb dX12_sheet_70 (by decide) ?_
                                                          refine lv_icmp_ge (tgt := 94) hx hb dX12_sheet_72 (by decide) (fun c2342 => ?_) (fun c2342 => ?_)
                                                          · exact absurd c2342 (by decide)
                                                          · refine lv_aload_n hx hb dX12_sheet_75 rfl (lv_at hl 1 rfl) ?_
                                                            refine va_get (D := D) (ci := 12) (v := .ref h11) (C := RX12) (T := TX12) (N := 24) hx hb hts hin12 hown hK hP 0 rfl rfl 18 (by decide) (hts (.fieldLink RX12 44 "MissedPointsModel" "items" "[I") (by decide +kernel)) (fun _ h9 => h9) rfl dX12_sheet_76 ?_
                                                            refine lv_bipush (v := 40) hx hb dX12_sheet_79 (by decide) ?_
                                                            refine lv_iload_n hx hb dX12_sheet_81 rfl (lv_at hl 2 rfl) ?_
                                                            refine lv_imul hx hb dX12_sheet_82 ?_
                                                            refine lz_top (y := 40) (by decide) ?_
                                                            refine lv_iload hx hb dX12_sheet_83 (lv_at hl 0 rfl) ?_
                                                            refine lv_iadd hx hb dX12_sheet_85 ?_
                                                            refine lz_top (y := 55) (by decide) ?_
                                                            refine lv_iconst (v := 0) hx hb dX12_sheet_86 (by decide) ?_
                                                            refine lz_astc hx hb hK hP hD hS 3 0 rfl rfl (lz_vp (x := 55) (n := 160) (by decide) (by decide)) dX12_sheet_87 (fun H locs hP hD hS => ?_)
                                                            refine lv_iinc (v := 16) (lv' := [(4, .int 16), (0, .ref h0), (1, .int 1), (2, .int x1), (3, .int x2)]) hx hb dX12_sheet_88 hl (k := 0) rfl (by decide) (by decide) rfl (fun ls hl => ?_)
                                                            refine lv_goto (tgt := 68) hx hb dX12_sheet_91 (by decide) ?_
                                                            refine lv_iload hx hb dX12_sheet_68 (lv_at hl 0 rfl) ?_
                                                            refine lv_bipush (v := 40) hx hb dX12_sheet_70 (by decide) ?_
                                                            refine lv_icmp_ge (tgt := 94) hx hb dX12_sheet_72 (by decide) (fun c2343 => ?_) (fun c2343 => ?_)
                                                            · exact absurd c2343 (by decide)
                                                            · refine lv_aload_n hx hb dX12_sheet_75 rfl (lv_at hl 1 rfl) ?_
                                                              refine va_get (D := D) (ci := 12) (v := .ref h11) (C := RX12) (T := TX12) (N := 24) hx hb hts hin12 hown hK hP 0 rfl rfl 18 (by decide) (hts (.fieldLink RX12 44 "MissedPointsModel" "items" "[I") (by decide +kernel)) (fun _ h9 => h9) rfl dX12_sheet_76 ?_
                                                              refine lv_bipush (v := 40) hx hb dX12_sheet_79 (by decide) ?_
                                                              refine lv_iload_n hx hb dX12_sheet_81 rfl (lv_at hl 2 rfl) ?_
                                                              refine lv_imul hx hb dX12_sheet_82 ?_
                                                              refine lz_top (y := 40) (by decide) ?_
                                                              refine lv_iload hx hb dX12_sheet_83 (lv_at hl 0 rfl) ?_
                                                              refine lv_iadd hx hb dX12_sheet_85 ?_
                                                              refine lz_top (y := 56) (by decide) ?_
                                                              refine lv_iconst (v := 0) hx hb dX12_sheet_86 (by decide) ?_
                                                              refine lz_astc hx hb hK hP hD hS 3 0 rfl rfl (lz_vp (x := 56) (n := 160) (by decide) (by decide)) dX12_sheet_87 (fun H locs hP hD hS => ?_)
                                                              refine lv_iinc (v := 17) (lv' := [(4, .int 17), (0, .ref h0), (1, .int 1), (2, .int x1), (3, .int x2)]) hx hb dX12_sheet_88 hl (k := 0) rfl (by decide) (by decide) rfl (fun ls hl => ?_)
                                                              refine lv_goto (tgt := 68) hx hb dX12_sheet_91 (by decide) ?_
                                                              refine lv_iload hx hb dX12_sheet_68 (lv_at hl 0 rfl) ?_
                                                              refine lv_bipush (v := 40) hx hb dX12_sheet_70 (by decide) ?_
                                                              refine lv_icmp_ge (tgt := 94) hx hb dX12_sheet_72 (by decide) (fun c2344 => ?_) (fun c2344 => ?_)
                                                              · exact absurd c2344 (by decide)
                                                              · refine lv_aload_n hx hb dX12_sheet_75 rfl (lv_at hl 1 rfl) ?_
                                                                refine va_get (D := D) (ci := 12) (v := .ref h11) (C := RX12) (T := TX12) (N := 24) hx hb hts hin12 hown hK hP 0 rfl rfl 18 (by decide) (hts (.fieldLink RX12 44 "MissedPointsModel" "items" "[I") (by decide +kernel)) (fun _ h9 => h9) rfl dX12_sheet_76 ?_
                                                                refine lv_bipush (v := 40) hx hb dX12_sheet_79 (by decide) ?_
                                                                refine lv_iload_n hx hb dX12_sheet_81 rfl (lv_at hl 2 rfl) ?_
                                                                refine lv_imul hx hb dX12_sheet_82 ?_
                                                                refine lz_top (y := 40) (by decide) ?_
                                                                refine lv_iload hx hb dX12_sheet_83 (lv_at hl 0 rfl) ?_
                                                                refine lv_iadd hx hb dX12_sheet_85 ?_
                                                                refine lz_top (y := 57) (by decide) ?_
                                                                refine lv_iconst (v := 0) hx hb dX12_sheet_86 (by decide) ?_
                                                                refine lz_astc hx hb hK hP hD hS 3 0 rfl rfl (lz_vp (x := 57) (n := 160) (by decide) (by decide)) dX12_sheet_87 (fun H locs hP hD hS => ?_)
                                                                refine lv_iinc (v := 18) (lv' := [(4, .int 18), (0, .ref h0), (1, .int 1), (2, .int x1), (3, .int x2)]) hx hb dX12_sheet_88 hl (k := 0) rfl (by decide) (by decide) rfl (fun ls hl => ?_)
                                                                refine lv_goto (tgt := 68) hx hb dX12_sheet_91 (by decide) ?_
                                                                refine lv_iload hx hb dX12_sheet_68 (lv_at hl 0 rfl) ?_
                                                                refine lv_bipush (v := 40) hx hb dX12_sheet_70 (by decide) ?_
                                                                refine lv_icmp_ge (tgt := 94) hx hb dX12_sheet_72 (by decide) (fun c2345 => ?_) (fun c2345 => ?_)
                                                                · exact absurd c2345 (by decide)
                                                                · refine lv_aload_n hx hb dX12_sheet_75 rfl (lv_at hl 1 rfl) ?_
                                                                  refine va_get (D := D) (ci := 12) (v := .ref h11) (C := RX12) (T := TX12) (N := 24) hx hb hts hin12 hown hK hP 0 rfl rfl 18 (by decide) (hts (.fieldLink RX12 44 "MissedPointsModel" "items" "[I") (by decide +kernel)) (fun _ h9 => h9) rfl dX12_sheet_76 ?_
                                                                  refine lv_bipush (v := 40) hx hb dX12_sheet_79 (by decide) ?_
                                                                  refine lv_iload_n hx hb dX12_sheet_81 rfl (lv_at hl 2 rfl) ?_
                                                                  refine lv_imul hx hb dX12_sheet_82 ?_
                                                                  refine lz_top (y := 40) (by decide) ?_
                                                                  refine lv_iload hx hb dX12_sheet_83 (lv_at hl 0 rfl) ?_
                                                                  refine lv_iadd hx hb dX12_sheet_85 ?_
                                                                  refine lz_top (y := 58) (by decide) ?_
                                                                  refine lv_iconst (v := 0) hx hb dX12_sheet_86 (by decide) ?_
                                                                  refine lz_astc hx hb hK hP hD hS 3 0 rfl rfl (lz_vp (x := 58) (n := 160) (by decide) (by decide)) dX12_sheet_87 (fun H locs hP hD hS => ?_)
                                                                  refine lv_iinc (v := 19) (lv' := [(4, .int 19), (0, .ref h0), (1, .int 1), (2, .int x1), (3, .int x2)]) hx hb dX12_sheet_88 hl (k := 0) rfl (by decide) (by decide) rfl (fun ls hl => ?_)
                                                                  refine lv_goto (tgt := 68) hx hb dX12_sheet_91 (by decide) ?_
                                                                  refine lv_iload hx hb dX12_sheet_68 (lv_at hl 0 rfl) ?_
                                                                  refine lv_bipush (v := 40) hx hb dX12_sheet_70 (by decide) ?_
                                                                  refine lv_icmp_ge (tgt := 94) hx hb dX12_sheet_72 (by decide) (fun c2346 => ?_) (fun c2346 => ?_)
                                                                  · exact absurd c2346 (by decide)
                                                                  · refine lv_aload_n hx hb dX12_sheet_75 rfl (lv_at hl 1 rfl) ?_
                                                                    refine va_get (D := D) (ci := 12) (v := .ref h11) (C := RX12) (T := TX12) (N := 24) hx hb hts hin12 hown hK hP 0 rfl rfl 18 (by decide) (hts (.fieldLink RX12 44 "MissedPointsModel" "items" "[I") (by decide +kernel)) (fun _ h9 => h9) rfl dX12_sheet_76 ?_
                                                                    refine lv_bipush (v := 40) hx hb dX12_sheet_79 (by decide) ?_
                                                                    refine lv_iload_n hx hb dX12_sheet_81 rfl (lv_at hl 2 rfl) ?_
                                                                    refine lv_imul hx hb dX12_sheet_82 ?_
                                                                    refine lz_top (y := 40) (by decide) ?_
                                                                    refine lv_iload hx hb dX12_sheet_83 (lv_at hl 0 rfl) ?_
                                                                    refine lv_iadd hx hb dX12_sheet_85 ?_
                                                                    refine lz_top (y := 59) (by decide) ?_
                                                                    refine lv_iconst (v := 0) hx hb dX12_sheet_86 (by decide) ?_
                                                                    refine lz_astc hx hb hK hP hD hS 3 0 rfl rfl (lz_vp (x := 59) (n := 160) (by decide) (by decide)) dX12_sheet_87 (fun H locs hP hD hS => ?_)
                                                                    refine lv_iinc (v := 20) (lv' := [(4, .int 20), (0, .ref h0), (1, .int 1), (2, .int x1), (3, .int x2)]) hx hb dX12_sheet_88 hl (k := 0) rfl (by decide) (by decide) rfl (fun ls hl => ?_)
                                                                    refine lv_goto (tgt := 68) hx hb dX12_sheet_91 (by decide) ?_
                                                                    refine lv_iload hx hb dX12_sheet_68 (lv_at hl 0 rfl) ?_
                                                                    refine lv_bipush (v := 40) hx hb dX12_sheet_70 (by decide) ?_
                                                                    refine lv_icmp_ge (tgt := 94) hx hb dX12_sheet_72 (by decide) (fun c2347 => ?_) (fun c2347 => ?_)
                                                                    · exact absurd c2347 (by decide)
                                                                    · refine lv_aload_n hx hb dX12_sheet_75 rfl (lv_at hl 1 rfl) ?_
                                                                      refine va_get (D := D) (ci := 12) (v := .ref h11) (C := RX12) (T := TX12) (N := 24) hx hb hts hin12 hown hK hP 0 rfl rfl 18 (by decide) (hts (.fieldLink RX12 44 "MissedPointsModel" "items" "[I") (by decide +kernel)) (fun _ h9 => h9) rfl dX12_sheet_76 ?_
                                                                      refine lv_bipush (v := 40) hx hb dX12_sheet_79 (by decide) ?_
                                                                      refine lv_iload_n hx hb dX12_sheet_81 rfl (lv_at hl 2 rfl) ?_
                                                                      refine lv_imul hx hb dX12_sheet_82 ?_
                                                                      refine lz_top (y := 40) (by decide) ?_
                                                                      refine lv_iload hx hb dX12_sheet_83 (lv_at hl 0 rfl) ?_
                                                                      refine lv_iadd hx hb dX12_sheet_85 ?_
                                                                      refine lz_top (y := 60) (by decide) ?_
                                                                      refine lv_iconst (v := 0) hx hb dX12_sheet_86 (by decide) ?_
                                                                      refine lz_astc hx hb hK hP hD hS 3 0 rfl rfl (lz_vp (x := 60) (n := 160) (by decide) (by decide)) dX12_sheet_87 (fun H locs hP hD hS => ?_)
                                                                      refine lv_iinc (v := 21) (lv' := [(4, .int 21), (0, .ref h0), (1, .int 1), (2, .int x1), (3, .int x2)]) hx hb dX12_sheet_88 hl (k := 0) rfl (by decide) (by decide) rfl (fun ls hl => ?_)
                                                                      refine lv_goto (tgt := 68) hx hb dX12_sheet_91 (by decide) ?_
                                                                      refine lv_iload hx hb dX12_sheet_68 (lv_at hl 0 rfl) ?_
                                                                      refine lv_bipush (v := 40) hx hb dX12_sheet_70 (by decide) ?_
                                                                      refine lv_icmp_ge (tgt := 94) hx hb dX12_sheet_72 (by decide) (fun c2348 => ?_) (fun c2348 => ?_)
                                                                      · exact absurd c2348 (by decide)
                                                                      · refine lv_aload_n hx hb dX12_sheet_75 rfl (lv_at hl 1 rfl) ?_
                                                                        refine va_get (D := D) (ci := 12) (v := .ref h11) (C := RX12) (T := TX12) (N := 24) hx hb hts hin12 hown hK hP 0 rfl rfl 18 (by decide) (hts (.fieldLink RX12 44 "MissedPointsModel" "items" "[I") (by decide +kernel)) (fun _ h9 => h9) rfl dX12_sheet_76 ?_
                                                                        refine lv_bipush (v := 40) hx hb dX12_sheet_79 (by decide) ?_
                                                                        refine lv_iload_n hx hb dX12_sheet_81 rfl (lv_at hl 2 rfl) ?_
                                                                        refine lv_imul hx hb dX12_sheet_82 ?_
                                                                        refine lz_top (y := 40) (by decide) ?_
                                                                        refine lv_iload hx hb dX12_sheet_83 (lv_at hl 0 rfl) ?_
                                                                        refine lv_iadd hx hb dX12_sheet_85 ?_
                                                                        refine lz_top (y := 61) (by decide) ?_
                                                                        refine lv_iconst (v := 0) hx hb dX12_sheet_86 (by decide) ?_
                                                                        refine lz_astc hx hb hK hP hD hS 3 0 rfl rfl (lz_vp (x := 61) (n := 160) (by decide) (by decide)) dX12_sheet_87 (fun H locs hP hD hS => ?_)
                                                                        refine lv_iinc (v := 22) (lv' := [(4, .int 22), (0, .ref h0), (1, .int 1), (2, .int x1), (3, .int x2)]) hx hb dX12_sheet_88 hl (k := 0) rfl (by decide) (by decide) rfl (fun ls hl => ?_)
                                                                        refine lv_goto (tgt := 68) hx hb dX12_sheet_91 (by decide) ?_
                                                                        refine lv_iload hx hb dX12_sheet_68 (lv_at hl 0 rfl) ?_
                                                                        refine lv_bipush (v := 40) hx hb dX12_sheet_70 (by decide) ?_
                                                                        refine lv_icmp_ge (tgt := 94) hx hb dX12_sheet_72 (by decide) (fun c2349 => ?_) (fun c2349 => ?_)
                                                                        · exact absurd c2349 (by decide)
                                                                        · refine lv_aload_n hx hb dX12_sheet_75 rfl (lv_at hl 1 rfl) ?_
                                                                          refine va_get (D := D) (ci := 12) (v := .ref h11) (C := RX12) (T := TX12) (N := 24) hx hb hts hin12 hown hK hP 0 rfl rfl 18 (by decide) (hts (.fieldLink RX12 44 "MissedPointsModel" "items" "[I") (by decide +kernel)) (fun _ h9 => h9) rfl dX12_sheet_76 ?_
                                                                          refine lv_bipush (v := 40) hx hb dX12_sheet_79 (by decide) ?_
                                                                          refine lv_iload_n hx hb dX12_sheet_81 rfl (lv_at hl 2 rfl) ?_
                                                                          refine lv_imul hx hb dX12_sheet_82 ?_
                                                                          refine lz_top (y := 40) (by decide) ?_
                                                                          refine lv_iload hx hb dX12_sheet_83 (lv_at hl 0 rfl) ?_
                                                                          refine lv_iadd hx hb dX12_sheet_85 ?_
                                                                          refine lz_top (y := 62) (by decide) ?_
                                                                          refine lv_iconst (v := 0) hx hb dX12_sheet_86 (by decide) ?_
                                                                          refine lz_astc hx hb hK hP hD hS 3 0 rfl rfl (lz_vp (x := 62) (n := 160) (by decide) (by decide)) dX12_sheet_87 (fun H locs hP hD hS => ?_)
                                                                          refine lv_iinc (v := 23) (lv' := [(4, .int 23), (0, .ref h0), (1, .int 1), (2, .int x1), (3, .int x2)]) hx hb dX12_sheet_88 hl (k := 0) rfl (by decide) (by decide) rfl (fun ls hl => ?_)
                                                                          refine lv_goto (tgt := 68) hx hb dX12_sheet_91 (by decide) ?_
                                                                          refine lv_iload hx hb dX12_sheet_68 (lv_at hl 0 rfl) ?_
                                                                          refine lv_bipush (v := 40) hx hb dX12_sheet_70 (by decide) ?_
                                                                          refine lv_icmp_ge (tgt := 94) hx hb dX12_sheet_72 (by decide) (fun c2350 => ?_) (fun c2350 => ?_)
                                                                          · exact absurd c2350 (by decide)
                                                                          · refine lv_aload_n hx hb dX12_sheet_75 rfl (lv_at hl 1 rfl) ?_
                                                                            refine va_get (D := D) (ci := 12) (v := .ref h11) (C := RX12) (T := TX12) (N := 24) hx hb hts hin12 hown hK hP 0 rfl rfl 18 (by decide) (hts (.fieldLink RX12 44 "MissedPointsModel" "items" "[I") (by decide +kernel)) (fun _ h9 => h9) rfl dX12_sheet_76 ?_
                                                                            refine lv_bipush (v := 40) hx hb dX12_sheet_79 (by decide) ?_
                                                                            refine lv_iload_n hx hb dX12_sheet_81 rfl (lv_at hl 2 rfl) ?_
                                                                            refine lv_imul hx hb dX12_sheet_82 ?_
                                                                            refine lz_top (y := 40) (by decide) ?_
                                                                            refine lv_iload hx hb dX12_sheet_83 (lv_at hl 0 rfl) ?_
                                                                            refine lv_iadd hx hb dX12_sheet_85 ?_
                                                                            refine lz_top (y := 63) (by decide) ?_
                                                                            refine lv_iconst (v := 0) hx hb dX12_sheet_86 (by decide) ?_
                                                                            refine lz_astc hx hb hK hP hD hS 3 0 rfl rfl (lz_vp (x := 63) (n := 160) (by decide) (by decide)) dX12_sheet_87 (fun H locs hP hD hS => ?_)
                                                                            refine lv_iinc (v := 24) (lv' := [(4, .int 24), (0, .ref h0), (1, .int 1), (2, .int x1), (3, .int x2)]) hx hb dX12_sheet_88 hl (k := 0) rfl (by decide) (by decide) rfl (fun ls hl => ?_)
                                                                            refine lv_goto (tgt := 68) hx hb dX12_sheet_91 (by decide) ?_
                                                                            refine lv_iload hx hb dX12_sheet_68 (lv_at hl 0 rfl) ?_
                                                                            refine lv_bipush (v := 40) hx hb dX12_sheet_70 (by decide) ?_
                                                                            refine lv_icmp_ge (tgt := 94) hx hb dX12_sheet_72 (by decide) (fun c2351 => ?_) (fun c2351 => ?_)
                                                                            · exact absurd c2351 (by decide)
                                                                            · refine lv_aload_n hx hb dX12_sheet_75 rfl (lv_at hl 1 rfl) ?_
                                                                              refine va_get (D := D) (ci := 12) (v := .ref h11) (C := RX12) (T := TX12) (N := 24) hx hb hts hin12 hown hK hP 0 rfl rfl 18 (by decide) (hts (.fieldLink RX12 44 "MissedPointsModel" "items" "[I") (by decide +kernel)) (fun _ h9 => h9) rfl dX12_sheet_76 ?_
                                                                              refine lv_bipush (v := 40) hx hb dX12_sheet_79 (by decide) ?_
                                                                              refine lv_iload_n hx hb dX12_sheet_81 rfl (lv_at hl 2 rfl) ?_
                                                                              refine lv_imul hx hb dX12_sheet_82 ?_
                                                                              refine lz_top (y := 40) (by decide) ?_
                                                                              refine lv_iload hx hb dX12_sheet_83 (lv_at hl 0 rfl) ?_
                                                                              refine lv_iadd hx hb dX12_sheet_85 ?_
                                                                              refine lz_top (y := 64) (by decide) ?_
                                                                              refine lv_iconst (v := 0) hx hb dX12_sheet_86 (by decide) ?_
                                                                              refine lz_astc hx hb hK hP hD hS 3 0 rfl rfl (lz_vp (x := 64) (n := 160) (by decide) (by decide)) dX12_sheet_87 (fun H locs hP hD hS => ?_)
                                                                              refine lv_iinc (v := 25) (lv' := [(4, .int 25), (0, .ref h0), (1, .int 1), (2, .int x1), (3, .int x2)]) hx hb dX12_sheet_88 hl (k := 0) rfl (by decide) (by decide) rfl (fun ls hl => ?_)
                                                                              refine lv_goto (tgt := 68) hx hb dX12_sheet_91 (by decide) ?_
                                                                              refine lv_iload hx hb dX12_sheet_68 (lv_at hl 0 rfl) ?_
                                                                              refine lv_bipush (v := 40) hx hb dX12_sheet_70 (by decide) ?_
                                                                              refine lv_icmp_ge (tgt := 94) hx hb dX12_sheet_72 (by decide) (fun c2352 => ?_) (fun c2352 => ?_)
                                                                              · exact absurd c2352 (by decide)
                                                                              · refine lv_aload_n hx hb dX12_sheet_75 rfl (lv_at hl 1 rfl) ?_
                                                                                refine va_get (D := D) (ci := 12) (v := .ref h11) (C := RX12) (T := TX12) (N := 24) hx hb hts hin12 hown hK hP 0 rfl rfl 18 (by decide) (hts (.fieldLink RX12 44 "MissedPointsModel" "items" "[I") (by decide +kernel)) (fun _ h9 => h9) rfl dX12_sheet_76 ?_
                                                                                refine lv_bipush (v := 40) hx hb dX12_sheet_79 (by decide) ?_
                                                                                refine lv_iload_n hx hb dX12_sheet_81 rfl (lv_at hl 2 rfl) ?_
                                                                                refine lv_imul hx hb dX12_sheet_82 ?_
                                                                                refine lz_top (y := 40) (by decide) ?_
                                                                                refine lv_iload hx hb dX12_sheet_83 (lv_at hl 0 rfl) ?_
                                                                                refine lv_iadd hx hb dX12_sheet_85 ?_
                                                                                refine lz_top (y := 65) (by decide) ?_
                                                                                refine lv_iconst (v := 0) hx hb dX12_sheet_86 (by decide) ?_
                                                                                refine lz_astc hx hb hK hP hD hS 3 0 rfl rfl (lz_vp (x := 65) (n := 160) (by decide) (by decide)) dX12_sheet_87 (fun H locs hP hD hS => ?_)
                                                                                refine lv_iinc (v := 26) (lv' := [(4, .int 26), (0, .ref h0), (1, .int 1), (2, .int x1), (3, .int x2)]) hx hb dX12_sheet_88 hl (k := 0) rfl (by decide) (by decide) rfl (fun ls hl => ?_)
                                                                                refine lv_goto (tgt := 68) hx hb dX12_sheet_91 (by decide) ?_
                                                                                refine lv_iload hx hb dX12_sheet_68 (lv_at hl 0 rfl) ?_
                                                                                refine lv_bipush (v := 40) hx hb dX12_sheet_70 (by decide) ?_
                                                                                refine lv_icmp_ge (tgt := 94) hx hb dX12_sheet_72 (by decide) (fun c2353 => ?_) (fun c2353 => ?_)
                                                                                · exact absurd c2353 (by decide)
                                                                                · refine lv_aload_n hx hb dX12_sheet_75 rfl (lv_at hl 1 rfl) ?_
                                                                                  refine va_get (D := D) (ci := 12) (v := .ref h11) (C := RX12) (T := TX12) (N := 24) hx hb hts hin12 hown hK hP 0 rfl rfl 18 (by decide) (hts (.fieldLink RX12 44 "MissedPointsModel" "items" "[I") (by decide +kernel)) (fun _ h9 => h9) rfl dX12_sheet_76 ?_
                                                                                  refine lv_bipush (v := 40) hx hb dX12_sheet_79 (by decide) ?_
                                                                                  refine lv_iload_n hx hb dX12_sheet_81 rfl (lv_at hl 2 rfl) ?_
                                                                                  refine lv_imul hx hb dX12_sheet_82 ?_
                                                                                  refine lz_top (y := 40) (by decide) ?_
                                                                                  refine lv_iload hx hb dX12_sheet_83 (lv_at hl 0 rfl) ?_
                                                                                  refine lv_iadd hx hb dX12_sheet_85 ?_
                                                                                  refine lz_top (y := 66) (by decide) ?_
                                                                                  refine lv_iconst (v := 0) hx hb dX12_sheet_86 (by decide) ?_
                                                                                  refine lz_astc hx hb hK hP hD hS 3 0 rfl rfl (lz_vp (x := 66) (n := 160) (by decide) (by decide)) dX12_sheet_87 (fun H locs hP hD hS => ?_)
                                                                                  refine lv_iinc (v := 27) (lv' := [(4, .int 27), (0, .ref h0), (1, .int 1), (2, .int x1), (3, .int x2)]) hx hb dX12_sheet_88 hl (k := 0) rfl (by decide) (by decide) rfl (fun ls hl => ?_)
                                                                                  refine lv_goto (tgt := 68) hx hb dX12_sheet_91 (by decide) ?_
                                                                                  refine lv_iload hx hb dX12_sheet_68 (lv_at hl 0 rfl) ?_
                                                                                  refine lv_bipush (v := 40) hx hb dX12_sheet_70 (by decide) ?_
                                                                                  refine lv_icmp_ge (tgt := 94) hx hb dX12_sheet_72 (by decide) (fun c2354 => ?_) (fun c2354 => ?_)
                                                                                  · exact absurd c2354 (by decide)
                                                                                  · refine lv_aload_n hx hb dX12_sheet_75 rfl (lv_at hl 1 rfl) ?_
                                                                                    refine va_get (D := D) (ci := 12) (v := .ref h11) (C := RX12) (T := TX12) (N := 24) hx hb hts hin12 hown hK hP 0 rfl rfl 18 (by decide) (hts (.fieldLink RX12 44 "MissedPointsModel" "items" "[I") (by decide +kernel)) (fun _ h9 => h9) rfl dX12_sheet_76 ?_
                                                                                    refine lv_bipush (v := 40) hx hb dX12_sheet_79 (by decide) ?_
                                                                                    refine lv_iload_n hx hb dX12_sheet_81 rfl (lv_at hl 2 rfl) ?_
                                                                                    refine lv_imul hx hb dX12_sheet_82 ?_
                                                                                    refine lz_top (y := 40) (by decide) ?_
                                                                                    refine lv_iload hx hb dX12_sheet_83 (lv_at hl 0 rfl) ?_
                                                                                    refine lv_iadd hx hb dX12_sheet_85 ?_
                                                                                    refine lz_top (y := 67) (by decide) ?_
                                                                                    refine lv_iconst (v := 0) hx hb dX12_sheet_86 (by decide) ?_
                                                                                    refine lz_astc hx hb hK hP hD hS 3 0 rfl rfl (lz_vp (x := 67) (n := 160) (by decide) (by decide)) dX12_sheet_87 (fun H locs hP hD hS => ?_)
                                                                                    refine lv_iinc (v := 28) (lv' := [(4, .int 28), (0, .ref h0), (1, .int 1), (2, .int x1), (3, .int x2)]) hx hb dX12_sheet_88 hl (k := 0) rfl (by decide) (by decide) rfl (fun ls hl => ?_)
                                                                                    refine lv_goto (tgt := 68) hx hb dX12_sheet_91 (by decide) ?_
                                                                                    refine lv_iload hx hb dX12_sheet_68 (lv_at hl 0 rfl) ?_
                                                                                    refine lv_bipush (v := 40) hx hb dX12_sheet_70 (by decide) ?_
                                                                                    refine lv_icmp_ge (tgt := 94) hx hb dX12_sheet_72 (by decide) (fun c2355 => ?_) (fun c2355 => ?_)
                                                                                    · exact absurd c2355 (by decide)
                                                                                    · refine lv_aload_n hx hb dX12_sheet_75 rfl (lv_at hl 1 rfl) ?_
                                                                                      refine va_get (D := D) (ci := 12) (v := .ref h11) (C := RX12) (T := TX12) (N := 24) hx hb hts hin12 hown hK hP 0 rfl rfl 18 (by decide) (hts (.fieldLink RX12 44 "MissedPointsModel" "items" "[I") (by decide +kernel)) (fun _ h9 => h9) rfl dX12_sheet_76 ?_
                                                                                      refine lv_bipush (v := 40) hx hb dX12_sheet_79 (by decide) ?_
                                                                                      refine lv_iload_n hx hb dX12_sheet_81 rfl (lv_at hl 2 rfl) ?_
                                                                                      refine lv_imul hx hb dX12_sheet_82 ?_
                                                                                      refine lz_top (y := 40) (by decide) ?_
                                                                                      refine lv_iload hx hb dX12_sheet_83 (lv_at hl 0 rfl) ?_
                                                                                      refine lv_iadd hx hb dX12_sheet_85 ?_
                                                                                      refine lz_top (y := 68) (by decide) ?_
                                                                                      refine lv_iconst (v := 0) hx hb dX12_sheet_86 (by decide) ?_
                                                                                      refine lz_astc hx hb hK hP hD hS 3 0 rfl rfl (lz_vp (x := 68) (n := 160) (by decide) (by decide)) dX12_sheet_87 (fun H locs hP hD hS => ?_)
                                                                                      refine lv_iinc (v := 29) (lv' := [(4, .int 29), (0, .ref h0), (1, .int 1), (2, .int x1), (3, .int x2)]) hx hb dX12_sheet_88 hl (k := 0) rfl (by decide) (by decide) rfl (fun ls hl => ?_)
                                                                                      refine lv_goto (tgt := 68) hx hb dX12_sheet_91 (by decide) ?_
                                                                                      refine lv_iload hx hb dX12_sheet_68 (lv_at hl 0 rfl) ?_
                                                                                      refine lv_bipush (v := 40) hx hb dX12_sheet_70 (by decide) ?_
                                                                                      refine lv_icmp_ge (tgt := 94) hx hb dX12_sheet_72 (by decide) (fun c2356 => ?_) (fun c2356 => ?_)
                                                                                      · exact absurd c2356 (by decide)
                                                                                      · refine lv_aload_n hx hb dX12_sheet_75 rfl (lv_at hl 1 rfl) ?_
                                                                                        refine va_get (D := D) (ci := 12) (v := .ref h11) (C := RX12) (T := TX12) (N := 24) hx hb hts hin12 hown hK hP 0 rfl rfl 18 (by decide) (hts (.fieldLink RX12 44 "MissedPointsModel" "items" "[I") (by decide +kernel)) (fun _ h9 => h9) rfl dX12_sheet_76 ?_
                                                                                        refine lv_bipush (v := 40) hx hb dX12_sheet_79 (by decide) ?_
                                                                                        refine lv_iload_n hx hb dX12_sheet_81 rfl (lv_at hl 2 rfl) ?_
                                                                                        refine lv_imul hx hb dX12_sheet_82 ?_
                                                                                        refine lz_top (y := 40) (by decide) ?_
                                                                                        refine lv_iload hx hb dX12_sheet_83 (lv_at hl 0 rfl) ?_
                                                                                        refine lv_iadd hx hb dX12_sheet_85 ?_
                                                                                        refine lz_top (y := 69) (by decide) ?_
                                                                                        refine lv_iconst (v := 0) hx hb dX12_sheet_86 (by decide) ?_
                                                                                        refine lz_astc hx hb hK hP hD hS 3 0 rfl rfl (lz_vp (x := 69) (n := 160) (by decide) (by decide)) dX12_sheet_87 (fun H locs hP hD hS => ?_)
                                                                                        refine lv_iinc (v := 30) (lv' := [(4, .int 30), (0, .ref h0), (1, .int 1), (2, .int x1), (3, .int x2)]) hx hb dX12_sheet_88 hl (k := 0) rfl (by decide) (by decide) rfl (fun ls hl => ?_)
                                                                                        refine lv_goto (tgt := 68) hx hb dX12_sheet_91 (by decide) ?_
                                                                                        refine lv_iload hx hb dX12_sheet_68 (lv_at hl 0 rfl) ?_
                                                                                        refine lv_bipush (v := 40) hx hb dX12_sheet_70 (by decide) ?_
                                                                                        refine lv_icmp_ge (tgt := 94) hx hb dX12_sheet_72 (by decide) (fun c2357 => ?_) (fun c2357 => ?_)
                                                                                        · exact absurd c2357 (by decide)
                                                                                        · refine lv_aload_n hx hb dX12_sheet_75 rfl (lv_at hl 1 rfl) ?_
                                                                                          refine va_get (D := D) (ci := 12) (v := .ref h11) (C := RX12) (T := TX12) (N := 24) hx hb hts hin12 hown hK hP 0 rfl rfl 18 (by decide) (hts (.fieldLink RX12 44 "MissedPointsModel" "items" "[I") (by decide +kernel)) (fun _ h9 => h9) rfl dX12_sheet_76 ?_
                                                                                          refine lv_bipush (v := 40) hx hb dX12_sheet_79 (by decide) ?_
                                                                                          refine lv_iload_n hx hb dX12_sheet_81 rfl (lv_at hl 2 rfl) ?_
                                                                                          refine lv_imul hx hb dX12_sheet_82 ?_
                                                                                          refine lz_top (y := 40) (by decide) ?_
                                                                                          refine lv_iload hx hb dX12_sheet_83 (lv_at hl 0 rfl) ?_
                                                                                          refine lv_iadd hx hb dX12_sheet_85 ?_
                                                                                          refine lz_top (y := 70) (by decide) ?_
                                                                                          refine lv_iconst (v := 0) hx hb dX12_sheet_86 (by decide) ?_
                                                                                          refine lz_astc hx hb hK hP hD hS 3 0 rfl rfl (lz_vp (x := 70) (n := 160) (by decide) (by decide)) dX12_sheet_87 (fun H locs hP hD hS => ?_)
                                                                                          refine lv_iinc (v := 31) (lv' := [(4, .int 31), (0, .ref h0), (1, .int 1), (2, .int x1), (3, .int x2)]) hx hb dX12_sheet_88 hl (k := 0) rfl (by decide) (by decide) rfl (fun ls hl => ?_)
                                                                                          refine lv_goto (tgt := 68) hx hb dX12_sheet_91 (by decide) ?_
                                                                                          refine lv_iload hx hb dX12_sheet_68 (lv_at hl 0 rfl) ?_
                                                                                          refine lv_bipush (v := 40) hx hb dX12_sheet_70 (by decide) ?_
                                                                                          refine lv_icmp_ge (tgt := 94) hx hb dX12_sheet_72 (by decide) (fun c2358 => ?_) (fun c2358 => ?_)
                                                                                          · exact absurd c2358 (by decide)
                                                                                          · refine lv_aload_n hx hb dX12_sheet_75 rfl (lv_at hl 1 rfl) ?_
                                                                                            refine va_get (D := D) (ci := 12) (v := .ref h11) (C := RX12) (T := TX12) (N := 24) hx hb hts hin12 hown hK hP 0 rfl rfl 18 (by decide) (hts (.fieldLink RX12 44 "MissedPointsModel" "items" "[I") (by decide +kernel)) (fun _ h9 => h9) rfl dX12_sheet_76 ?_
                                                                                            refine lv_bipush (v := 40) hx hb dX12_sheet_79 (by decide) ?_
                                                                                            refine lv_iload_n hx hb dX12_sheet_81 rfl (lv_at hl 2 rfl) ?_
                                                                                            refine lv_imul hx hb dX12_sheet_82 ?_
                                                                                            refine lz_top (y := 40) (by decide) ?_
                                                                                            refine lv_iload hx hb dX12_sheet_83 (lv_at hl 0 rfl) ?_
                                                                                            refine lv_iadd hx hb dX12_sheet_85 ?_
                                                                                            refine lz_top (y := 71) (by decide) ?_
                                                                                            refine lv_iconst (v := 0) hx hb dX12_sheet_86 (by decide) ?_
                                                                                            refine lz_astc hx hb hK hP hD hS 3 0 rfl rfl (lz_vp (x := 71) (n := 160) (by decide) (by decide)) dX12_sheet_87 (fun H locs hP hD hS => ?_)
                                                                                            refine lv_iinc (v := 32) (lv' := [(4, .int 32), (0, .ref h0), (1, .int 1), (2, .int x1), (3, .int x2)]) hx hb dX12_sheet_88 hl (k := 0) rfl (by decide) (by decide) rfl (fun ls hl => ?_)
                                                                                            refine lv_goto (tgt := 68) hx hb dX12_sheet_91 (by decide) ?_
                                                                                            refine lv_iload hx hb dX12_sheet_68 (lv_at hl 0 rfl) ?_
                                                                                            refine lv_bipush (v := 40) hx hb dX12_sheet_70 (by decide) ?_
                                                                                            refine lv_icmp_ge (tgt := 94) hx hb dX12_sheet_72 (by decide) (fun c2359 => ?_) (fun c2359 => ?_)
                                                                                            · exact absurd c2359 (by decide)
                                                                                            · refine lv_aload_n hx hb dX12_sheet_75 rfl (lv_at hl 1 rfl) ?_
                                                                                              refine va_get (D := D) (ci := 12) (v := .ref h11) (C := RX12) (T := TX12) (N := 24) hx hb hts hin12 hown hK hP 0 rfl rfl 18 (by decide) (hts (.fieldLink RX12 44 "MissedPointsModel" "items" "[I") (by decide +kernel)) (fun _ h9 => h9) rfl dX12_sheet_76 ?_
                                                                                              refine lv_bipush (v := 40) hx hb dX12_sheet_79 (by decide) ?_
                                                                                              refine lv_iload_n hx hb dX12_sheet_81 rfl (lv_at hl 2 rfl) ?_
                                                                                              refine lv_imul hx hb dX12_sheet_82 ?_
                                                                                              refine lz_top (y := 40) (by decide) ?_
                                                                                              refine lv_iload hx hb dX12_sheet_83 (lv_at hl 0 rfl) ?_
                                                                                              refine lv_iadd hx hb dX12_sheet_85 ?_
                                                                                              refine lz_top (y := 72) (by decide) ?_
                                                                                              refine lv_iconst (v := 0) hx hb dX12_sheet_86 (by decide) ?_
                                                                                              refine lz_astc hx hb hK hP hD hS 3 0 rfl rfl (lz_vp (x := 72) (n := 160) (by decide) (by decide)) dX12_sheet_87 (fun H locs hP hD hS => ?_)
                                                                                              refine lv_iinc (v := 33) (lv' := [(4, .int 33), (0, .ref h0), (1, .int 1), (2, .int x1), (3, .int x2)]) hx hb dX12_sheet_88 hl (k := 0) rfl (by decide) (by decide) rfl (fun ls hl => ?_)
                                                                                              refine lv_goto (tgt := 68) hx hb dX12_sheet_91 (by decide) ?_
                                                                                              refine lv_iload hx hb dX12_sheet_68 (lv_at hl 0 rfl) ?_
                                                                                              refine lv_bipush (v := 40) hx hb dX12_sheet_70 (by decide) ?_
                                                                                              refine lv_icmp_ge (tgt := 94) hx hb dX12_sheet_72 (by decide) (fun c2360 => ?_) (fun c2360 => ?_)
                                                                                              · exact absurd c2360 (by decide)
                                                                                              · refine lv_aload_n hx hb dX12_sheet_75 rfl (lv_at hl 1 rfl) ?_
                                                                                                refine va_get (D := D) (ci := 12) (v := .ref h11) (C := RX12) (T := TX12) (N := 24) hx hb hts hin12 hown hK hP 0 rfl rfl 18 (by decide) (hts (.fieldLink RX12 44 "MissedPointsModel" "items" "[I") (by decide +kernel)) (fun _ h9 => h9) rfl dX12_sheet_76 ?_
                                                                                                refine lv_bipush (v := 40) hx hb dX12_sheet_79 (by decide) ?_
                                                                                                refine lv_iload_n hx hb dX12_sheet_81 rfl (lv_at hl 2 rfl) ?_
                                                                                                refine lv_imul hx hb dX12_sheet_82 ?_
                                                                                                refine lz_top (y := 40) (by decide) ?_
                                                                                                refine lv_iload hx hb dX12_sheet_83 (lv_at hl 0 rfl) ?_
                                                                                                refine lv_iadd hx hb dX12_sheet_85 ?_
                                                                                                refine lz_top (y := 73) (by decide) ?_
                                                                                                refine lv_iconst (v := 0) hx hb dX12_sheet_86 (by decide) ?_
                                                                                                refine lz_astc hx hb hK hP hD hS 3 0 rfl rfl (lz_vp (x := 73) (n := 160) (by decide) (by decide)) dX12_sheet_87 (fun H locs hP hD hS => ?_)
                                                                                                refine lv_iinc (v := 34) (lv' := [(4, .int 34), (0, .ref h0), (1, .int 1), (2, .int x1), (3, .int x2)]) hx hb dX12_sheet_88 hl (k := 0) rfl (by decide) (by decide) rfl (fun ls hl => ?_)
                                                                                                refine lv_goto (tgt := 68) hx hb dX12_sheet_91 (by decide) ?_
                                                                                                refine lv_iload hx hb dX12_sheet_68 (lv_at hl 0 rfl) ?_
                                                                                                refine lv_bipush (v := 40) hx hb dX12_sheet_70 (by decide) ?_
                                                                                                refine lv_icmp_ge (tgt := 94) hx hb dX12_sheet_72 (by decide) (fun c2361 => ?_) (fun c2361 => ?_)
                                                                                                · exact absurd c2361 (by decide)
                                                                                                · refine lv_aload_n hx hb dX12_sheet_75 rfl (lv_at hl 1 rfl) ?_
                                                                                                  refine va_get (D := D) (ci := 12) (v := .ref h11) (C := RX12) (T := TX12) (N := 24) hx hb hts hin12 hown hK hP 0 rfl rfl 18 (by decide) (hts (.fieldLink RX12 44 "MissedPointsModel" "items" "[I") (by decide +kernel)) (fun _ h9 => h9) rfl dX12_sheet_76 ?_
                                                                                                  refine lv_bipush (v := 40) hx hb dX12_sheet_79 (by decide) ?_
                                                                                                  refine lv_iload_n hx hb dX12_sheet_81 rfl (lv_at hl 2 rfl) ?_
                                                                                                  refine lv_imul hx hb dX12_sheet_82 ?_
                                                                                                  refine lz_top (y := 40) (by decide) ?_
                                                                                                  refine lv_iload hx hb dX12_sheet_83 (lv_at hl 0 rfl) ?_
                                                                                                  refine lv_iadd hx hb dX12_sheet_85 ?_
                                                                                                  refine lz_top (y := 74) (by decide) ?_
                                                                                                  refine lv_iconst (v := 0) hx hb dX12_sheet_86 (by decide) ?_
                                                                                                  refine lz_astc hx hb hK hP hD hS 3 0 rfl rfl (lz_vp (x := 74) (n := 160) (by decide) (by decide)) dX12_sheet_87 (fun H locs hP hD hS => ?_)
                                                                                                  refine lv_iinc (v := 35) (lv' := [(4, .int 35), (0, .ref h0), (1, .int 1), (2, .int x1), (3, .int x2)]) hx hb dX12_sheet_88 hl (k := 0) rfl (by decide) (by decide) rfl (fun ls hl => ?_)
                                                                                                  refine lv_goto (tgt := 68) hx hb dX12_sheet_91 (by decide) ?_
                                                                                                  refine lv_iload hx hb dX12_sheet_68 (lv_at hl 0 rfl) ?_
                                                                                                  refine lv_bipush (v := 40) hx hb dX12_sheet_70 (by decide) ?_
                                                                                                  refine lv_icmp_ge (tgt := 94) hx hb dX12_sheet_72 (by decide) (fun c2362 => ?_) (fun c2362 => ?_)
                                                                                                  · exact absurd c2362 (by decide)
                                                                                                  · refine lv_aload_n hx hb dX12_sheet_75 rfl (lv_at hl 1 rfl) ?_
                                                                                                    refine va_get (D := D) (ci := 12) (v := .ref h11) (C := RX12) (T := TX12) (N := 24) hx hb hts hin12 hown hK hP 0 rfl rfl 18 (by decide) (hts (.fieldLink RX12 44 "MissedPointsModel" "items" "[I") (by decide +kernel)) (fun _ h9 => h9) rfl dX12_sheet_76 ?_
                                                                                                    refine lv_bipush (v := 40) hx hb dX12_sheet_79 (by decide) ?_
                                                                                                    refine lv_iload_n hx hb dX12_sheet_81 rfl (lv_at hl 2 rfl) ?_
                                                                                                    refine lv_imul hx hb dX12_sheet_82 ?_
                                                                                                    refine lz_top (y := 40) (by decide) ?_
                                                                                                    refine lv_iload hx hb dX12_sheet_83 (lv_at hl 0 rfl) ?_
                                                                                                    refine lv_iadd hx hb dX12_sheet_85 ?_
                                                                                                    refine lz_top (y := 75) (by decide) ?_
                                                                                                    refine lv_iconst (v := 0) hx hb dX12_sheet_86 (by decide) ?_
                                                                                                    refine lz_astc hx hb hK hP hD hS 3 0 rfl rfl (lz_vp (x := 75) (n := 160) (by decide) (by decide)) dX12_sheet_87 (fun H locs hP hD hS => ?_)
                                                                                                    refine lv_iinc (v := 36) (lv' := [(4, .int 36), (0, .ref h0), (1, .int 1), (2, .int x1), (3, .int x2)]) hx hb dX12_sheet_88 hl (k := 0) rfl (by decide) (by decide) rfl (fun ls hl => ?_)
                                                                                                    refine lv_goto (tgt := 68) hx hb dX12_sheet_91 (by decide) ?_
                                                                                                    refine lv_iload hx hb dX12_sheet_68 (lv_at hl 0 rfl) ?_
                                                                                                    refine lv_bipush (v := 40) hx hb dX12_sheet_70 (by decide) ?_
                                                                                                    refine lv_icmp_ge (tgt := 94) hx hb dX12_sheet_72 (by decide) (fun c2363 => ?_) (fun c2363 => ?_)
                                                                                                    · exact absurd c2363 (by decide)
                                                                                                    · refine lv_aload_n hx hb dX12_sheet_75 rfl (lv_at hl 1 rfl) ?_
                                                                                                      refine va_get (D := D) (ci := 12) (v := .ref h11) (C := RX12) (T := TX12) (N := 24) hx hb hts hin12 hown hK hP 0 rfl rfl 18 (by decide) (hts (.fieldLink RX12 44 "MissedPointsModel" "items" "[I") (by decide +kernel)) (fun _ h9 => h9) rfl dX12_sheet_76 ?_
                                                                                                      refine lv_bipush (v := 40) hx hb dX12_sheet_79 (by decide) ?_
                                                                                                      refine lv_iload_n hx hb dX12_sheet_81 rfl (lv_at hl 2 rfl) ?_
                                                                                                      refine lv_imul hx hb dX12_sheet_82 ?_
                                                                                                      refine lz_top (y := 40) (by decide) ?_
                                                                                                      refine lv_iload hx hb dX12_sheet_83 (lv_at hl 0 rfl) ?_
                                                                                                      refine lv_iadd hx hb dX12_sheet_85 ?_
                                                                                                      refine lz_top (y := 76) (by decide) ?_
                                                                                                      refine lv_iconst (v := 0) hx hb dX12_sheet_86 (by decide) ?_
                                                                                                      refine lz_astc hx hb hK hP hD hS 3 0 rfl rfl (lz_vp (x := 76) (n := 160) (by decide) (by decide)) dX12_sheet_87 (fun H locs hP hD hS => ?_)
                                                                                                      refine lv_iinc (v := 37) (lv' := [(4, .int 37), (0, .ref h0), (1, .int 1), (2, .int x1), (3, .int x2)]) hx hb dX12_sheet_88 hl (k := 0) rfl (by decide) (by decide) rfl (fun ls hl => ?_)
                                                                                                      refine lv_goto (tgt := 68) hx hb dX12_sheet_91 (by decide) ?_
                                                                                                      refine lv_iload hx hb dX12_sheet_68 (lv_at hl 0 rfl) ?_
                                                                                                      refine lv_bipush (v := 40) hx hb dX12_sheet_70 (by decide) ?_
                                                                                                      refine lv_icmp_ge (tgt := 94) hx hb dX12_sheet_72 (by decide) (fun c2364 => ?_) (fun c2364 => ?_)
                                                                                                      · exact absurd c2364 (by decide)
                                                                                                      · refine lv_aload_n hx hb dX12_sheet_75 rfl (lv_at hl 1 rfl) ?_
                                                                                                        refine va_get (D := D) (ci := 12) (v := .ref h11) (C := RX12) (T := TX12) (N := 24) hx hb hts hin12 hown hK hP 0 rfl rfl 18 (by decide) (hts (.fieldLink RX12 44 "MissedPointsModel" "items" "[I") (by decide +kernel)) (fun _ h9 => h9) rfl dX12_sheet_76 ?_
                                                                                                        refine lv_bipush (v := 40) hx hb dX12_sheet_79 (by decide) ?_
                                                                                                        refine lv_iload_n hx hb dX12_sheet_81 rfl (lv_at hl 2 rfl) ?_
                                                                                                        refine lv_imul hx hb dX12_sheet_82 ?_
                                                                                                        refine lz_top (y := 40) (by decide) ?_
                                                                                                        refine lv_iload hx hb dX12_sheet_83 (lv_at hl 0 rfl) ?_
                                                                                                        refine lv_iadd hx hb dX12_sheet_85 ?_
                                                                                                        refine lz_top (y := 77) (by decide) ?_
                                                                                                        refine lv_iconst (v := 0) hx hb dX12_sheet_86 (by decide) ?_
                                                                                                        refine lz_astc hx hb hK hP hD hS 3 0 rfl rfl (lz_vp (x := 77) (n := 160) (by decide) (by decide)) dX12_sheet_87 (fun H locs hP hD hS => ?_)
                                                                                                        refine lv_iinc (v := 38) (lv' := [(4, .int 38), (0, .ref h0), (1, .int 1), (2, .int x1), (3, .int x2)]) hx hb dX12_sheet_88 hl (k := 0) rfl (by decide) (by decide) rfl (fun ls hl => ?_)
                                                                                                        refine lv_goto (tgt := 68) hx hb dX12_sheet_91 (by decide) ?_
                                                                                                        refine lv_iload hx hb dX12_sheet_68 (lv_at hl 0 rfl) ?_
                                                                                                        refine lv_bipush (v := 40) hx hb dX12_sheet_70 (by decide) ?_
                                                                                                        refine lv_icmp_ge (tgt := 94) hx hb dX12_sheet_72 (by decide) (fun c2365 => ?_) (fun c2365 => ?_)
                                                                                                        · exact absurd c2365 (by decide)
                                                                                                        · refine lv_aload_n hx hb dX12_sheet_75 rfl (lv_at hl 1 rfl) ?_
                                                                                                          refine va_get (D := D) (ci := 12) (v := .ref h11) (C := RX12) (T := TX12) (N := 24) hx hb hts hin12 hown hK hP 0 rfl rfl 18 (by decide) (hts (.fieldLink RX12 44 "MissedPointsModel" "items" "[I") (by decide +kernel)) (fun _ h9 => h9) rfl dX12_sheet_76 ?_
                                                                                                          refine lv_bipush (v := 40) hx hb dX12_sheet_79 (by decide) ?_
                                                                                                          refine lv_iload_n hx hb dX12_sheet_81 rfl (lv_at hl 2 rfl) ?_
                                                                                                          refine lv_imul hx hb dX12_sheet_82 ?_
                                                                                                          refine lz_top (y := 40) (by decide) ?_
                                                                                                          refine lv_iload hx hb dX12_sheet_83 (lv_at hl 0 rfl) ?_
                                                                                                          refine lv_iadd hx hb dX12_sheet_85 ?_
                                                                                                          refine lz_top (y := 78) (by decide) ?_
                                                                                                          refine lv_iconst (v := 0) hx hb dX12_sheet_86 (by decide) ?_
                                                                                                          refine lz_astc hx hb hK hP hD hS 3 0 rfl rfl (lz_vp (x := 78) (n := 160) (by decide) (by decide)) dX12_sheet_87 (fun H locs hP hD hS => ?_)
                                                                                                          refine lv_iinc (v := 39) (lv' := [(4, .int 39), (0, .ref h0), (1, .int 1), (2, .int x1), (3, .int x2)]) hx hb dX12_sheet_88 hl (k := 0) rfl (by decide) (by decide) rfl (fun ls hl => ?_)
                                                                                                          refine lv_goto (tgt := 68) hx hb dX12_sheet_91 (by decide) ?_
                                                                                                          refine lv_iload hx hb dX12_sheet_68 (lv_at hl 0 rfl) ?_
                                                                                                          refine lv_bipush (v := 40) hx hb dX12_sheet_70 (by decide) ?_
                                                                                                          refine lv_icmp_ge (tgt := 94) hx hb dX12_sheet_72 (by decide) (fun c2366 => ?_) (fun c2366 => ?_)
                                                                                                          · exact absurd c2366 (by decide)
                                                                                                          · refine lv_aload_n hx hb dX12_sheet_75 rfl (lv_at hl 1 rfl) ?_
                                                                                                            refine va_get (D := D) (ci := 12) (v := .ref h11) (C := RX12) (T := TX12) (N := 24) hx hb hts hin12 hown hK hP 0 rfl rfl 18 (by decide) (hts (.fieldLink RX12 44 "MissedPointsModel" "items" "[I") (by decide +kernel)) (fun _ h9 => h9) rfl dX12_sheet_76 ?_
                                                                                                            refine lv_bipush (v := 40) hx hb dX12_sheet_79 (by decide) ?_
                                                                                                            refine lv_iload_n hx hb dX12_sheet_81 rfl (lv_at hl 2 rfl) ?_
                                                                                                            refine lv_imul hx hb dX12_sheet_82 ?_
                                                                                                            refine lz_top (y := 40) (by decide) ?_
                                                                                                            refine lv_iload hx hb dX12_sheet_83 (lv_at hl 0 rfl) ?_
                                                                                                            refine lv_iadd hx hb dX12_sheet_85 ?_
                                                                                                            refine lz_top (y := 79) (by decide) ?_
                                                                                                            refine lv_iconst (v := 0) hx hb dX12_sheet_86 (by decide) ?_
                                                                                                            refine lz_astc hx hb hK hP hD hS 3 0 rfl rfl (lz_vp (x := 79) (n := 160) (by decide) (by decide)) dX12_sheet_87 (fun H locs hP hD hS => ?_)
                                                                                                            refine lv_iinc (v := 40) (lv' := [(4, .int 40), (0, .ref h0), (1, .int 1), (2, .int x1), (3, .int x2)]) hx hb dX12_sheet_88 hl (k := 0) rfl (by decide) (by decide) rfl (fun ls hl => ?_)
                                                                                                            refine lv_goto (tgt := 68) hx hb dX12_sheet_91 (by decide) ?_
                                                                                                            refine lv_iload hx hb dX12_sheet_68 (lv_at hl 0 rfl) ?_
                                                                                                            refine lv_bipush (v := 40) hx hb dX12_sheet_70 (by decide) ?_
                                                                                                            refine lv_icmp_ge (tgt := 94) hx hb dX12_sheet_72 (by decide) (fun c2367 => ?_) (fun c2367 => ?_)
                                                                                                            · refine lv_iconst (v := 1) hx hb dX12_sheet_94 (by decide) ?_
                                                                                                              have hP9 := hP.sub (ws' := []) [] rfl
                                                                                                              have hD9 := hD.sub (ws' := []) [] (by decide) rfl
                                                                                                              subst hAe
                                                                                                              exact W.iret (v := 1) hx hb hr (fun t ht hW => ⟨⟨_, (), rfl, by rw [if_neg k2095, if_neg k2097, if_neg k2101, if_neg k2103, if_neg c2106, if_pos c2279, if_pos c2281], by rw [ht]; exact hP9, hD9⟩, hS.F ht⟩) hS.2.2 dX12_sheet_95
                                                                                                            · exact absurd c2367 (by decide)
                          · exact absurd c2326 c2106
                        · by_cases k2368 : x0 = 2
                          · subst k2368
                            refine lv_aload_n hx hb dX12_sheet_42 rfl (lv_at hl 0 rfl) ?_
                            refine va_get (D := D) (ci := 12) (v := .ref h9) (C := RX12) (T := TX12) (N := 24) hx hb hts hin12 hown hK hP 0 rfl rfl 16 (by decide) (hts (.fieldLink RX12 38 "MissedPointsModel" "sort" "[I") (by decide +kernel)) (fun _ h9 => h9) rfl dX12_sheet_43 ?_
                            refine lv_iload_n hx hb dX12_sheet_46 rfl (lv_at hl 1 rfl) ?_
                            refine lv_iload_n hx hb dX12_sheet_47 rfl (lv_at hl 2 rfl) ?_
                            refine va_iast hx hb hK hP hD hS 1 0 rfl rfl (lz_vp (x := 2) (n := 4) (by decide) (by decide)) dX12_sheet_48 (fun H locs hP hD hS => ?_)
                            have hP : va_P D cls [(h0, .inr (12, [.int 0, .int 1, .ref h1, .ref h2, .ref h3, .ref h4, .ref h5, .ref h6, .ref h7, .ref h8, .int 0, .int 0, .int 0, .int 0, .int 0, .int 0, .ref h9, .ref h10, .ref h11, .ref h12, .ref h13, .ref h14, .ref h15, .int 0])), (h9, .inl (cI, 4, .inl (upd (fun _ => -1) 2 x1))), (h10, .inl (cI, 4, .inl (fun _ => 0))), (h11, .inl (cI, 160, .inl (fun _ => 0)))] H := hP
                            have hD : va_D A [(h0, .inr (12, [.int 0, .int 1, .ref h1, .ref h2, .ref h3, .ref h4, .ref h5, .ref h6, .ref h7, .ref h8, .int 0, .int 0, .int 0, .int 0, .int 0, .int 0, .ref h9, .ref h10, .ref h11, .ref h12, .ref h13, .ref h14, .ref h15, .int 0])), (h9, .inl (cI, 4, .inl (upd (fun _ => -1) 2 x1))), (h10, .inl (cI, 4, .inl (fun _ => 0))), (h11, .inl (cI, 160, .inl (fun _ => 0)))] := hD
                            refine lv_aload_n hx hb dX12_sheet_49 rfl (lv_at hl 0 rfl) ?_
                            refine va_get (D := D) (ci := 12) (v := .ref h10) (C := RX12) (T := TX12) (N := 24) hx hb hts hin12 hown hK hP 0 rfl rfl 17 (by decide) (hts (.fieldLink RX12 41 "MissedPointsModel" "size" "[I") (by decide +kernel)) (fun _ h9 => h9) rfl dX12_sheet_50 ?_
                            refine lv_iload_n hx hb dX12_sheet_53 rfl (lv_at hl 1 rfl) ?_
                            refine lv_iload_n hx hb dX12_sheet_54 rfl (lv_at hl 2 rfl) ?_
                            refine lv_iconst (v := (-1)) hx hb dX12_sheet_55 (by decide) ?_
                            refine lv_icmp_ne (tgt := 63) hx hb dX12_sheet_56 (by decide) (fun c2369 => ?_) (fun c2369 => ?_)
                            · refine lv_iload_n hx hb dX12_sheet_63 rfl (lv_at hl 3 rfl) ?_
                              refine va_iast hx hb hK hP hD hS 2 0 rfl rfl (lz_vp (x := 2) (n := 4) (by decide) (by decide)) dX12_sheet_64 (fun H locs hP hD hS => ?_)
                              have hP : va_P D cls [(h0, .inr (12, [.int 0, .int 1, .ref h1, .ref h2, .ref h3, .ref h4, .ref h5, .ref h6, .ref h7, .ref h8, .int 0, .int 0, .int 0, .int 0, .int 0, .int 0, .ref h9, .ref h10, .ref h11, .ref h12, .ref h13, .ref h14, .ref h15, .int 0])), (h9, .inl (cI, 4, .inl (upd (fun _ => -1) 2 x1))), (h10, .inl (cI, 4, .inl (upd (fun _ => 0) 2 x2))), (h11, .inl (cI, 160, .inl (fun _ => 0)))] H := hP
                              have hD : va_D A [(h0, .inr (12, [.int 0, .int 1, .ref h1, .ref h2, .ref h3, .ref h4, .ref h5, .ref h6, .ref h7, .ref h8, .int 0, .int 0, .int 0, .int 0, .int 0, .int 0, .ref h9, .ref h10, .ref h11, .ref h12, .ref h13, .ref h14, .ref h15, .int 0])), (h9, .inl (cI, 4, .inl (upd (fun _ => -1) 2 x1))), (h10, .inl (cI, 4, .inl (upd (fun _ => 0) 2 x2))), (h11, .inl (cI, 160, .inl (fun _ => 0)))] := hD
                              refine lv_iconst (v := 0) hx hb dX12_sheet_65 (by decide) ?_
                              refine lv_istore (lv' := [(4, .int 0), (0, .ref h0), (1, .int 2), (2, .int x1), (3, .int x2)]) hx hb dX12_sheet_66 hl (by decide) rfl (fun ls hl => ?_)
                              refine lv_iload hx hb dX12_sheet_68 (lv_at hl 0 rfl) ?_
                              refine lv_bipush (v := 40) hx hb dX12_sheet_70 (by decide) ?_
                              refine lv_icmp_ge (tgt := 94) hx hb dX12_sheet_72 (by decide) (fun c2370 => ?_) (fun c2370 => ?_)
                              · exact absurd c2370 (by decide)
                              · refine lv_aload_n hx hb dX12_sheet_75 rfl (lv_at hl 1 rfl) ?_
                                refine va_get (D := D) (ci := 12) (v := .ref h11) (C := RX12) (T := TX12) (N := 24) hx hb hts hin12 hown hK hP 0 rfl rfl 18 (by decide) (hts (.fieldLink RX12 44 "MissedPointsModel" "items" "[I") (by decide +kernel)) (fun _ h9 => h9) rfl dX12_sheet_76 ?_
                                refine lv_bipush (v := 40) hx hb dX12_sheet_79 (by decide) ?_
                                refine lv_iload_n hx hb dX12_sheet_81 rfl (lv_at hl 2 rfl) ?_
                                refine lv_imul hx hb dX12_sheet_82 ?_
                                refine lz_top (y := 80) (by decide) ?_
                                refine lv_iload hx hb dX12_sheet_83 (lv_at hl 0 rfl) ?_
                                refine lv_iadd hx hb dX12_sheet_85 ?_
                                refine lz_top (y := 80) (by decide) ?_
                                refine lv_iconst (v := 0) hx hb dX12_sheet_86 (by decide) ?_
                                refine lz_astc hx hb hK hP hD hS 3 0 rfl rfl (lz_vp (x := 80) (n := 160) (by decide) (by decide)) dX12_sheet_87 (fun H locs hP hD hS => ?_)
                                refine lv_iinc (v := 1) (lv' := [(4, .int 1), (0, .ref h0), (1, .int 2), (2, .int x1), (3, .int x2)]) hx hb dX12_sheet_88 hl (k := 0) rfl (by decide) (by decide) rfl (fun ls hl => ?_)
                                refine lv_goto (tgt := 68) hx hb dX12_sheet_91 (by decide) ?_
                                refine lv_iload hx hb dX12_sheet_68 (lv_at hl 0 rfl) ?_
                                refine lv_bipush (v := 40) hx hb dX12_sheet_70 (by decide) ?_
                                refine lv_icmp_ge (tgt := 94) hx hb dX12_sheet_72 (by decide) (fun c2371 => ?_) (fun c2371 => ?_)
                                · exact absurd c2371 (by decide)
                                · refine lv_aload_n hx hb dX12_sheet_75 rfl (lv_at hl 1 rfl) ?_
                                  refine va_get (D := D) (ci := 12) (v := .ref h11) (C := RX12) (T := TX12) (N := 24) hx hb hts hin12 hown hK hP 0 rfl rfl 18 (by decide) (hts (.fieldLink RX12 44 "MissedPointsModel" "items" "[I") (by decide +kernel)) (fun _ h9 => h9) rfl dX12_sheet_76 ?_
                                  refine lv_bipush (v := 40) hx hb dX12_sheet_79 (by decide) ?_
                                  refine lv_iload_n hx hb dX12_sheet_81 rfl (lv_at hl 2 rfl) ?_
                                  refine lv_imul hx hb dX12_sheet_82 ?_
                                  refine lz_top (y := 80) (by decide) ?_
                                  refine lv_iload hx hb dX12_sheet_83 (lv_at hl 0 rfl) ?_
                                  refine lv_iadd hx hb dX12_sheet_85 ?_
                                  refine lz_top (y := 81) (by decide) ?_
                                  refine lv_iconst (v := 0) hx hb dX12_sheet_86 (by decide) ?_
                                  refine lz_astc hx hb hK hP hD hS 3 0 rfl rfl (lz_vp (x := 81) (n := 160) (by decide) (by decide)) dX12_sheet_87 (fun H locs hP hD hS => ?_)
                                  refine lv_iinc (v := 2) (lv' := [(4, .int 2), (0, .ref h0), (1, .int 2), (2, .int x1), (3, .int x2)]) hx hb dX12_sheet_88 hl (k := 0) rfl (by decide) (by decide) rfl (fun ls hl => ?_)
                                  refine lv_goto (tgt := 68) hx hb dX12_sheet_91 (by decide) ?_
                                  refine lv_iload hx hb dX12_sheet_68 (lv_at hl 0 rfl) ?_
                                  refine lv_bipush (v := 40) hx hb dX12_sheet_70 (by decide) ?_
                                  refine lv_icmp_ge (tgt := 94) hx hb dX12_sheet_72 (by decide) (fun c2372 => ?_) (fun c2372 => ?_)
                                  · exact absurd c2372 (by decide)
                                  · refine lv_aload_n hx hb dX12_sheet_75 rfl (lv_at hl 1 rfl) ?_
                                    refine va_get (D := D) (ci := 12) (v := .ref h11) (C := RX12) (T := TX12) (N := 24) hx hb hts hin12 hown hK hP 0 rfl rfl 18 (by decide) (hts (.fieldLink RX12 44 "MissedPointsModel" "items" "[I") (by decide +kernel)) (fun _ h9 => h9) rfl dX12_sheet_76 ?_
                                    refine lv_bipush (v := 40) hx hb dX12_sheet_79 (by decide) ?_
                                    refine lv_iload_n hx hb dX12_sheet_81 rfl (lv_at hl 2 rfl) ?_
                                    refine lv_imul hx hb dX12_sheet_82 ?_
                                    refine lz_top (y := 80) (by decide) ?_
                                    refine lv_iload hx hb dX12_sheet_83 (lv_at hl 0 rfl) ?_
                                    refine lv_iadd hx hb dX12_sheet_85 ?_
                                    refine lz_top (y := 82) (by decide) ?_
                                    refine lv_iconst (v := 0) hx hb dX12_sheet_86 (by decide) ?_
                                    refine lz_astc hx hb hK hP hD hS 3 0 rfl rfl (lz_vp (x := 82) (n := 160) (by decide) (by decide)) dX12_sheet_87 (fun H locs hP hD hS => ?_)
                                    refine lv_iinc (v := 3) (lv' := [(4, .int 3), (0, .ref h0), (1, .int 2), (2, .int x1), (3, .int x2)]) hx hb dX12_sheet_88 hl (k := 0) rfl (by decide) (by decide) rfl (fun ls hl => ?_)
                                    refine lv_goto (tgt := 68) hx hb dX12_sheet_91 (by decide) ?_
                                    refine lv_iload hx hb dX12_sheet_68 (lv_at hl 0 rfl) ?_
                                    refine lv_bipush (v := 40) hx hb dX12_sheet_70 (by decide) ?_
                                    refine lv_icmp_ge (tgt := 94) hx hb dX12_sheet_72 (by decide) (fun c2373 => ?_) (fun c2373 => ?_)
                                    · exact absurd c2373 (by decide)
                                    · refine lv_aload_n hx hb dX12_sheet_75 rfl (lv_at hl 1 rfl) ?_
                                      refine va_get (D := D) (ci := 12) (v := .ref h11) (C := RX12) (T := TX12) (N := 24) hx hb hts hin12 hown hK hP 0 rfl rfl 18 (by decide) (hts (.fieldLink RX12 44 "MissedPointsModel" "items" "[I") (by decide +kernel)) (fun _ h9 => h9) rfl dX12_sheet_76 ?_
                                      refine lv_bipush (v := 40) hx hb dX12_sheet_79 (by decide) ?_
                                      refine lv_iload_n hx hb dX12_sheet_81 rfl (lv_at hl 2 rfl) ?_
                                      refine lv_imul hx hb dX12_sheet_82 ?_
                                      refine lz_top (y := 80) (by decide) ?_
                                      refine lv_iload hx hb dX12_sheet_83 (lv_at hl 0 rfl) ?_
                                      refine lv_iadd hx hb dX12_sheet_85 ?_
                                      refine lz_top (y := 83) (by decide) ?_
                                      refine lv_iconst (v := 0) hx hb dX12_sheet_86 (by decide) ?_
                                      refine lz_astc hx hb hK hP hD hS 3 0 rfl rfl (lz_vp (x := 83) (n := 160) (by decide) (by decide)) dX12_sheet_87 (fun H locs hP hD hS => ?_)
                                      refine lv_iinc (v := 4) (lv' := [(4, .int 4), (0, .ref h0), (1, .int 2), (2, .int x1), (3, .int x2)]) hx hb dX12_sheet_88 hl (k := 0) rfl (by decide) (by decide) rfl (fun ls hl => ?_)
                                      refine lv_goto (tgt := 68) hx hb dX12_sheet_91 (by decide) ?_
                                      refine lv_iload hx hb dX12_sheet_68 (lv_at hl 0 rfl) ?_
                                      refine lv_bipush (v := 40) hx hb dX12_sheet_70 (by decide) ?_
                                      refine lv_icmp_ge (tgt := 94) hx hb dX12_sheet_72 (by decide) (fun c2374 => ?_) (fun c2374 => ?_)
                                      · exact absurd c2374 (by decide)
                                      · refine lv_aload_n hx hb dX12_sheet_75 rfl (lv_at hl 1 rfl) ?_
                                        refine va_get (D := D) (ci := 12) (v := .ref h11) (C := RX12) (T := TX12) (N := 24) hx hb hts hin12 hown hK hP 0 rfl rfl 18 (by decide) (hts (.fieldLink RX12 44 "MissedPointsModel" "items" "[I") (by decide +kernel)) (fun _ h9 => h9) rfl dX12_sheet_76 ?_
                                        refine lv_bipush (v := 40) hx hb dX12_sheet_79 (by decide) ?_
                                        refine lv_iload_n hx hb dX12_sheet_81 rfl (lv_at hl 2 rfl) ?_
                                        refine lv_imul hx hb dX12_sheet_82 ?_
                                        refine lz_top (y := 80) (by decide) ?_
                                        refine lv_iload hx hb dX12_sheet_83 (lv_at hl 0 rfl) ?_
                                        refine lv_iadd hx hb dX12_sheet_85 ?_
                                        refine lz_top (y := 84) (by decide) ?_
                                        refine lv_iconst (v := 0) hx hb dX12_sheet_86 (by decide) ?_
                                        refine lz_astc hx hb hK hP hD hS 3 0 rfl rfl (lz_vp (x := 84) (n := 160) (by decide) (by decide)) dX12_sheet_87 (fun H locs hP hD hS => ?_)
                                        refine lv_iinc (v := 5) (lv' := [(4, .int 5), (0, .ref h0), (1, .int 2), (2, .int x1), (3, .int x2)]) hx hb dX12_sheet_88 hl (k := 0) rfl (by decide) (by decide) rfl (fun ls hl => ?_)
                                        refine lv_goto (tgt := 68) hx hb dX12_sheet_91 (by decide) ?_
                                        refine lv_iload hx hb dX12_sheet_68 (lv_at hl 0 rfl) ?_
                                        refine lv_bipush (v := 40) hx hb dX12_sheet_70 (by decide) ?_
                                        refine lv_icmp_ge (tgt := 94) hx hb dX12_sheet_72 (by decide) (fun c2375 => ?_) (fun c2375 => ?_)
                                        · exact absurd c2375 (by decide)
                                        · refine lv_aload_n hx hb dX12_sheet_75 rfl (lv_at hl 1 rfl) ?_
                                          refine va_get (D := D) (ci := 12) (v := .ref h11) (C := RX12) (T := TX12) (N := 24) hx hb hts hin12 hown hK hP 0 rfl rfl 18 (by decide) (hts (.fieldLink RX12 44 "MissedPointsModel" "items" "[I") (by decide +kernel)) (fun _ h9 => h9) rfl dX12_sheet_76 ?_
                                          refine lv_bipush (v := 40) hx hb dX12_sheet_79 (by decide) ?_
                                          refine lv_iload_n hx hb dX12_sheet_81 rfl (lv_at hl 2 rfl) ?_
                                          refine lv_imul hx hb dX12_sheet_82 ?_
                                          refine lz_top (y := 80) (by decide) ?_
                                          refine lv_iload hx hb dX12_sheet_83 (lv_at hl 0 rfl) ?_
                                          refine lv_iadd hx hb dX12_sheet_85 ?_
                                          refine lz_top (y := 85) (by decide) ?_
                                          refine lv_iconst (v := 0) hx hb dX12_sheet_86 (by decide) ?_
                                          refine lz_astc hx hb hK hP hD hS 3 0 rfl rfl (lz_vp (x := 85) (n := 160) (by decide) (by decide)) dX12_sheet_87 (fun H locs hP hD hS => ?_)
                                          refine lv_iinc (v := 6) (lv' := [(4, .int 6), (0, .ref h0), (1, .int 2), (2, .int x1), (3, .int x2)]) hx hb dX12_sheet_88 hl (k := 0) rfl (by decide) (by decide) rfl (fun ls hl => ?_)
                                          refine lv_goto (tgt := 68) hx hb dX12_sheet_91 (by decide) ?_
                                          refine lv_iload hx hb dX12_sheet_68 (lv_at hl 0 rfl) ?_
                                          refine lv_bipush (v := 40) hx hb dX12_sheet_70 (by decide) ?_
                                          refine lv_icmp_ge (tgt := 94) hx hb dX12_sheet_72 (by decide) (fun c2376 => ?_) (fun c2376 => ?_)
                                          · exact absurd c2376 (by decide)
                                          · refine lv_aload_n hx hb dX12_sheet_75 rfl (lv_at hl 1 rfl) ?_
                                            refine va_get (D := D) (ci := 12) (v := .ref h11) (C := RX12) (T := TX12) (N := 24) hx hb hts hin12 hown hK hP 0 rfl rfl 18 (by decide) (hts (.fieldLink RX12 44 "MissedPointsModel" "items" "[I") (by decide +kernel)) (fun _ h9 => h9) rfl dX12_sheet_76 ?_
                                            refine lv_bipush (v := 40) hx hb dX12_sheet_79 (by decide) ?_
                                            refine lv_iload_n hx hb dX12_sheet_81 rfl (lv_at hl 2 rfl) ?_
                                            refine lv_imul hx hb dX12_sheet_82 ?_
                                            refine lz_top (y := 80) (by decide) ?_
                                            refine lv_iload hx hb dX12_sheet_83 (lv_at hl 0 rfl) ?_
                                            refine lv_iadd hx hb dX12_sheet_85 ?_
                                            refine lz_top (y := 86) (by decide) ?_
                                            refine lv_iconst (v := 0) hx hb dX12_sheet_86 (by decide) ?_
                                            refine lz_astc hx hb hK hP hD hS 3 0 rfl rfl (lz_vp (x := 86) (n := 160) (by decide) (by decide)) dX12_sheet_87 (fun H locs hP hD hS => ?_)
                                            refine lv_iinc (v := 7) (lv' := [(4, .int 7), (0, .ref h0), (1, .int 2), (2, .int x1), (3, .int x2)]) hx hb dX12_sheet_88 hl (k := 0) rfl (by decide) (by decide) rfl (fun ls hl => ?_)
                                            refine lv_goto (tgt := 68) hx hb dX12_sheet_91 (by decide) ?_
                                            refine lv_iload hx hb dX12_sheet_68 (lv_at hl 0 rfl) ?_
                                            refine lv_bipush (v := 40) hx hb dX12_sheet_70 (by decide) ?_
                                            refine lv_icmp_ge (tgt := 94) hx hb dX12_sheet_72 (by decide) (fun c2377 => ?_) (fun c2377 => ?_)
                                            · exact absurd c2377 (by decide)
                                            · refine lv_aload_n hx hb dX12_sheet_75 rfl (lv_at hl 1 rfl) ?_
                                              refine va_get (D := D) (ci := 12) (v := .ref h11) (C := RX12) (T := TX12) (N := 24) hx hb hts hin12 hown hK hP 0 rfl rfl 18 (by decide) (hts (.fieldLink RX12 44 "MissedPointsModel" "items" "[I") (by decide +kernel)) (fun _ h9 => h9) rfl dX12_sheet_76 ?_
                                              refine lv_bipush (v := 40) hx hb dX12_sheet_79 (by decide) ?_
                                              refine lv_iload_n hx hb dX12_sheet_81 rfl (lv_at hl 2 rfl) ?_
                                              refine lv_imul hx hb dX12_sheet_82 ?_
                                              refine lz_top (y := 80) (by decide) ?_
                                              refine lv_iload hx hb dX12_sheet_83 (lv_at hl 0 rfl) ?_
                                              refine lv_iadd hx hb dX12_sheet_85 ?_
                                              refine lz_top (y := 87) (by decide) ?_
                                              refine lv_iconst (v := 0) hx hb dX12_sheet_86 (by decide) ?_
                                              refine lz_astc hx hb hK hP hD hS 3 0 rfl rfl (lz_vp (x := 87) (n := 160) (by decide) (by decide)) dX12_sheet_87 (fun H locs hP hD hS => ?_)
                                              refine lv_iinc (v := 8) (lv' := [(4, .int 8), (0, .ref h0), (1, .int 2), (2, .int x1), (3, .int x2)]) hx hb dX12_sheet_88 hl (k := 0) rfl (by decide) (by decide) rfl (fun ls hl => ?_)
                                              refine lv_goto (tgt := 68) hx hb dX12_sheet_91 (by decide) ?_
                                              refine lv_iload hx hb dX12_sheet_68 (lv_at hl 0 rfl) ?_
                                              refine lv_bipush (v := 40) hx hb dX12_sheet_70 (by decide) ?_
                                              refine lv_icmp_ge (tgt := 94) hx hb dX12_sheet_72 (by decide) (fun c2378 => ?_) (fun c2378 => ?_)
                                              · exact absurd c2378 (by decide)
                                              · refine lv_aload_n hx hb dX12_sheet_75 rfl (lv_at hl 1 rfl) ?_
                                                refine va_get (D := D) (ci := 12) (v := .ref h11) (C := RX12) (T := TX12) (N := 24) hx hb hts hin12 hown hK hP 0 rfl rfl 18 (by decide) (hts (.fieldLink RX12 44 "MissedPointsModel" "items" "[I") (by decide +kernel)) (fun _ h9 => h9) rfl dX12_sheet_76 ?_
                                                refine lv_bipush (v := 40) hx hb dX12_sheet_79 (by decide) ?_
                                                refine lv_iload_n hx hb dX12_sheet_81 rfl (lv_at hl 2 rfl) ?_
                                                refine lv_imul hx hb dX12_sheet_82 ?_
                                                refine lz_top (y := 80) (by decide) ?_
                                                refine lv_iload hx hb dX12_sheet_83 (lv_at hl 0 rfl) ?_
                                                refine lv_iadd hx hb dX12_sheet_85 ?_
                                                refine lz_top (y := 88) (by decide) ?_
                                                refine lv_iconst (v := 0) hx hb dX12_sheet_86 (by decide) ?_
                                                refine lz_astc hx hb hK hP hD hS 3 0 rfl rfl (lz_vp (x := 88) (n := 160) (by decide) (by decide)) dX12_sheet_87 (fun H locs hP hD hS => ?_)
                                                refine lv_iinc (v := 9) (lv' := [(4, .int 9), (0, .ref h0), (1, .int 2), (2, .int x1), (3, .int x2)]) hx hb dX12_sheet_88 hl (k := 0) rfl (by decide) (by decide) rfl (fun ls hl => ?_)
                                                refine lv_goto (tgt := 68) hx hb dX12_sheet_91 (by decide) ?_
                                                refine lv_iload hx hb dX12_sheet_68 (lv_at hl 0 rfl) ?_
                                                refine lv_bipush (v := 40) hx hb dX12_sheet_70 (by decide) ?_
                                                refine lv_icmp_ge (tgt := 94) hx hb dX12_sheet_72 (by decide) (fun c2379 => ?_) (fun c2379 => ?_)
                                                · exact absurd c2379 (by decide)
                                                · refine lv_aload_n hx hb dX12_sheet_75 rfl (lv_at hl 1 rfl) ?_
                                                  refine va_get (D := D) (ci := 12) (v := .ref h11) (C := RX12) (T := TX12) (N := 24) hx hb hts hin12 hown hK hP 0 rfl rfl 18 (by decide) (hts (.fieldLink RX12 44 "MissedPointsModel" "items" "[I") (by decide +kernel)) (fun _ h9 => h9) rfl dX12_sheet_76 ?_
                                                  refine lv_bipush (v := 40) hx hb dX12_sheet_79 (by decide) ?_
                                                  refine lv_iload_n hx hb dX12_sheet_81 rfl (lv_at hl 2 rfl) ?_
                                                  refine lv_imul hx hb dX12_sheet_82 ?_
                                                  refine lz_top (y := 80) (by decide) ?_
                                                  refine lv_iload hx hb dX12_sheet_83 (lv_at hl 0 rfl) ?_
                                                  refine lv_iadd hx hb dX12_sheet_85 ?_
                                                  refine lz_top (y := 89) (by decide) ?_
                                                  refine lv_iconst (v := 0) hx hb dX12_sheet_86 (by decide) ?_
                                                  refine lz_astc hx hb hK hP hD hS 3 0 rfl rfl (lz_vp (x := 89) (n := 160) (by decide) (by decide)) dX12_sheet_87 (fun H locs hP hD hS => ?_)
                                                  refine lv_iinc (v := 10) (lv' := [(4, .int 10), (0, .ref h0), (1, .int 2), (2, .int x1), (3, .int x2)]) hx hb dX12_sheet_88 hl (k := 0) rfl (by decide) (by decide) rfl (fun ls hl => ?_)
                                                  refine lv_goto (tgt := 68) hx hb dX12_sheet_91 (by decide) ?_
                                                  refine lv_iload hx hb dX12_sheet_68 (lv_at hl 0 rfl) ?_
                                                  refine lv_bipush (v := 40) hx hb dX12_sheet_70 (by decide) ?_
                                                  refine lv_icmp_ge (tgt := 94) hx hb dX12_sheet_72 (by decide) (fun c2380 => ?_) (fun c2380 => ?_)
                                                  · exact absurd c2380 (by decide)
                                                  · refine lv_aload_n hx hb dX12_sheet_75 rfl (lv_at hl 1 rfl) ?_
                                                    refine va_get (D := D) (ci := 12) (v := .ref h11) (C := RX12) (T := TX12) (N := 24) hx hb hts hin12 hown hK hP 0 rfl rfl 18 (by decide) (hts (.fieldLink RX12 44 "MissedPointsModel" "items" "[I") (by decide +kernel)) (fun _ h9 => h9) rfl dX12_sheet_76 ?_
                                                    refine lv_bipush (v := 40) hx hb dX12_sheet_79 (by decide) ?_
                                                    refine lv_iload_n hx hb dX12_sheet_81 rfl (lv_at hl 2 rfl) ?_
                                                    refine lv_imul hx hb dX12_sheet_82 ?_
                                                    refine lz_top (y := 80) (by decide) ?_
                                                    refine lv_iload hx hb dX12_sheet_83 (lv_at hl 0 rfl) ?_
                                                    refine lv_iadd hx hb dX12_sheet_85 ?_
                                                    refine lz_top (y := 90) (by decide) ?_
                                                    refine lv_iconst (v := 0) hx hb dX12_sheet_86 (by decide) ?_
                                                    refine lz_astc hx hb hK hP hD hS 3 0 rfl rfl (lz_vp (x := 90) (n := 160) (by decide) (by decide)) dX12_sheet_87 (fun H locs hP hD hS => ?_)
                                                    refine lv_iinc (v := 11) (lv' := [(4, .int 11), (0, .ref h0), (1, .int 2), (2, .int x1), (3, .int x2)]) hx hb dX12_sheet_88 hl (k := 0) rfl (by decide) (by decide) rfl (fun ls hl => ?_)
                                                    refine lv_goto (tgt := 68) hx hb dX12_sheet_91 (by decide) ?_
                                                    refine lv_iload hx hb dX12_sheet_68 (lv_at hl 0 rfl) ?_
                                                    refine lv_bipush (v := 40) hx hb dX12_sheet_70 (by decide) ?_
                                                    refine lv_icmp_ge (tgt := 94) hx hb dX12_sheet_72 (by decide) (fun c2381 => ?_) (fun c2381 => ?_)
                                                    · exact absurd c2381 (by decide)
                                                    · refine lv_aload_n hx hb dX12_sheet_75 rfl (lv_at hl 1 rfl) ?_
                                                      refine va_get (D := D) (ci := 12) (v := .ref h11) (C := RX12) (T := TX12) (N := 24) hx hb hts hin12 hown hK hP 0 rfl rfl 18 (by decide) (hts (.fieldLink RX12 44 "MissedPointsModel" "items" "[I") (by decide +kernel)) (fun _ h9 => h9) rfl dX12_sheet_76 ?_
                                                      refine lv_bipush (v := 40) hx hb dX12_sheet_79 (by decide) ?_
                                                      refine lv_iload_n hx hb dX12_sheet_81 rfl (lv_at hl 2 rfl) ?_
                                                      refine lv_imul hx hb dX12_sheet_82 ?_
                                                      refine lz_top (y := 80) (by decide) ?_
                                                      refine lv_iload hx hb dX12_sheet_83 (lv_at hl 0 rfl) ?_
                                                      refine lv_iadd hx hb dX12_sheet_85 ?_
                                                      refine lz_top (y := 91) (by decide) ?_
                                                      refine lv_iconst (v := 0) hx hb dX12_sheet_86 (by decide) ?_
                                                      refine lz_astc hx hb hK hP hD hS 3 0 rfl rfl (lz_vp (x := 91) (n := 160) (by decide) (by decide)) dX12_sheet_87 (fun H locs hP hD hS => ?_)
                                                      refine lv_iinc (v := 12) (lv' := [(4, .int 12), (0, .ref h0), (1, .int 2), (2, .int x1), (3, .int x2)]) hx hb dX12_sheet_88 hl (k := 0) rfl (by decide) (by decide) rfl (fun ls hl => ?_)
                                                      refine lv_goto (tgt := 68) hx hb dX12_sheet_91 (by decide) ?_
                                                      refine lv_iload hx hb dX12_sheet_68 (lv_at hl 0 rfl) ?_
                                                      refine lv_bipush (v := 40) hx hb dX12_sheet_70 (by decide) ?_
                                                      refine lv_icmp_ge (tgt := 94) hx hb dX12_sheet_72 (by decide) (fun c2382 => ?_) (fun c2382 => ?_)
                                                      · exact absurd c2382 (by decide)
                                                      · refine lv_aload_n hx hb dX12_sheet_75 rfl (lv_at hl 1 rfl) ?_
                                                        refine va_get (D := D) (ci := 12) (v := .ref h11) (C := RX12) (T := TX12) (N := 24) hx hb hts hin12 hown hK hP 0 rfl rfl 18 (by decide) (hts (.fieldLink RX12 44 "MissedPointsModel" "items" "[I") (by decide +kernel)) (fun _ h9 => h9) rfl dX12_sheet_76 ?_
                                                        refine lv_bipush (v := 40) hx hb dX12_sheet_79 (by decide) ?_
                                                        refine lv_iload_n hx hb dX12_sheet_81 rfl (lv_at hl 2 rfl) ?_
                                                        refine lv_imul hx hb dX12_sheet_82 ?_
                                                        refine lz_top (y := 80) (by decide) ?_
                                                        refine lv_iload hx hb dX12_sheet_83 (lv_at hl 0 rfl) ?_
                                                        refine lv_iadd hx hb dX12_sheet_85 ?_
                                                        refine lz_top (y := 92) (by decide) ?_
                                                        refine lv_iconst (v := 0) hx hb dX12_sheet_86 (by decide) ?_
                                                        refine lz_astc hx hb hK hP hD hS 3 0 rfl rfl (lz_vp (x := 92) (n := 160) (by decide) (by decide)) dX12_sheet_87 (fun H locs hP hD hS => ?_)
                                                        refine lv_iinc (v := 13) (lv' := [(4, .int 13), (0, .ref h0), (1, .int 2), (2, .int x1), (3, .int x2)]) hx hb dX12_sheet_88 hl (k := 0) rfl (by decide) (by decide) rfl (fun ls hl => ?_)
                                                        refine lv_goto (tgt := 68) hx hb dX12_sheet_91 (by decide) ?_
                                                        refine lv_iload hx hb dX12_sheet_68 (lv_at hl 0 rfl) ?_
                                                        refine lv_bipush (v := 40) hx hb dX12_sheet_70 (by decide) ?_
                                                        refine lv_icmp_ge (tgt := 94) hx hb dX12_sheet_72 (by decide) (fun c2383 => ?_) (fun c2383 => ?_)
                                                        · exact absurd c2383 (by decide)
                                                        · refine lv_aload_n hx hb dX12_sheet_75 rfl (lv_at hl 1 rfl) ?_
                                                          refine va_get (D := D) (ci := 12) (v := .ref h11) (C := RX12) (T := TX12) (N := 24) hx hb hts hin12 hown hK hP 0 rfl rfl 18 (by decide) (hts (.fieldLink RX12 44 "MissedPointsModel" "items" "[I") (by decide +kernel)) (fun _ h9 => h9) rfl dX12_sheet_76 ?_
                                                          refine lv_bipush (v := 40) hx hb dX12_sheet_79 (by decide) ?_
                                                          refine lv_iload_n hx hb dX12_sheet_81 rfl (lv_at hl 2 rfl) ?_
                                                          refine lv_imul hx hb dX12_sheet_82 ?_
                                                          refine lz_top (y := 80) (by decide) ?_
                                                          refine lv_iload hx hb dX12_sheet_83 (lv_at hl 0 rfl) ?_
                                                          refine lv_iadd hx hb dX12_sheet_85 ?_
                                                          refine lz_top (y := 93) (by decide) ?_
                                                          refine lv_iconst (v := 0) hx hb dX12_sheet_86 (by decide) ?_
                                                          refine lz_astc hx hb hK hP hD hS 3 0 rfl rfl (lz_vp (x := 93) (n := 160) (by decide) (by decide)) dX12_sheet_87 (fun H locs hP hD hS => ?_)
                                                          refine lv_iinc (v := 14) (lv' := [(4, .int 14), (0, .ref h0), (1, .int 2), (2, .int x1), (3, .int x2)]) hx hb dX12_sheet_88 hl (k := 0) rfl (by decide) (by decide) rfl (fun ls hl => ?_)
                                                          refine lv_goto (tgt := 68) hx hb dX12_sheet_91 (by decide) ?_
                                                          refine lv_iload hx hb dX12_sheet_68 (lv_at hl 0 rfl) ?_
                                                          refine lv_bipush (v := 40) hx hb dX12_sheet_70 (by decide) ?_
                                                          refine lv_icmp_ge (tgt := 94) hx hb dX12_sheet_72 (by decide) (fun c2384 => ?_) (fun c2384 => ?_)
                                                          · exact absurd c2384 (by decide)
                                                          · refine lv_aload_n hx hb dX12_sheet_75 rfl (lv_at hl 1 rfl) ?_
                                                            refine va_get (D := D) (ci := 12) (v := .ref h11) (C := RX12) (T := TX12) (N := 24) hx hb hts hin12 hown hK hP 0 rfl rfl 18 (by decide) (hts (.fieldLink RX12 44 "MissedPointsModel" "items" "[I") (by decide +kernel)) (fun _ h9 => h9) rfl dX12_sheet_76 ?_
                                                            refine lv_bipush (v := 40) hx hb dX12_sheet_79 (by decide) ?_
                                                            refine lv_iload_n hx hb dX12_sheet_81 rfl (lv_at hl 2 rfl) ?_
                                                            refine lv_imul hx hb dX12_sheet_82 ?_
                                                            refine lz_top (y := 80) (by decide) ?_
                                                            refine lv_iload hx hb dX12_sheet_83 (lv_at hl 0 rfl) ?_
                                                            refine lv_iadd hx hb dX12_sheet_85 ?_
                                                            refine lz_top (y := 94) (by decide) ?_
                                                            refine lv_iconst (v := 0) hx hb dX12_sheet_86 (by decide) ?_
                                                            refine lz_astc hx hb hK hP hD hS 3 0 rfl rfl (lz_vp (x := 94) (n := 160) (by decide) (by decide)) dX12_sheet_87 (fun H locs hP hD hS => ?_)
                                                            refine lv_iinc (v := 15) (lv' := [(4, .int 15), (0, .ref h0), (1, .int 2), (2, .int x1), (3, .int x2)]) hx hb dX12_sheet_88 hl (k := 0) rfl (by decide) (by decide) rfl (fun ls hl => ?_)
                                                            refine lv_goto (tgt := 68) hx hb dX12_sheet_91 (by decide) ?_
                                                            refine lv_iload hx hb dX12_sheet_68 (lv_at hl 0 rfl) ?_
                                                            refine lv_bipush (v := 40) hx hb dX12_sheet_70 (by decide) ?_
                                                            refine lv_icmp_ge (tgt := 94) hx hb dX12_sheet_72 (by decide) (fun c2385 => ?_) (fun c2385 => ?_)
                                                            · exact absurd c2385 (by decide)
                                                            · refine lv_aload_n hx hb dX12_sheet_75 rfl (lv_at hl 1 rfl) ?_
                                                              refine va_get (D := D) (ci := 12) (v := .ref h11) (C := RX12) (T := TX12) (N := 24) hx hb hts hin12 hown hK hP 0 rfl rfl 18 (by decide) (hts (.fieldLink RX12 44 "MissedPointsModel" "items" "[I") (by decide +kernel)) (fun _ h9 => h9) rfl dX12_sheet_76 ?_
                                                              refine lv_bipush (v := 40) hx hb dX12_sheet_79 (by decide) ?_
                                                              refine lv_iload_n hx hb dX12_sheet_81 rfl (lv_at hl 2 rfl) ?_
                                                              refine lv_imul hx hb dX12_sheet_82 ?_
                                                              refine lz_top (y := 80) (by decide) ?_
                                                              refine lv_iload hx hb dX12_sheet_83 (lv_at hl 0 rfl) ?_
                                                              refine lv_iadd hx hb dX12_sheet_85 ?_
                                                              refine lz_top (y := 95) (by decide) ?_
                                                              refine lv_iconst (v := 0) hx hb dX12_sheet_86 (by decide) ?_
                                                              refine lz_astc hx hb hK hP hD hS 3 0 rfl rfl (lz_vp (x := 95) (n := 160) (by decide) (by decide)) dX12_sheet_87 (fun H locs hP hD hS => ?_)
                                                              refine lv_iinc (v := 16) (lv' := [(4, .int 16), (0, .ref h0), (1, .int 2), (2, .int x1), (3, .int x2)]) hx hb dX12_sheet_88 hl (k := 0) rfl (by decide) (by decide) rfl (fun ls hl => ?_)
                                                              refine lv_goto (tgt := 68) hx hb dX12_sheet_91 (by decide) ?_
                                                              refine lv_iload hx hb dX12_sheet_68 (lv_at hl 0 rfl) ?_
                                                              refine lv_bipush (v := 40) hx hb dX12_sheet_70 (by decide) ?_
                                                              refine lv_icmp_ge (tgt := 94) hx hb dX12_sheet_72 (by decide) (fun c2386 => ?_) (fun c2386 => ?_)
                                                              · exact absurd c2386 (by decide)
                                                              · refine lv_aload_n hx hb dX12_sheet_75 rfl (lv_at hl 1 rfl) ?_
                                                                refine va_get (D := D) (ci := 12) (v := .ref h11) (C := RX12) (T := TX12) (N := 24) hx hb hts hin12 hown hK hP 0 rfl rfl 18 (by decide) (hts (.fieldLink RX12 44 "MissedPointsModel" "items" "[I") (by decide +kernel)) (fun _ h9 => h9) rfl dX12_sheet_76 ?_
                                                                refine lv_bipush (v := 40) hx hb dX12_sheet_79 (by decide) ?_
                                                                refine lv_iload_n hx hb dX12_sheet_81 rfl (lv_at hl 2 rfl) ?_
                                                                refine lv_imul hx hb dX12_sheet_82 ?_
                                                                refine lz_top (y := 80) (by decide) ?_
                                                                refine lv_iload hx hb dX12_sheet_83 (lv_at hl 0 rfl) ?_
                                                                refine lv_iadd hx hb dX12_sheet_85 ?_
                                                                refine lz_top (y := 96) (by decide) ?_
                                                                refine lv_iconst (v := 0) hx hb dX12_sheet_86 (by decide) ?_
                                                                refine lz_astc hx hb hK hP hD hS 3 0 rfl rfl (lz_vp (x := 96) (n := 160) (by decide) (by decide)) dX12_sheet_87 (fun H locs hP hD hS => ?_)
                                                                refine lv_iinc (v := 17) (lv' := [(4, .int 17), (0, .ref h0), (1, .int 2), (2, .int x1), (3, .int x2)]) hx hb dX12_sheet_88 hl (k := 0) rfl (by decide) (by decide) rfl (fun ls hl => ?_)
                                                                refine lv_goto (tgt := 68) hx hb dX12_sheet_91 (by decide) ?_
                                                                refine lv_iload hx hb dX12_sheet_68 (lv_at hl 0 rfl) ?_
                                                                refine lv_bipush (v := 40) hx hb dX12_sheet_70 (by decide) ?_
                                                                refine lv_icmp_ge (tgt := 94) hx hb dX12_sheet_72 (by decide) (fun c2387 => ?_) (fun c2387 => ?_)
                                                                · exact absurd c2387 (by decide)
                                                                · refine lv_aload_n hx hb dX12_sheet_75 rfl (lv_at hl 1 rfl) ?_
                                                                  refine va_get (D := D) (ci := 12) (v := .ref h11) (C := RX12) (T := TX12) (N := 24) hx hb hts hin12 hown hK hP 0 rfl rfl 18 (by decide) (hts (.fieldLink RX12 44 "MissedPointsModel" "items" "[I") (by decide +kernel)) (fun _ h9 => h9) rfl dX12_sheet_76 ?_
                                                                  refine lv_bipush (v := 40) hx hb dX12_sheet_79 (by decide) ?_
                                                                  refine lv_iload_n hx hb dX12_sheet_81 rfl (lv_at hl 2 rfl) ?_
                                                                  refine lv_imul hx hb dX12_sheet_82 ?_
                                                                  refine lz_top (y := 80) (by decide) ?_
                                                                  refine lv_iload hx hb dX12_sheet_83 (lv_at hl 0 rfl) ?_
                                                                  refine lv_iadd hx hb dX12_sheet_85 ?_
                                                                  refine lz_top (y := 97) (by decide) ?_
                                                                  refine lv_iconst (v := 0) hx hb dX12_sheet_86 (by decide) ?_
                                                                  refine lz_astc hx hb hK hP hD hS 3 0 rfl rfl (lz_vp (x := 97) (n := 160) (by decide) (by decide)) dX12_sheet_87 (fun H locs hP hD hS => ?_)
                                                                  refine lv_iinc (v := 18) (lv' := [(4, .int 18), (0, .ref h0), (1, .int 2), (2, .int x1), (3, .int x2)]) hx hb dX12_sheet_88 hl (k := 0) rfl (by decide) (by decide) rfl (fun ls hl => ?_)
                                                                  refine lv_goto (tgt := 68) hx hb dX12_sheet_91 (by decide) ?_
                                                                  refine lv_iload hx hb dX12_sheet_68 (lv_at hl 0 rfl) ?_
                                                                  refine lv_bipush (v := 40) hx hb dX12_sheet_70 (by decide) ?_
                                                                  refine lv_icmp_ge (tgt := 94) hx hb dX12_sheet_72 (by decide) (fun c2388 => ?_) (fun c2388 => ?_)
                                                                  · exact absurd c2388 (by decide)
                                                                  · refine lv_aload_n hx hb dX12_sheet_75 rfl (lv_at hl 1 rfl) ?_
                                                                    refine va_get (D := D) (ci := 12) (v := .ref h11) (C := RX12) (T := TX12) (N := 24) hx hb hts hin12 hown hK hP 0 rfl rfl 18 (by decide) (hts (.fieldLink RX12 44 "MissedPointsModel" "items" "[I") (by decide +kernel)) (fun _ h9 => h9) rfl dX12_sheet_76 ?_
                                                                    refine lv_bipush (v := 40) hx hb dX12_sheet_79 (by decide) ?_
                                                                    refine lv_iload_n hx hb dX12_sheet_81 rfl (lv_at hl 2 rfl) ?_
                                                                    refine lv_imul hx hb dX12_sheet_82 ?_
                                                                    refine lz_top (y := 80) (by decide) ?_
                                                                    refine lv_iload hx hb dX12_sheet_83 (lv_at hl 0 rfl) ?_
                                                                    refine lv_iadd hx hb dX12_sheet_85 ?_
                                                                    refine lz_top (y := 98) (by decide) ?_
                                                                    refine lv_iconst (v := 0) hx hb dX12_sheet_86 (by decide) ?_
                                                                    refine lz_astc hx hb hK hP hD hS 3 0 rfl rfl (lz_vp (x := 98) (n := 160) (by decide) (by decide)) dX12_sheet_87 (fun H locs hP hD hS => ?_)
                                                                    refine lv_iinc (v := 19) (lv' := [(4, .int 19), (0, .ref h0), (1, .int 2), (2, .int x1), (3, .int x2)]) hx hb dX12_sheet_88 hl (k := 0) rfl (by decide) (by decide) rfl (fun ls hl => ?_)
                                                                    refine lv_goto (tgt := 68) hx hb dX12_sheet_91 (by decide) ?_
                                                                    refine lv_iload hx hb dX12_sheet_68 (lv_at hl 0 rfl) ?_
                                                                    refine lv_bipush (v := 40) hx hb dX12_sheet_70 (by decide) ?_
                                                                    refine lv_icmp_ge (tgt := 94) hx hb dX12_sheet_72 (by decide) (fun c2389 => ?_) (fun c2389 => ?_)
                                                                    · exact absurd c2389 (by decide)
                                                                    · refine lv_aload_n hx hb dX12_sheet_75 rfl (lv_at hl 1 rfl) ?_
                                                                      refine va_get (D := D) (ci := 12) (v := .ref h11) (C := RX12) (T := TX12) (N := 24) hx hb hts hin12 hown hK hP 0 rfl rfl 18 (by decide) (hts (.fieldLink RX12 44 "MissedPointsModel" "items" "[I") (by decide +kernel)) (fun _ h9 => h9) rfl dX12_sheet_76 ?_
                                                                      refine lv_bipush (v := 40) hx hb dX12_sheet_79 (by decide) ?_
                                                                      refine lv_iload_n hx hb dX12_sheet_81 rfl (lv_at hl 2 rfl) ?_
                                                                      refine lv_imul hx hb dX12_sheet_82 ?_
                                                                      refine lz_top (y := 80) (by decide) ?_
                                                                      refine lv_iload hx hb dX12_sheet_83 (lv_at hl 0 rfl) ?_
                                                                      refine lv_iadd hx hb dX12_sheet_85 ?_
                                                                      refine lz_top (y := 99) (by decide) ?_
                                                                      refine lv_iconst (v := 0) hx hb dX12_sheet_86 (by decide) ?_
                                                                      refine lz_astc hx hb hK hP hD hS 3 0 rfl rfl (lz_vp (x := 99) (n := 160) (by decide) (by decide)) dX12_sheet_87 (fun H locs hP hD hS => ?_)
                                                                      refine lv_iinc (v := 20) (lv' := [(4, .int 20), (0, .ref h0), (1, .int 2), (2, .int x1), (3, .int x2)]) hx hb dX12_sheet_88 hl (k := 0) rfl (by decide) (by decide) rfl (fun ls hl => ?_)
                                                                      refine lv_goto (tgt := 68) hx hb dX12_sheet_91 (by decide) ?_
                                                                      refine lv_iload hx hb dX12_sheet_68 (lv_at hl 0 rfl) ?_
                                                                      refine lv_bipush (v := 40) hx hb dX12_sheet_70 (by decide) ?_
                                                                      refine lv_icmp_ge (tgt := 94) hx hb dX12_sheet_72 (by decide) (fun c2390 => ?_) (fun c2390 => ?_)
                                                                      · exact absurd c2390 (by decide)
                                                                      · refine lv_aload_n hx hb dX12_sheet_75 rfl (lv_at hl 1 rfl) ?_
                                                                        refine va_get (D := D) (ci := 12) (v := .ref h11) (C := RX12) (T := TX12) (N := 24) hx hb hts hin12 hown hK hP 0 rfl rfl 18 (by decide) (hts (.fieldLink RX12 44 "MissedPointsModel" "items" "[I") (by decide +kernel)) (fun _ h9 => h9) rfl dX12_sheet_76 ?_
                                                                        refine lv_bipush (v := 40) hx hb dX12_sheet_79 (by decide) ?_
                                                                        refine lv_iload_n hx hb dX12_sheet_81 rfl (lv_at hl 2 rfl) ?_
                                                                        refine lv_imul hx hb dX12_sheet_82 ?_
                                                                        refine lz_top (y := 80) (by decide) ?_
                                                                        refine lv_iload hx hb dX12_sheet_83 (lv_at hl 0 rfl) ?_
                                                                        refine lv_iadd hx hb dX12_sheet_85 ?_
                                                                        refine lz_top (y := 100) (by decide) ?_
                                                                        refine lv_iconst (v := 0) hx hb dX12_sheet_86 (by decide) ?_
                                                                        refine lz_astc hx hb hK hP hD hS 3 0 rfl rfl (lz_vp (x := 100) (n := 160) (by decide) (by decide)) dX12_sheet_87 (fun H locs hP hD hS => ?_)
                                                                        refine lv_iinc (v := 21) (lv' := [(4, .int 21), (0, .ref h0), (1, .int 2), (2, .int x1), (3, .int x2)]) hx hb dX12_sheet_88 hl (k := 0) rfl (by decide) (by decide) rfl (fun ls hl => ?_)
                                                                        refine lv_goto (tgt := 68) hx hb dX12_sheet_91 (by decide) ?_
                                                                        refine lv_iload hx hb dX12_sheet_68 (lv_at hl 0 rfl) ?_
                                                                        refine lv_bipush (v := 40) hx hb dX12_sheet_70 (by decide) ?_
                                                                        refine lv_icmp_ge (tgt := 94) hx hb dX12_sheet_72 (by decide) (fun c2391 => ?_) (fun c2391 => ?_)
                                                                        · exact absurd c2391 (by decide)
                                                                        · refine lv_aload_n hx hb dX12_sheet_75 rfl (lv_at hl 1 rfl) ?_
                                                                          refine va_get (D := D) (ci := 12) (v := .ref h11) (C := RX12) (T := TX12) (N := 24) hx hb hts hin12 hown hK hP 0 rfl rfl 18 (by decide) (hts (.fieldLink RX12 44 "MissedPointsModel" "items" "[I") (by decide +kernel)) (fun _ h9 => h9) rfl dX12_sheet_76 ?_
                                                                          refine lv_bipush (v := 40) hx hb dX12_sheet_79 (by decide) ?_
                                                                          refine lv_iload_n hx hb dX12_sheet_81 rfl (lv_at hl 2 rfl) ?_
                                                                          refine lv_imul hx hb dX12_sheet_82 ?_
                                                                          refine lz_top (y := 80) (by decide) ?_
                                                                          refine lv_iload hx hb dX12_sheet_83 (lv_at hl 0 rfl) ?_
                                                                          refine lv_iadd hx hb dX12_sheet_85 ?_
                                                                          refine lz_top (y := 101) (by decide) ?_
                                                                          refine lv_iconst (v := 0) hx hb dX12_sheet_86 (by decide) ?_
                                                                          refine lz_astc hx hb hK hP hD hS 3 0 rfl rfl (lz_vp (x := 101) (n := 160) (by decide) (by decide)) dX12_sheet_87 (fun H locs hP hD hS => ?_)
                                                                          refine lv_iinc (v := 22) (lv' := [(4, .int 22), (0, .ref h0), (1, .int 2), (2, .int x1), (3, .int x2)]) hx hb dX12_sheet_88 hl (k := 0) rfl (by decide) (by decide) rfl (fun ls hl => ?_)
                                                                          refine lv_goto (tgt := 68) hx hb dX12_sheet_91 (by decide) ?_
                                                                          refine lv_iload hx hb dX12_sheet_68 (lv_at hl 0 rfl) ?_
                                                                          refine lv_bipush (v := 40) hx hb dX12_sheet_70 (by decide) ?_
                                                                          refine lv_icmp_ge (tgt := 94) hx hb dX12_sheet_72 (by decide) (fun c2392 => ?_) (fun c2392 => ?_)
                                                                          · exact absurd c2392 (by decide)
                                                                          · refine lv_aload_n hx hb dX12_sheet_75 rfl (lv_at hl 1 rfl) ?_
                                                                            refine va_get (D := D) (ci := 12) (v := .ref h11) (C := RX12) (T := TX12) (N := 24) hx hb hts hin12 hown hK hP 0 rfl rfl 18 (by decide) (hts (.fieldLink RX12 44 "MissedPointsModel" "items" "[I") (by decide +kernel)) (fun _ h9 => h9) rfl dX12_sheet_76 ?_
                                                                            refine lv_bipush (v := 40) hx hb dX12_sheet_79 (by decide) ?_
                                                                            refine lv_iload_n hx hb dX12_sheet_81 rfl (lv_at hl 2 rfl) ?_
                                                                            refine lv_imul hx hb dX12_sheet_82 ?_
                                                                            refine lz_top (y := 80) (by decide) ?_
                                                                            refine lv_iload hx hb dX12_sheet_83 (lv_at hl 0 rfl) ?_
                                                                            refine lv_iadd hx hb dX12_sheet_85 ?_
                                                                            refine lz_top (y := 102) (by decide) ?_
                                                                            refine lv_iconst (v := 0) hx hb dX12_sheet_86 (by decide) ?_
                                                                            refine lz_astc hx hb hK hP hD hS 3 0 rfl rfl (lz_vp (x := 102) (n := 160) (by decide) (by decide)) dX12_sheet_87 (fun H locs hP hD hS => ?_)
                                                                            refine lv_iinc (v := 23) (lv' := [(4, .int 23), (0, .ref h0), (1, .int 2), (2, .int x1), (3, .int x2)]) hx hb dX12_sheet_88 hl (k := 0) rfl (by decide) (by decide) rfl (fun ls hl => ?_)
                                                                            refine lv_goto (tgt := 68) hx hb dX12_sheet_91 (by decide) ?_
                                                                            refine lv_iload hx hb dX12_sheet_68 (lv_at hl 0 rfl) ?_
                                                                            refine lv_bipush (v := 40) hx hb dX12_sheet_70 (by decide) ?_
                                                                            refine lv_icmp_ge (tgt := 94) hx hb dX12_sheet_72 (by decide) (fun c2393 => ?_) (fun c2393 => ?_)
                                                                            · exact absurd c2393 (by decide)
                                                                            · refine lv_aload_n hx hb dX12_sheet_75 rfl (lv_at hl 1 rfl) ?_
                                                                              refine va_get (D := D) (ci := 12) (v := .ref h11) (C := RX12) (T := TX12) (N := 24) hx hb hts hin12 hown hK hP 0 rfl rfl 18 (by decide) (hts (.fieldLink RX12 44 "MissedPointsModel" "items" "[I") (by decide +kernel)) (fun _ h9 => h9) rfl dX12_sheet_76 ?_
                                                                              refine lv_bipush (v := 40) hx hb dX12_sheet_79 (by decide) ?_
                                                                              refine lv_iload_n hx hb dX12_sheet_81 rfl (lv_at hl 2 rfl) ?_
                                                                              refine lv_imul hx hb dX12_sheet_82 ?_
                                                                              refine lz_top (y := 80) (by decide) ?_
                                                                              refine lv_iload hx hb dX12_sheet_83 (lv_at hl 0 rfl) ?_
                                                                              refine lv_iadd hx hb dX12_sheet_85 ?_
                                                                              refine lz_top (y := 103) (by decide) ?_
                                                                              refine lv_iconst (v := 0) hx hb dX12_sheet_86 (by decide) ?_
                                                                              refine lz_astc hx hb hK hP hD hS 3 0 rfl rfl (lz_vp (x := 103) (n := 160) (by decide) (by decide)) dX12_sheet_87 (fun H locs hP hD hS => ?_)
                                                                              refine lv_iinc (v := 24) (lv' := [(4, .int 24), (0, .ref h0), (1, .int 2), (2, .int x1), (3, .int x2)]) hx hb dX12_sheet_88 hl (k := 0) rfl (by decide) (by decide) rfl (fun ls hl => ?_)
                                                                              refine lv_goto (tgt := 68) hx hb dX12_sheet_91 (by decide) ?_
                                                                              refine lv_iload hx hb dX12_sheet_68 (lv_at hl 0 rfl) ?_
                                                                              refine lv_bipush (v := 40) hx hb dX12_sheet_70 (by decide) ?_
                                                                              refine lv_icmp_ge (tgt := 94) hx hb dX12_sheet_72 (by decide) (fun c2394 => ?_) (fun c2394 => ?_)
                                                                              · exact absurd c2394 (by decide)
                                                                              · refine lv_aload_n hx hb dX12_sheet_75 rfl (lv_at hl 1 rfl) ?_
                                                                                refine va_get (D := D) (ci := 12) (v := .ref h11) (C := RX12) (T := TX12) (N := 24) hx hb hts hin12 hown hK hP 0 rfl rfl 18 (by decide) (hts (.fieldLink RX12 44 "MissedPointsModel" "items" "[I") (by decide +kernel)) (fun _ h9 => h9) rfl dX12_sheet_76 ?_
                                                                                refine lv_bipush (v := 40) hx hb dX12_sheet_79 (by decide) ?_
                                                                                refine lv_iload_n hx hb dX12_sheet_81 rfl (lv_at hl 2 rfl) ?_
                                                                                refine lv_imul hx hb dX12_sheet_82 ?_
                                                                                refine lz_top (y := 80) (by decide) ?_
                                                                                refine lv_iload hx hb dX12_sheet_83 (lv_at hl 0 rfl) ?_
                                                                                refine lv_iadd hx hb dX12_sheet_85 ?_
                                                                                refine lz_top (y := 104) (by decide) ?_
                                                                                refine lv_iconst (v := 0) hx hb dX12_sheet_86 (by decide) ?_
                                                                                refine lz_astc hx hb hK hP hD hS 3 0 rfl rfl (lz_vp (x := 104) (n := 160) (by decide) (by decide)) dX12_sheet_87 (fun H locs hP hD hS => ?_)
                                                                                refine lv_iinc (v := 25) (lv' := [(4, .int 25), (0, .ref h0), (1, .int 2), (2, .int x1), (3, .int x2)]) hx hb dX12_sheet_88 hl (k := 0) rfl (by decide) (by decide) rfl (fun ls hl => ?_)
                                                                                refine lv_goto (tgt := 68) hx hb dX12_sheet_91 (by decide) ?_
                                                                                refine lv_iload hx hb dX12_sheet_68 (lv_at hl 0 rfl) ?_
                                                                                refine lv_bipush (v := 40) hx hb dX12_sheet_70 (by decide) ?_
                                                                                refine lv_icmp_ge (tgt := 94) hx hb dX12_sheet_72 (by decide) (fun c2395 => ?_) (fun c2395 => ?_)
                                                                                · exact absurd c2395 (by decide)
                                                                                · refine lv_aload_n hx hb dX12_sheet_75 rfl (lv_at hl 1 rfl) ?_
                                                                                  refine va_get (D := D) (ci := 12) (v := .ref h11) (C := RX12) (T := TX12) (N := 24) hx hb hts hin12 hown hK hP 0 rfl rfl 18 (by decide) (hts (.fieldLink RX12 44 "MissedPointsModel" "items" "[I") (by decide +kernel)) (fun _ h9 => h9) rfl dX12_sheet_76 ?_
                                                                                  refine lv_bipush (v := 40) hx hb dX12_sheet_79 (by decide) ?_
                                                                                  refine lv_iload_n hx hb dX12_sheet_81 rfl (lv_at hl 2 rfl) ?_
                                                                                  refine lv_imul hx hb dX12_sheet_82 ?_
                                                                                  refine lz_top (y := 80) (by decide) ?_
                                                                                  refine lv_iload hx hb dX12_sheet_83 (lv_at hl 0 rfl) ?_
                                                                                  refine lv_iadd hx hb dX12_sheet_85 ?_
                                                                                  refine lz_top (y := 105) (by decide) ?_
                                                                                  refine lv_iconst (v := 0) hx hb dX12_sheet_86 (by decide) ?_
                                                                                  refine lz_astc hx hb hK hP hD hS 3 0 rfl rfl (lz_vp (x := 105) (n := 160) (by decide) (by decide)) dX12_sheet_87 (fun H locs hP hD hS => ?_)
                                                                                  refine lv_iinc (v := 26) (lv' := [(4, .int 26), (0, .ref h0), (1, .int 2), (2, .int x1), (3, .int x2)]) hx hb dX12_sheet_88 hl (k := 0) rfl (by decide) (by decide) rfl (fun ls hl => ?_)
                                                                                  refine lv_goto (tgt := 68) hx hb dX12_sheet_91 (by decide) ?_
                                                                                  refine lv_iload hx hb dX12_sheet_68 (lv_at hl 0 rfl) ?_
                                                                                  refine lv_bipush (v := 40) hx hb dX12_sheet_70 (by decide) ?_
                                                                                  refine lv_icmp_ge (tgt := 94) hx hb dX12_sheet_72 (by decide) (fun c2396 => ?_) (fun c2396 => ?_)
                                                                                  · exact absurd c2396 (by decide)
                                                                                  · refine lv_aload_n hx hb dX12_sheet_75 rfl (lv_at hl 1 rfl) ?_
                                                                                    refine va_get (D := D) (ci := 12) (v := .ref h11) (C := RX12) (T := TX12) (N := 24) hx hb hts hin12 hown hK hP 0 rfl rfl 18 (by decide) (hts (.fieldLink RX12 44 "MissedPointsModel" "items" "[I") (by decide +kernel)) (fun _ h9 => h9) rfl dX12_sheet_76 ?_
                                                                                    refine lv_bipush (v := 40) hx hb dX12_sheet_79 (by decide) ?_
                                                                                    refine lv_iload_n hx hb dX12_sheet_81 rfl (lv_at hl 2 rfl) ?_
                                                                                    refine lv_imul hx hb dX12_sheet_82 ?_
                                                                                    refine lz_top (y := 80) (by decide) ?_
                                                                                    refine lv_iload hx hb dX12_sheet_83 (lv_at hl 0 rfl) ?_
                                                                                    refine lv_iadd hx hb dX12_sheet_85 ?_
                                                                                    refine lz_top (y := 106) (by decide) ?_
                                                                                    refine lv_iconst (v := 0) hx hb dX12_sheet_86 (by decide) ?_
                                                                                    refine lz_astc hx hb hK hP hD hS 3 0 rfl rfl (lz_vp (x := 106) (n := 160) (by decide) (by decide)) dX12_sheet_87 (fun H locs hP hD hS => ?_)
                                                                                    refine lv_iinc (v := 27) (lv' := [(4, .int 27), (0, .ref h0), (1, .int 2), (2, .int x1), (3, .int x2)]) hx hb dX12_sheet_88 hl (k := 0) rfl (by decide) (by decide) rfl (fun ls hl => ?_)
                                                                                    refine lv_goto (tgt := 68) hx hb dX12_sheet_91 (by decide) ?_
                                                                                    refine lv_iload hx hb dX12_sheet_68 (lv_at hl 0 rfl) ?_
                                                                                    refine lv_bipush (v := 40) hx hb dX12_sheet_70 (by decide) ?_
                                                                                    refine lv_icmp_ge (tgt := 94) hx hb dX12_sheet_72 (by decide) (fun c2397 => ?_) (fun c2397 => ?_)
                                                                                    · exact absurd c2397 (by decide)
                                                                                    · refine lv_aload_n hx hb dX12_sheet_75 rfl (lv_at hl 1 rfl) ?_
                                                                                      refine va_get (D := D) (ci := 12) (v := .ref h11) (C := RX12) (T := TX12) (N := 24) hx hb hts hin12 hown hK hP 0 rfl rfl 18 (by decide) (hts (.fieldLink RX12 44 "MissedPointsModel" "items" "[I") (by decide +kernel)) (fun _ h9 => h9) rfl dX12_sheet_76 ?_
                                                                                      refine lv_bipush (v := 40) hx hb dX12_sheet_79 (by decide) ?_
                                                                                      refine lv_iload_n hx hb dX12_sheet_81 rfl (lv_at hl 2 rfl) ?_
                                                                                      refine lv_imul hx hb dX12_sheet_82 ?_
                                                                                      refine lz_top (y := 80) (by decide) ?_
                                                                                      refine lv_iload hx hb dX12_sheet_83 (lv_at hl 0 rfl) ?_
                                                                                      refine lv_iadd hx hb dX12_sheet_85 ?_
                                                                                      refine lz_top (y := 107) (by decide) ?_
                                                                                      refine lv_iconst (v := 0) hx hb dX12_sheet_86 (by decide) ?_
                                                                                      refine lz_astc hx hb hK hP hD hS 3 0 rfl rfl (lz_vp (x := 107) (n := 160) (by decide) (by decide)) dX12_sheet_87 (fun H locs hP hD hS => ?_)
                                                                                      refine lv_iinc (v := 28) (lv' := [(4, .int 28), (0, .ref h0), (1, .int 2), (2, .int x1), (3, .int x2)]) hx hb dX12_sheet_88 hl (k := 0) rfl (by decide) (by decide) rfl (fun ls hl => ?_)
                                                                                      refine lv_goto (tgt := 68) hx hb dX12_sheet_91 (by decide) ?_
                                                                                      refine lv_iload hx hb dX12_sheet_68 (lv_at hl 0 rfl) ?_
                                                                                      refine lv_bipush (v := 40) hx hb dX12_sheet_70 (by decide) ?_
                                                                                      refine lv_icmp_ge (tgt := 94) hx hb dX12_sheet_72 (by decide) (fun c2398 => ?_) (fun c2398 => ?_)
                                                                                      · exact absurd c2398 (by decide)
                                                                                      · refine lv_aload_n hx hb dX12_sheet_75 rfl (lv_at hl 1 rfl) ?_
                                                                                        refine va_get (D := D) (ci := 12) (v := .ref h11) (C := RX12) (T := TX12) (N := 24) hx hb hts hin12 hown hK hP 0 rfl rfl 18 (by decide) (hts (.fieldLink RX12 44 "MissedPointsModel" "items" "[I") (by decide +kernel)) (fun _ h9 => h9) rfl dX12_sheet_76 ?_
                                                                                        refine lv_bipush (v := 40) hx hb dX12_sheet_79 (by decide) ?_
                                                                                        refine lv_iload_n hx hb dX12_sheet_81 rfl (lv_at hl 2 rfl) ?_
                                                                                        refine lv_imul hx hb dX12_sheet_82 ?_
                                                                                        refine lz_top (y := 80) (by decide) ?_
                                                                                        refine lv_iload hx hb dX12_sheet_83 (lv_at hl 0 rfl) ?_
                                                                                        refine lv_iadd hx hb dX12_sheet_85 ?_
                                                                                        refine lz_top (y := 108) (by decide) ?_
                                                                                        refine lv_iconst (v := 0) hx hb dX12_sheet_86 (by decide) ?_
                                                                                        refine lz_astc hx hb hK hP hD hS 3 0 rfl rfl (lz_vp (x := 108) (n := 160) (by decide) (by decide)) dX12_sheet_87 (fun H locs hP hD hS => ?_)
                                                                                        refine lv_iinc (v := 29) (lv' := [(4, .int 29), (0, .ref h0), (1, .int 2), (2, .int x1), (3, .int x2)]) hx hb dX12_sheet_88 hl (k := 0) rfl (by decide) (by decide) rfl (fun ls hl => ?_)
                                                                                        refine lv_goto (tgt := 68) hx hb dX12_sheet_91 (by decide) ?_
                                                                                        refine lv_iload hx hb dX12_sheet_68 (lv_at hl 0 rfl) ?_
                                                                                        refine lv_bipush (v := 40) hx hb dX12_sheet_70 (by decide) ?_
                                                                                        refine lv_icmp_ge (tgt := 94) hx hb dX12_sheet_72 (by decide) (fun c2399 => ?_) (fun c2399 => ?_)
                                                                                        · exact absurd c2399 (by decide)
                                                                                        · refine lv_aload_n hx hb dX12_sheet_75 rfl (lv_at hl 1 rfl) ?_
                                                                                          refine va_get (D := D) (ci := 12) (v := .ref h11) (C := RX12) (T := TX12) (N := 24) hx hb hts hin12 hown hK hP 0 rfl rfl 18 (by decide) (hts (.fieldLink RX12 44 "MissedPointsModel" "items" "[I") (by decide +kernel)) (fun _ h9 => h9) rfl dX12_sheet_76 ?_
                                                                                          refine lv_bipush (v := 40) hx hb dX12_sheet_79 (by decide) ?_
                                                                                          refine lv_iload_n hx hb dX12_sheet_81 rfl (lv_at hl 2 rfl) ?_
                                                                                          refine lv_imul hx hb dX12_sheet_82 ?_
                                                                                          refine lz_top (y := 80) (by decide) ?_
                                                                                          refine lv_iload hx hb dX12_sheet_83 (lv_at hl 0 rfl) ?_
                                                                                          refine lv_iadd hx hb dX12_sheet_85 ?_
                                                                                          refine lz_top (y := 109) (by decide) ?_
                                                                                          refine lv_iconst (v := 0) hx hb dX12_sheet_86 (by decide) ?_
                                                                                          refine lz_astc hx hb hK hP hD hS 3 0 rfl rfl (lz_vp (x := 109) (n := 160) (by decide) (by decide)) dX12_sheet_87 (fun H locs hP hD hS => ?_)
                                                                                          refine lv_iinc (v := 30) (lv' := [(4, .int 30), (0, .ref h0), (1, .int 2), (2, .int x1), (3, .int x2)]) hx hb dX12_sheet_88 hl (k := 0) rfl (by decide) (by decide) rfl (fun ls hl => ?_)
                                                                                          refine lv_goto (tgt := 68) hx hb dX12_sheet_91 (by decide) ?_
                                                                                          refine lv_iload hx hb dX12_sheet_68 (lv_at hl 0 rfl) ?_
                                                                                          refine lv_bipush (v := 40) hx hb dX12_sheet_70 (by decide) ?_
                                                                                          refine lv_icmp_ge (tgt := 94) hx hb dX12_sheet_72 (by decide) (fun c2400 => ?_) (fun c2400 => ?_)
                                                                                          · exact absurd c2400 (by decide)
                                                                                          · refine lv_aload_n hx hb dX12_sheet_75 rfl (lv_at hl 1 rfl) ?_
                                                                                            refine va_get (D := D) (ci := 12) (v := .ref h11) (C := RX12) (T := TX12) (N := 24) hx hb hts hin12 hown hK hP 0 rfl rfl 18 (by decide) (hts (.fieldLink RX12 44 "MissedPointsModel" "items" "[I") (by decide +kernel)) (fun _ h9 => h9) rfl dX12_sheet_76 ?_
                                                                                            refine lv_bipush (v := 40) hx hb dX12_sheet_79 (by decide) ?_
                                                                                            refine lv_iload_n hx hb dX12_sheet_81 rfl (lv_at hl 2 rfl) ?_
                                                                                            refine lv_imul hx hb dX12_sheet_82 ?_
                                                                                            refine lz_top (y := 80) (by decide) ?_
                                                                                            refine lv_iload hx hb dX12_sheet_83 (lv_at hl 0 rfl) ?_
                                                                                            refine lv_iadd hx hb dX12_sheet_85 ?_
                                                                                            refine lz_top (y := 110) (by decide) ?_
                                                                                            refine lv_iconst (v := 0) hx hb dX12_sheet_86 (by decide) ?_
                                                                                            refine lz_astc hx hb hK hP hD hS 3 0 rfl rfl (lz_vp (x := 110) (n := 160) (by decide) (by decide)) dX12_sheet_87 (fun H locs hP hD hS => ?_)
                                                                                            refine lv_iinc (v := 31) (lv' := [(4, .int 31), (0, .ref h0), (1, .int 2), (2, .int x1), (3, .int x2)]) hx hb dX12_sheet_88 hl (k := 0) rfl (by decide) (by decide) rfl (fun ls hl => ?_)
                                                                                            refine lv_goto (tgt := 68) hx hb dX12_sheet_91 (by decide) ?_
                                                                                            refine lv_iload hx hb dX12_sheet_68 (lv_at hl 0 rfl) ?_
                                                                                            refine lv_bipush (v := 40) hx hb dX12_sheet_70 (by decide) ?_
                                                                                            refine lv_icmp_ge (tgt := 94) hx hb dX12_sheet_72 (by decide) (fun c2401 => ?_) (fun c2401 => ?_)
                                                                                            · exact absurd c2401 (by decide)
                                                                                            · refine lv_aload_n hx hb dX12_sheet_75 rfl (lv_at hl 1 rfl) ?_
                                                                                              refine va_get (D := D) (ci := 12) (v := .ref h11) (C := RX12) (T := TX12) (N := 24) hx hb hts hin12 hown hK hP 0 rfl rfl 18 (by decide) (hts (.fieldLink RX12 44 "MissedPointsModel" "items" "[I") (by decide +kernel)) (fun _ h9 => h9) rfl dX12_sheet_76 ?_
                                                                                              refine lv_bipush (v := 40) hx hb dX12_sheet_79 (by decide) ?_
                                                                                              refine lv_iload_n hx hb dX12_sheet_81 rfl (lv_at hl 2 rfl) ?_
                                                                                              refine lv_imul hx hb dX12_sheet_82 ?_
                                                                                              refine lz_top (y := 80) (by decide) ?_
                                                                                              refine lv_iload hx hb dX12_sheet_83 (lv_at hl 0 rfl) ?_
                                                                                              refine lv_iadd hx hb dX12_sheet_85 ?_
                                                                                              refine lz_top (y := 111) (by decide) ?_
                                                                                              refine lv_iconst (v := 0) hx hb dX12_sheet_86 (by decide) ?_
                                                                                              refine lz_astc hx hb hK hP hD hS 3 0 rfl rfl (lz_vp (x := 111) (n := 160) (by decide) (by decide)) dX12_sheet_87 (fun H locs hP hD hS => ?_)
                                                                                              refine lv_iinc (v := 32) (lv' := [(4, .int 32), (0, .ref h0), (1, .int 2), (2, .int x1), (3, .int x2)]) hx hb dX12_sheet_88 hl (k := 0) rfl (by decide) (by decide) rfl (fun ls hl => ?_)
                                                                                              refine lv_goto (tgt := 68) hx hb dX12_sheet_91 (by decide) ?_
                                                                                              refine lv_iload hx hb dX12_sheet_68 (lv_at hl 0 rfl) ?_
                                                                                              refine lv_bipush (v := 40) hx hb dX12_sheet_70 (by decide) ?_
                                                                                              refine lv_icmp_ge (tgt := 94) hx hb dX12_sheet_72 (by decide) (fun c2402 => ?_) (fun c2402 => ?_)
                                                                                              · exact absurd c2402 (by decide)
                                                                                              · refine lv_aload_n hx hb dX12_sheet_75 rfl (lv_at hl 1 rfl) ?_
                                                                                                refine va_get (D := D) (ci := 12) (v := .ref h11) (C := RX12) (T := TX12) (N := 24) hx hb hts hin12 hown hK hP 0 rfl rfl 18 (by decide) (hts (.fieldLink RX12 44 "MissedPointsModel" "items" "[I") (by decide +kernel)) (fun _ h9 => h9) rfl dX12_sheet_76 ?_
                                                                                                refine lv_bipush (v := 40) hx hb dX12_sheet_79 (by decide) ?_
                                                                                                refine lv_iload_n hx hb dX12_sheet_81 rfl (lv_at hl 2 rfl) ?_
                                                                                                refine lv_imul hx hb dX12_sheet_82 ?_
                                                                                                refine lz_top (y := 80) (by decide) ?_
                                                                                                refine lv_iload hx hb dX12_sheet_83 (lv_at hl 0 rfl) ?_
                                                                                                refine lv_iadd hx hb dX12_sheet_85 ?_
                                                                                                refine lz_top (y := 112) (by decide) ?_
                                                                                                refine lv_iconst (v := 0) hx hb dX12_sheet_86 (by decide) ?_
                                                                                                refine lz_astc hx hb hK hP hD hS 3 0 rfl rfl (lz_vp (x := 112) (n := 160) (by decide) (by decide)) dX12_sheet_87 (fun H locs hP hD hS => ?_)
                                                                                                refine lv_iinc (v := 33) (lv' := [(4, .int 33), (0, .ref h0), (1, .int 2), (2, .int x1), (3, .int x2)]) hx hb dX12_sheet_88 hl (k := 0) rfl (by decide) (by decide) rfl (fun ls hl => ?_)
                                                                                                refine lv_goto (tgt := 68) hx hb dX12_sheet_91 (by decide) ?_
                                                                                                refine lv_iload hx hb dX12_sheet_68 (lv_at hl 0 rfl) ?_
                                                                                                refine lv_bipush (v := 40) hx hb dX12_sheet_70 (by decide) ?_
                                                                                                refine lv_icmp_ge (tgt := 94) hx hb dX12_sheet_72 (by decide) (fun c2403 => ?_) (fun c2403 => ?_)
                                                                                                · exact absurd c2403 (by decide)
                                                                                                · refine lv_aload_n hx hb dX12_sheet_75 rfl (lv_at hl 1 rfl) ?_
                                                                                                  refine va_get (D := D) (ci := 12) (v := .ref h11) (C := RX12) (T := TX12) (N := 24) hx hb hts hin12 hown hK hP 0 rfl rfl 18 (by decide) (hts (.fieldLink RX12 44 "MissedPointsModel" "items" "[I") (by decide +kernel)) (fun _ h9 => h9) rfl dX12_sheet_76 ?_
                                                                                                  refine lv_bipush (v := 40) hx hb dX12_sheet_79 (by decide) ?_
                                                                                                  refine lv_iload_n hx hb dX12_sheet_81 rfl (lv_at hl 2 rfl) ?_
                                                                                                  refine lv_imul hx hb dX12_sheet_82 ?_
                                                                                                  refine lz_top (y := 80) (by decide) ?_
                                                                                                  refine lv_iload hx hb dX12_sheet_83 (lv_at hl 0 rfl) ?_
                                                                                                  refine lv_iadd hx hb dX12_sheet_85 ?_
                                                                                                  refine lz_top (y := 113) (by decide) ?_
                                                                                                  refine lv_iconst (v := 0) hx hb dX12_sheet_86 (by decide) ?_
                                                                                                  refine lz_astc hx hb hK hP hD hS 3 0 rfl rfl (lz_vp (x := 113) (n := 160) (by decide) (by decide)) dX12_sheet_87 (fun H locs hP hD hS => ?_)
                                                                                                  refine lv_iinc (v := 34) (lv' := [(4, .int 34), (0, .ref h0), (1, .int 2), (2, .int x1), (3, .int x2)]) hx hb dX12_sheet_88 hl (k := 0) rfl (by decide) (by decide) rfl (fun ls hl => ?_)
                                                                                                  refine lv_goto (tgt := 68) hx hb dX12_sheet_91 (by decide) ?_
                                                                                                  refine lv_iload hx hb dX12_sheet_68 (lv_at hl 0 rfl) ?_
                                                                                                  refine lv_bipush (v := 40) hx hb dX12_sheet_70 (by decide) ?_
                                                                                                  refine lv_icmp_ge (tgt := 94) hx hb dX12_sheet_72 (by decide) (fun c2404 => ?_) (fun c2404 => ?_)
                                                                                                  · exact absurd c2404 (by decide)
                                                                                                  · refine lv_aload_n hx hb dX12_sheet_75 rfl (lv_at hl 1 rfl) ?_
                                                                                                    refine va_get (D := D) (ci := 12) (v := .ref h11) (C := RX12) (T := TX12) (N := 24) hx hb hts hin12 hown hK hP 0 rfl rfl 18 (by decide) (hts (.fieldLink RX12 44 "MissedPointsModel" "items" "[I") (by decide +kernel)) (fun _ h9 => h9) rfl dX12_sheet_76 ?_
                                                                                                    refine lv_bipush (v := 40) hx hb dX12_sheet_79 (by decide) ?_
                                                                                                    refine lv_iload_n hx hb dX12_sheet_81 rfl (lv_at hl 2 rfl) ?_
                                                                                                    refine lv_imul hx hb dX12_sheet_82 ?_
                                                                                                    refine lz_top (y := 80) (by decide) ?_
                                                                                                    refine lv_iload hx hb dX12_sheet_83 (lv_at hl 0 rfl) ?_
                                                                                                    refine lv_iadd hx hb dX12_sheet_85 ?_
                                                                                                    refine lz_top (y := 114) (by decide) ?_
                                                                                                    refine lv_iconst (v := 0) hx hb dX12_sheet_86 (by decide) ?_
                                                                                                    refine lz_astc hx hb hK hP hD hS 3 0 rfl rfl (lz_vp (x := 114) (n := 160) (by decide) (by decide)) dX12_sheet_87 (fun H locs hP hD hS => ?_)
                                                                                                    refine lv_iinc (v := 35) (lv' := [(4, .int 35), (0, .ref h0), (1, .int 2), (2, .int x1), (3, .int x2)]) hx hb dX12_sheet_88 hl (k := 0) rfl (by decide) (by decide) rfl (fun ls hl => ?_)
                                                                                                    refine lv_goto (tgt := 68) hx hb dX12_sheet_91 (by decide) ?_
                                                                                                    refine lv_iload hx hb dX12_sheet_68 (lv_at hl 0 rfl) ?_
                                                                                                    refine lv_bipush (v := 40) hx hb dX12_sheet_70 (by decide) ?_
                                                                                                    refine lv_icmp_ge (tgt := 94) hx hb dX12_sheet_72 (by decide) (fun c2405 => ?_) (fun c2405 => ?_)
                                                                                                    · exact absurd c2405 (by decide)
                                                                                                    · refine lv_aload_n hx hb dX12_sheet_75 rfl (lv_at hl 1 rfl) ?_
                                                                                                      refine va_get (D := D) (ci := 12) (v := .ref h11) (C := RX12) (T := TX12) (N := 24) hx hb hts hin12 hown hK hP 0 rfl rfl 18 (by decide) (hts (.fieldLink RX12 44 "MissedPointsModel" "items" "[I") (by decide +kernel)) (fun _ h9 => h9) rfl dX12_sheet_76 ?_
                                                                                                      refine lv_bipush (v := 40) hx hb dX12_sheet_79 (by decide) ?_
                                                                                                      refine lv_iload_n hx hb dX12_sheet_81 rfl (lv_at hl 2 rfl) ?_
                                                                                                      refine lv_imul hx hb dX12_sheet_82 ?_
                                                                                                      refine lz_top (y := 80) (by decide) ?_
                                                                                                      refine lv_iload hx hb dX12_sheet_83 (lv_at hl 0 rfl) ?_
                                                                                                      refine lv_iadd hx hb dX12_sheet_85 ?_
                                                                                                      refine lz_top (y := 115) (by decide) ?_
                                                                                                      refine lv_iconst (v := 0) hx hb dX12_sheet_86 (by decide) ?_
                                                                                                      refine lz_astc hx hb hK hP hD hS 3 0 rfl rfl (lz_vp (x := 115) (n := 160) (by decide) (by decide)) dX12_sheet_87 (fun H locs hP hD hS => ?_)
                                                                                                      refine lv_iinc (v := 36) (lv' := [(4, .int 36), (0, .ref h0), (1, .int 2), (2, .int x1), (3, .int x2)]) hx hb dX12_sheet_88 hl (k := 0) rfl (by decide) (by decide) rfl (fun ls hl => ?_)
                                                                                                      refine lv_goto (tgt := 68) hx hb dX12_sheet_91 (by decide) ?_
                                                                                                      refine lv_iload hx hb dX12_sheet_68 (lv_at hl 0 rfl) ?_
                                                                                                      refine lv_bipush (v := 40) hx hb dX12_sheet_70 (by decide) ?_
                                                                                                      refine lv_icmp_ge (tgt := 94) hx hb dX12_sheet_72 (by decide) (fun c2406 => ?_) (fun c2406 => ?_)
                                                                                                      · exact absurd c2406 (by decide)
                                                                                                      · refine lv_aload_n hx hb dX12_sheet_75 rfl (lv_at hl 1 rfl) ?_
                                                                                                        refine va_get (D := D) (ci := 12) (v := .ref h11) (C := RX12) (T := TX12) (N := 24) hx hb hts hin12 hown hK hP 0 rfl rfl 18 (by decide) (hts (.fieldLink RX12 44 "MissedPointsModel" "items" "[I") (by decide +kernel)) (fun _ h9 => h9) rfl dX12_sheet_76 ?_
                                                                                                        refine lv_bipush (v := 40) hx hb dX12_sheet_79 (by decide) ?_
                                                                                                        refine lv_iload_n hx hb dX12_sheet_81 rfl (lv_at hl 2 rfl) ?_
                                                                                                        refine lv_imul hx hb dX12_sheet_82 ?_
                                                                                                        refine lz_top (y := 80) (by decide) ?_
                                                                                                        refine lv_iload hx hb dX12_sheet_83 (lv_at hl 0 rfl) ?_
                                                                                                        refine lv_iadd hx hb dX12_sheet_85 ?_
                                                                                                        refine lz_top (y := 116) (by decide) ?_
                                                                                                        refine lv_iconst (v := 0) hx hb dX12_sheet_86 (by decide) ?_
                                                                                                        refine lz_astc hx hb hK hP hD hS 3 0 rfl rfl (lz_vp (x := 116) (n := 160) (by decide) (by decide)) dX12_sheet_87 (fun H locs hP hD hS => ?_)
                                                                                                        refine lv_iinc (v := 37) (lv' := [(4, .int 37), (0, .ref h0), (1, .int 2), (2, .int x1), (3, .int x2)]) hx hb dX12_sheet_88 hl (k := 0) rfl (by decide) (by decide) rfl (fun ls hl => ?_)
                                                                                                        refine lv_goto (tgt := 68) hx hb dX12_sheet_91 (by decide) ?_
                                                                                                        refine lv_iload hx hb dX12_sheet_68 (lv_at hl 0 rfl) ?_
                                                                                                        refine lv_bipush (v := 40) hx hb dX12_sheet_70 (by decide) ?_
                                                                                                        refine lv_icmp_ge (tgt := 94) hx hb dX12_sheet_72 (by decide) (fun c2407 => ?_) (fun c2407 => ?_)
                                                                                                        · exact absurd c2407 (by decide)
                                                                                                        · refine lv_aload_n hx hb dX12_sheet_75 rfl (lv_at hl 1 rfl) ?_
                                                                                                          refine va_get (D := D) (ci := 12) (v := .ref h11) (C := RX12) (T := TX12) (N := 24) hx hb hts hin12 hown hK hP 0 rfl rfl 18 (by decide) (hts (.fieldLink RX12 44 "MissedPointsModel" "items" "[I") (by decide +kernel)) (fun _ h9 => h9) rfl dX12_sheet_76 ?_
                                                                                                          refine lv_bipush (v := 40) hx hb dX12_sheet_79 (by decide) ?_
                                                                                                          refine lv_iload_n hx hb dX12_sheet_81 rfl (lv_at hl 2 rfl) ?_
                                                                                                          refine lv_imul hx hb dX12_sheet_82 ?_
                                                                                                          refine lz_top (y := 80) (by decide) ?_
                                                                                                          refine lv_iload hx hb dX12_sheet_83 (lv_at hl 0 rfl) ?_
                                                                                                          refine lv_iadd hx hb dX12_sheet_85 ?_
                                                                                                          refine lz_top (y := 117) (by decide) ?_
                                                                                                          refine lv_iconst (v := 0) hx hb dX12_sheet_86 (by decide) ?_
                                                                                                          refine lz_astc hx hb hK hP hD hS 3 0 rfl rfl (lz_vp (x := 117) (n := 160) (by decide) (by decide)) dX12_sheet_87 (fun H locs hP hD hS => ?_)
                                                                                                          refine lv_iinc (v := 38) (lv' := [(4, .int 38), (0, .ref h0), (1, .int 2), (2, .int x1), (3, .int x2)]) hx hb dX12_sheet_88 hl (k := 0) rfl (by decide) (by decide) rfl (fun ls hl => ?_)
                                                                                                          refine lv_goto (tgt := 68) hx hb dX12_sheet_91 (by decide) ?_
                                                                                                          refine lv_iload hx hb dX12_sheet_68 (lv_at hl 0 rfl) ?_
                                                                                                          refine lv_bipush (v := 40) hx hb dX12_sheet_70 (by decide) ?_
                                                                                                          refine lv_icmp_ge (tgt := 94) hx hb dX12_sheet_72 (by decide) (fun c2408 => ?_) (fun c2408 => ?_)
                                                                                                          · exact absurd c2408 (by decide)
                                                                                                          · refine lv_aload_n hx hb dX12_sheet_75 rfl (lv_at hl 1 rfl) ?_
                                                                                                            refine va_get (D := D) (ci := 12) (v := .ref h11) (C := RX12) (T := TX12) (N := 24) hx hb hts hin12 hown hK hP 0 rfl rfl 18 (by decide) (hts (.fieldLink RX12 44 "MissedPointsModel" "items" "[I") (by decide +kernel)) (fun _ h9 => h9) rfl dX12_sheet_76 ?_
                                                                                                            refine lv_bipush (v := 40) hx hb dX12_sheet_79 (by decide) ?_
                                                                                                            refine lv_iload_n hx hb dX12_sheet_81 rfl (lv_at hl 2 rfl) ?_
                                                                                                            refine lv_imul hx hb dX12_sheet_82 ?_
                                                                                                            refine lz_top (y := 80) (by decide) ?_
                                                                                                            refine lv_iload hx hb dX12_sheet_83 (lv_at hl 0 rfl) ?_
                                                                                                            refine lv_iadd hx hb dX12_sheet_85 ?_
                                                                                                            refine lz_top (y := 118) (by decide) ?_
                                                                                                            refine lv_iconst (v := 0) hx hb dX12_sheet_86 (by decide) ?_
                                                                                                            refine lz_astc hx hb hK hP hD hS 3 0 rfl rfl (lz_vp (x := 118) (n := 160) (by decide) (by decide)) dX12_sheet_87 (fun H locs hP hD hS => ?_)
                                                                                                            refine lv_iinc (v := 39) (lv' := [(4, .int 39), (0, .ref h0), (1, .int 2), (2, .int x1), (3, .int x2)]) hx hb dX12_sheet_88 hl (k := 0) rfl (by decide) (by decide) rfl (fun ls hl => ?_)
                                                                                                            refine lv_goto (tgt := 68) hx hb dX12_sheet_91 (by decide) ?_
                                                                                                            refine lv_iload hx hb dX12_sheet_68 (lv_at hl 0 rfl) ?_
                                                                                                            refine lv_bipush (v := 40) hx hb dX12_sheet_70 (by decide) ?_
                                                                                                            refine lv_icmp_ge (tgt := 94) hx hb dX12_sheet_72 (by decide) (fun c2409 => ?_) (fun c2409 => ?_)
                                                                                                            · exact absurd c2409 (by decide)
                                                                                                            · refine lv_aload_n hx hb dX12_sheet_75 rfl (lv_at hl 1 rfl) ?_
                                                                                                              refine va_get (D := D) (ci := 12) (v := .ref h11) (C := RX12) (T := TX12) (N := 24) hx hb hts hin12 hown hK hP 0 rfl rfl 18 (by decide) (hts (.fieldLink RX12 44 "MissedPointsModel" "items" "[I") (by decide +kernel)) (fun _ h9 => h9) rfl dX12_sheet_76 ?_
                                                                                                              refine lv_bipush (v := 40) hx hb dX12_sheet_79 (by decide) ?_
                                                                                                              refine lv_iload_n hx hb dX12_sheet_81 rfl (lv_at hl 2 rfl) ?_
                                                                                                              refine lv_imul hx hb dX12_sheet_82 ?_
                                                                                                              refine lz_top (y := 80) (by decide) ?_
                                                                                                              refine lv_iload hx hb dX12_sheet_83 (lv_at hl 0 rfl) ?_
                                                                                                              refine lv_iadd hx hb dX12_sheet_85 ?_
                                                                                                              refine lz_top (y := 119) (by decide) ?_
                                                                                                              refine lv_iconst (v := 0) hx hb dX12_sheet_86 (by decide) ?_
                                                                                                              refine lz_astc hx hb hK hP hD hS 3 0 rfl rfl (lz_vp (x := 119) (n := 160) (by decide) (by decide)) dX12_sheet_87 (fun H locs hP hD hS => ?_)
                                                                                                              refine lv_iinc (v := 40) (lv' := [(4, .int 40), (0, .ref h0), (1, .int 2), (2, .int x1), (3, .int x2)]) hx hb dX12_sheet_88 hl (k := 0) rfl (by decide) (by decide) rfl (fun ls hl => ?_)
                                                                                                              refine lv_goto (tgt := 68) hx hb dX12_sheet_91 (by decide) ?_
                                                                                                              refine lv_iload hx hb dX12_sheet_68 (lv_at hl 0 rfl) ?_
                                                                                                              refine lv_bipush (v := 40) hx hb dX12_sheet_70 (by decide) ?_
                                                                                                              refine lv_icmp_ge (tgt := 94) hx hb dX12_sheet_72 (by decide) (fun c2410 => ?_) (fun c2410 => ?_)
                                                                                                              · refine lv_iconst (v := 1) hx hb dX12_sheet_94 (by decide) ?_
                                                                                                                have hP9 := hP.sub (ws' := []) [] rfl
                                                                                                                have hD9 := hD.sub (ws' := []) [] (by decide) rfl
                                                                                                                subst hAe
                                                                                                                exact W.iret (v := 1) hx hb hr (fun t ht hW => ⟨⟨_, (), rfl, by rw [if_neg k2095, if_neg k2097, if_neg k2101, if_neg k2103, if_neg c2106, if_pos c2279, if_pos c2281], by rw [ht]; exact hP9, hD9⟩, hS.F ht⟩) hS.2.2 dX12_sheet_95
                                                                                                              · exact absurd c2410 (by decide)
                            · exact absurd c2369 c2106
                          · obtain rfl : x0 = 3 := by have zf1 := mt (lz_lt x0 (0 : Int32)).mpr k2095; have zf2 := mt (lz_lt (3 : Int32) x0).mpr k2097; have zf3 := mt (lz_lt x1 ((-1) : Int32)).mpr k2101; have zf4 := mt (lz_lt (1 : Int32) x1).mpr k2103; have zf5 := mt (lz_eq x1 ((-1) : Int32)).mpr c2106; have zf6 := (lz_le x2 (40 : Int32)).mp c2279; have zf7 := (lz_le (0 : Int32) x2).mp c2281; have zf8 := mt (lz_eq x0 (0 : Int32)).mpr k2282; have zf9 := mt (lz_eq x0 (1 : Int32)).mpr k2325; have zf10 := mt (lz_eq x0 (2 : Int32)).mpr k2368; have zn0 : ((-1) : Int32).toInt = -1 := (by decide); have zn1 : (0 : Int32).toInt = 0 := (by decide); have zn2 : (1 : Int32).toInt = 1 := (by decide); have zn3 : (2 : Int32).toInt = 2 := (by decide); have zn4 : (3 : Int32).toInt = 3 := (by decide); have zn5 : (40 : Int32).toInt = 40 := (by decide); rw [lz_eq]; omega
                            refine lv_aload_n hx hb dX12_sheet_42 rfl (lv_at hl 0 rfl) ?_
                            refine va_get (D := D) (ci := 12) (v := .ref h9) (C := RX12) (T := TX12) (N := 24) hx hb hts hin12 hown hK hP 0 rfl rfl 16 (by decide) (hts (.fieldLink RX12 38 "MissedPointsModel" "sort" "[I") (by decide +kernel)) (fun _ h9 => h9) rfl dX12_sheet_43 ?_
                            refine lv_iload_n hx hb dX12_sheet_46 rfl (lv_at hl 1 rfl) ?_
                            refine lv_iload_n hx hb dX12_sheet_47 rfl (lv_at hl 2 rfl) ?_
                            refine va_iast hx hb hK hP hD hS 1 0 rfl rfl (lz_vp (x := 3) (n := 4) (by decide) (by decide)) dX12_sheet_48 (fun H locs hP hD hS => ?_)
                            have hP : va_P D cls [(h0, .inr (12, [.int 0, .int 1, .ref h1, .ref h2, .ref h3, .ref h4, .ref h5, .ref h6, .ref h7, .ref h8, .int 0, .int 0, .int 0, .int 0, .int 0, .int 0, .ref h9, .ref h10, .ref h11, .ref h12, .ref h13, .ref h14, .ref h15, .int 0])), (h9, .inl (cI, 4, .inl (upd (fun _ => -1) 3 x1))), (h10, .inl (cI, 4, .inl (fun _ => 0))), (h11, .inl (cI, 160, .inl (fun _ => 0)))] H := hP
                            have hD : va_D A [(h0, .inr (12, [.int 0, .int 1, .ref h1, .ref h2, .ref h3, .ref h4, .ref h5, .ref h6, .ref h7, .ref h8, .int 0, .int 0, .int 0, .int 0, .int 0, .int 0, .ref h9, .ref h10, .ref h11, .ref h12, .ref h13, .ref h14, .ref h15, .int 0])), (h9, .inl (cI, 4, .inl (upd (fun _ => -1) 3 x1))), (h10, .inl (cI, 4, .inl (fun _ => 0))), (h11, .inl (cI, 160, .inl (fun _ => 0)))] := hD
                            refine lv_aload_n hx hb dX12_sheet_49 rfl (lv_at hl 0 rfl) ?_
                            refine va_get (D := D) (ci := 12) (v := .ref h10) (C := RX12) (T := TX12) (N := 24) hx hb hts hin12 hown hK hP 0 rfl rfl 17 (by decide) (hts (.fieldLink RX12 41 "MissedPointsModel" "size" "[I") (by decide +kernel)) (fun _ h9 => h9) rfl dX12_sheet_50 ?_
                            refine lv_iload_n hx hb dX12_sheet_53 rfl (lv_at hl 1 rfl) ?_
                            refine lv_iload_n hx hb dX12_sheet_54 rfl (lv_at hl 2 rfl) ?_
                            refine lv_iconst (v := (-1)) hx hb dX12_sheet_55 (by decide) ?_
                            refine lv_icmp_ne (tgt := 63) hx hb dX12_sheet_56 (by decide) (fun c2411 => ?_) (fun c2411 => ?_)
                            · refine lv_iload_n hx hb dX12_sheet_63 rfl (lv_at hl 3 rfl) ?_
                              refine va_iast hx hb hK hP hD hS 2 0 rfl rfl (lz_vp (x := 3) (n := 4) (by decide) (by decide)) dX12_sheet_64 (fun H locs hP hD hS => ?_)
                              have hP : va_P D cls [(h0, .inr (12, [.int 0, .int 1, .ref h1, .ref h2, .ref h3, .ref h4, .ref h5, .ref h6, .ref h7, .ref h8, .int 0, .int 0, .int 0, .int 0, .int 0, .int 0, .ref h9, .ref h10, .ref h11, .ref h12, .ref h13, .ref h14, .ref h15, .int 0])), (h9, .inl (cI, 4, .inl (upd (fun _ => -1) 3 x1))), (h10, .inl (cI, 4, .inl (upd (fun _ => 0) 3 x2))), (h11, .inl (cI, 160, .inl (fun _ => 0)))] H := hP
                              have hD : va_D A [(h0, .inr (12, [.int 0, .int 1, .ref h1, .ref h2, .ref h3, .ref h4, .ref h5, .ref h6, .ref h7, .ref h8, .int 0, .int 0, .int 0, .int 0, .int 0, .int 0, .ref h9, .ref h10, .ref h11, .ref h12, .ref h13, .ref h14, .ref h15, .int 0])), (h9, .inl (cI, 4, .inl (upd (fun _ => -1) 3 x1))), (h10, .inl (cI, 4, .inl (upd (fun _ => 0) 3 x2))), (h11, .inl (cI, 160, .inl (fun _ => 0)))] := hD
                              refine lv_iconst (v := 0) hx hb dX12_sheet_65 (by decide) ?_
                              refine lv_istore (lv' := [(4, .int 0), (0, .ref h0), (1, .int 3), (2, .int x1), (3, .int x2)]) hx hb dX12_sheet_66 hl (by decide) rfl (fun ls hl => ?_)
                              refine lv_iload hx hb dX12_sheet_68 (lv_at hl 0 rfl) ?_
                              refine lv_bipush (v := 40) hx hb dX12_sheet_70 (by decide) ?_
                              refine lv_icmp_ge (tgt := 94) hx hb dX12_sheet_72 (by decide) (fun c2412 => ?_) (fun c2412 => ?_)
                              · exact absurd c2412 (by decide)
                              · refine lv_aload_n hx hb dX12_sheet_75 rfl (lv_at hl 1 rfl) ?_
                                refine va_get (D := D) (ci := 12) (v := .ref h11) (C := RX12) (T := TX12) (N := 24) hx hb hts hin12 hown hK hP 0 rfl rfl 18 (by decide) (hts (.fieldLink RX12 44 "MissedPointsModel" "items" "[I") (by decide +kernel)) (fun _ h9 => h9) rfl dX12_sheet_76 ?_
                                refine lv_bipush (v := 40) hx hb dX12_sheet_79 (by decide) ?_
                                refine lv_iload_n hx hb dX12_sheet_81 rfl (lv_at hl 2 rfl) ?_
                                refine lv_imul hx hb dX12_sheet_82 ?_
                                refine lz_top (y := 120) (by decide) ?_
                                refine lv_iload hx hb dX12_sheet_83 (lv_at hl 0 rfl) ?_
                                refine lv_iadd hx hb dX12_sheet_85 ?_
                                refine lz_top (y := 120) (by decide) ?_
                                refine lv_iconst (v := 0) hx hb dX12_sheet_86 (by decide) ?_
                                refine lz_astc hx hb hK hP hD hS 3 0 rfl rfl (lz_vp (x := 120) (n := 160) (by decide) (by decide)) dX12_sheet_87 (fun H locs hP hD hS => ?_)
                                refine lv_iinc (v := 1) (lv' := [(4, .int 1), (0, .ref h0), (1, .int 3), (2, .int x1), (3, .int x2)]) hx hb dX12_sheet_88 hl (k := 0) rfl (by decide) (by decide) rfl (fun ls hl => ?_)
                                refine lv_goto (tgt := 68) hx hb dX12_sheet_91 (by decide) ?_
                                refine lv_iload hx hb dX12_sheet_68 (lv_at hl 0 rfl) ?_
                                refine lv_bipush (v := 40) hx hb dX12_sheet_70 (by decide) ?_
                                refine lv_icmp_ge (tgt := 94) hx hb dX12_sheet_72 (by decide) (fun c2413 => ?_) (fun c2413 => ?_)
                                · exact absurd c2413 (by decide)
                                · refine lv_aload_n hx hb dX12_sheet_75 rfl (lv_at hl 1 rfl) ?_
                                  refine va_get (D := D) (ci := 12) (v := .ref h11) (C := RX12) (T := TX12) (N := 24) hx hb hts hin12 hown hK hP 0 rfl rfl 18 (by decide) (hts (.fieldLink RX12 44 "MissedPointsModel" "items" "[I") (by decide +kernel)) (fun _ h9 => h9) rfl dX12_sheet_76 ?_
                                  refine lv_bipush (v := 40) hx hb dX12_sheet_79 (by decide) ?_
                                  refine lv_iload_n hx hb dX12_sheet_81 rfl (lv_at hl 2 rfl) ?_
                                  refine lv_imul hx hb dX12_sheet_82 ?_
                                  refine lz_top (y := 120) (by decide) ?_
                                  refine lv_iload hx hb dX12_sheet_83 (lv_at hl 0 rfl) ?_
                                  refine lv_iadd hx hb dX12_sheet_85 ?_
                                  refine lz_top (y := 121) (by decide) ?_
                                  refine lv_iconst (v := 0) hx hb dX12_sheet_86 (by decide) ?_
                                  refine lz_astc hx hb hK hP hD hS 3 0 rfl rfl (lz_vp (x := 121) (n := 160) (by decide) (by decide)) dX12_sheet_87 (fun H locs hP hD hS => ?_)
                                  refine lv_iinc (v := 2) (lv' := [(4, .int 2), (0, .ref h0), (1, .int 3), (2, .int x1), (3, .int x2)]) hx hb dX12_sheet_88 hl (k := 0) rfl (by decide) (by decide) rfl (fun ls hl => ?_)
                                  refine lv_goto (tgt := 68) hx hb dX12_sheet_91 (by decide) ?_
                                  refine lv_iload hx hb dX12_sheet_68 (lv_at hl 0 rfl) ?_
                                  refine lv_bipush (v := 40) hx hb dX12_sheet_70 (by decide) ?_
                                  refine lv_icmp_ge (tgt := 94) hx hb dX12_sheet_72 (by decide) (fun c2414 => ?_) (fun c2414 => ?_)
                                  · exact absurd c2414 (by decide)
                                  · refine lv_aload_n hx hb dX12_sheet_75 rfl (lv_at hl 1 rfl) ?_
                                    refine va_get (D := D) (ci := 12) (v := .ref h11) (C := RX12) (T := TX12) (N := 24) hx hb hts hin12 hown hK hP 0 rfl rfl 18 (by decide) (hts (.fieldLink RX12 44 "MissedPointsModel" "items" "[I") (by decide +kernel)) (fun _ h9 => h9) rfl dX12_sheet_76 ?_
                                    refine lv_bipush (v := 40) hx hb dX12_sheet_79 (by decide) ?_
                                    refine lv_iload_n hx hb dX12_sheet_81 rfl (lv_at hl 2 rfl) ?_
                                    refine lv_imul hx hb dX12_sheet_82 ?_
                                    refine lz_top (y := 120) (by decide) ?_
                                    refine lv_iload hx hb dX12_sheet_83 (lv_at hl 0 rfl) ?_
                                    refine lv_iadd hx hb dX12_sheet_85 ?_
                                    refine lz_top (y := 122) (by decide) ?_
                                    refine lv_iconst (v := 0) hx hb dX12_sheet_86 (by decide) ?_
                                    refine lz_astc hx hb hK hP hD hS 3 0 rfl rfl (lz_vp (x := 122) (n := 160) (by decide) (by decide)) dX12_sheet_87 (fun H locs hP hD hS => ?_)
                                    refine lv_iinc (v := 3) (lv' := [(4, .int 3), (0, .ref h0), (1, .int 3), (2, .int x1), (3, .int x2)]) hx hb dX12_sheet_88 hl (k := 0) rfl (by decide) (by decide) rfl (fun ls hl => ?_)
                                    refine lv_goto (tgt := 68) hx hb dX12_sheet_91 (by decide) ?_
                                    refine lv_iload hx hb dX12_sheet_68 (lv_at hl 0 rfl) ?_
                                    refine lv_bipush (v := 40) hx hb dX12_sheet_70 (by decide) ?_
                                    refine lv_icmp_ge (tgt := 94) hx hb dX12_sheet_72 (by decide) (fun c2415 => ?_) (fun c2415 => ?_)
                                    · exact absurd c2415 (by decide)
                                    · refine lv_aload_n hx hb dX12_sheet_75 rfl (lv_at hl 1 rfl) ?_
                                      refine va_get (D := D) (ci := 12) (v := .ref h11) (C := RX12) (T := TX12) (N := 24) hx hb hts hin12 hown hK hP 0 rfl rfl 18 (by decide) (hts (.fieldLink RX12 44 "MissedPointsModel" "items" "[I") (by decide +kernel)) (fun _ h9 => h9) rfl dX12_sheet_76 ?_
                                      refine lv_bipush (v := 40) hx hb dX12_sheet_79 (by decide) ?_
                                      refine lv_iload_n hx hb dX12_sheet_81 rfl (lv_at hl 2 rfl) ?_
                                      refine lv_imul hx hb dX12_sheet_82 ?_
                                      refine lz_top (y := 120) (by decide) ?_
                                      refine lv_iload hx hb dX12_sheet_83 (lv_at hl 0 rfl) ?_
                                      refine lv_iadd hx hb dX12_sheet_85 ?_
                                      refine lz_top (y := 123) (by decide) ?_
                                      refine lv_iconst (v := 0) hx hb dX12_sheet_86 (by decide) ?_
                                      refine lz_astc hx hb hK hP hD hS 3 0 rfl rfl (lz_vp (x := 123) (n := 160) (by decide) (by decide)) dX12_sheet_87 (fun H locs hP hD hS => ?_)
                                      refine lv_iinc (v := 4) (lv' := [(4, .int 4), (0, .ref h0), (1, .int 3), (2, .int x1), (3, .int x2)]) hx hb dX12_sheet_88 hl (k := 0) rfl (by decide) (by decide) rfl (fun ls hl => ?_)
                                      refine lv_goto (tgt := 68) hx hb dX12_sheet_91 (by decide) ?_
                                      refine lv_iload hx hb dX12_sheet_68 (lv_at hl 0 rfl) ?_
                                      refine lv_bipush (v := 40) hx hb dX12_sheet_70 (by decide) ?_
                                      refine lv_icmp_ge (tgt := 94) hx hb dX12_sheet_72 (by decide) (fun c2416 => ?_) (fun c2416 => ?_)
                                      · exact absurd c2416 (by decide)
                                      · refine lv_aload_n hx hb dX12_sheet_75 rfl (lv_at hl 1 rfl) ?_
                                        refine va_get (D := D) (ci := 12) (v := .ref h11) (C := RX12) (T := TX12) (N := 24) hx hb hts hin12 hown hK hP 0 rfl rfl 18 (by decide) (hts (.fieldLink RX12 44 "MissedPointsModel" "items" "[I") (by decide +kernel)) (fun _ h9 => h9) rfl dX12_sheet_76 ?_
                                        refine lv_bipush (v := 40) hx hb dX12_sheet_79 (by decide) ?_
                                        refine lv_iload_n hx hb dX12_sheet_81 rfl (lv_at hl 2 rfl) ?_
                                        refine lv_imul hx hb dX12_sheet_82 ?_
                                        refine lz_top (y := 120) (by decide) ?_
                                        refine lv_iload hx hb dX12_sheet_83 (lv_at hl 0 rfl) ?_
                                        refine lv_iadd hx hb dX12_sheet_85 ?_
                                        refine lz_top (y := 124) (by decide) ?_
                                        refine lv_iconst (v := 0) hx hb dX12_sheet_86 (by decide) ?_
                                        refine lz_astc hx hb hK hP hD hS 3 0 rfl rfl (lz_vp (x := 124) (n := 160) (by decide) (by decide)) dX12_sheet_87 (fun H locs hP hD hS => ?_)
                                        refine lv_iinc (v := 5) (lv' := [(4, .int 5), (0, .ref h0), (1, .int 3), (2, .int x1), (3, .int x2)]) hx hb dX12_sheet_88 hl (k := 0) rfl (by decide) (by decide) rfl (fun ls hl => ?_)
                                        refine lv_goto (tgt := 68) hx hb dX12_sheet_91 (by decide) ?_
                                        refine lv_iload hx hb dX12_sheet_68 (lv_at hl 0 rfl) ?_
                                        refine lv_bipush (v := 40) hx hb dX12_sheet_70 (by decide) ?_
                                        refine lv_icmp_ge (tgt := 94) hx hb dX12_sheet_72 (by decide) (fun c2417 => ?_) (fun c2417 => ?_)
                                        · exact absurd c2417 (by decide)
                                        · refine lv_aload_n hx hb dX12_sheet_75 rfl (lv_at hl 1 rfl) ?_
                                          refine va_get (D := D) (ci := 12) (v := .ref h11) (C := RX12) (T := TX12) (N := 24) hx hb hts hin12 hown hK hP 0 rfl rfl 18 (by decide) (hts (.fieldLink RX12 44 "MissedPointsModel" "items" "[I") (by decide +kernel)) (fun _ h9 => h9) rfl dX12_sheet_76 ?_
                                          refine lv_bipush (v := 40) hx hb dX12_sheet_79 (by decide) ?_
                                          refine lv_iload_n hx hb dX12_sheet_81 rfl (lv_at hl 2 rfl) ?_
                                          refine lv_imul hx hb dX12_sheet_82 ?_
                                          refine lz_top (y := 120) (by decide) ?_
                                          refine lv_iload hx hb dX12_sheet_83 (lv_at hl 0 rfl) ?_
                                          refine lv_iadd hx hb dX12_sheet_85 ?_
                                          refine lz_top (y := 125) (by decide) ?_
                                          refine lv_iconst (v := 0) hx hb dX12_sheet_86 (by decide) ?_
                                          refine lz_astc hx hb hK hP hD hS 3 0 rfl rfl (lz_vp (x := 125) (n := 160) (by decide) (by decide)) dX12_sheet_87 (fun H locs hP hD hS => ?_)
                                          refine lv_iinc (v := 6) (lv' := [(4, .int 6), (0, .ref h0), (1, .int 3), (2, .int x1), (3, .int x2)]) hx hb dX12_sheet_88 hl (k := 0) rfl (by decide) (by decide) rfl (fun ls hl => ?_)
                                          refine lv_goto (tgt := 68) hx hb dX12_sheet_91 (by decide) ?_
                                          refine lv_iload hx hb dX12_sheet_68 (lv_at hl 0 rfl) ?_
                                          refine lv_bipush (v := 40) hx hb dX12_sheet_70 (by decide) ?_
                                          refine lv_icmp_ge (tgt := 94) hx hb dX12_sheet_72 (by decide) (fun c2418 => ?_) (fun c2418 => ?_)
                                          · exact absurd c2418 (by decide)
                                          · refine lv_aload_n hx hb dX12_sheet_75 rfl (lv_at hl 1 rfl) ?_
                                            refine va_get (D := D) (ci := 12) (v := .ref h11) (C := RX12) (T := TX12) (N := 24) hx hb hts hin12 hown hK hP 0 rfl rfl 18 (by decide) (hts (.fieldLink RX12 44 "MissedPointsModel" "items" "[I") (by decide +kernel)) (fun _ h9 => h9) rfl dX12_sheet_76 ?_
                                            refine lv_bipush (v := 40) hx hb dX12_sheet_79 (by decide) ?_
                                            refine lv_iload_n hx hb dX12_sheet_81 rfl (lv_at hl 2 rfl) ?_
                                            refine lv_imul hx hb dX12_sheet_82 ?_
                                            refine lz_top (y := 120) (by decide) ?_
                                            refine lv_iload hx hb dX12_sheet_83 (lv_at hl 0 rfl) ?_
                                            refine lv_iadd hx hb dX12_sheet_85 ?_
                                            refine lz_top (y := 126) (by decide) ?_
                                            refine lv_iconst (v := 0) hx hb dX12_sheet_86 (by decide) ?_
                                            refine lz_astc hx hb hK hP hD hS 3 0 rfl rfl (lz_vp (x := 126) (n := 160) (by decide) (by decide)) dX12_sheet_87 (fun H locs hP hD hS => ?_)
                                            refine lv_iinc (v := 7) (lv' := [(4, .int 7), (0, .ref h0), (1, .int 3), (2, .int x1), (3, .int x2)]) hx hb dX12_sheet_88 hl (k := 0) rfl (by decide) (by decide) rfl (fun ls hl => ?_)
                                            refine lv_goto (tgt := 68) hx hb dX12_sheet_91 (by decide) ?_
                                            refine lv_iload hx hb dX12_sheet_68 (lv_at hl 0 rfl) ?_
                                            refine lv_bipush (v := 40) hx hb dX12_sheet_70 (by decide) ?_
                                            refine lv_icmp_ge (tgt := 94) hx hb dX12_sheet_72 (by decide) (fun c2419 => ?_) (fun c2419 => ?_)
                                            · exact absurd c2419 (by decide)
                                            · refine lv_aload_n hx hb dX12_sheet_75 rfl (lv_at hl 1 rfl) ?_
                                              refine va_get (D := D) (ci := 12) (v := .ref h11) (C := RX12) (T := TX12) (N := 24) hx hb hts hin12 hown hK hP 0 rfl rfl 18 (by decide) (hts (.fieldLink RX12 44 "MissedPointsModel" "items" "[I") (by decide +kernel)) (fun _ h9 => h9) rfl dX12_sheet_76 ?_
                                              refine lv_bipush (v := 40) hx hb dX12_sheet_79 (by decide) ?_
                                              refine lv_iload_n hx hb dX12_sheet_81 rfl (lv_at hl 2 rfl) ?_
                                              refine lv_imul hx hb dX12_sheet_82 ?_
                                              refine lz_top (y := 120) (by decide) ?_
                                              refine lv_iload hx hb dX12_sheet_83 (lv_at hl 0 rfl) ?_
                                              refine lv_iadd hx hb dX12_sheet_85 ?_
                                              refine lz_top (y := 127) (by decide) ?_
                                              refine lv_iconst (v := 0) hx hb dX12_sheet_86 (by decide) ?_
                                              refine lz_astc hx hb hK hP hD hS 3 0 rfl rfl (lz_vp (x := 127) (n := 160) (by decide) (by decide)) dX12_sheet_87 (fun H locs hP hD hS => ?_)
                                              refine lv_iinc (v := 8) (lv' := [(4, .int 8), (0, .ref h0), (1, .int 3), (2, .int x1), (3, .int x2)]) hx hb dX12_sheet_88 hl (k := 0) rfl (by decide) (by decide) rfl (fun ls hl => ?_)
                                              refine lv_goto (tgt := 68) hx hb dX12_sheet_91 (by decide) ?_
                                              refine lv_iload hx hb dX12_sheet_68 (lv_at hl 0 rfl) ?_
                                              refine lv_bipush (v := 40) hx hb dX12_sheet_70 (by decide) ?_
                                              refine lv_icmp_ge (tgt := 94) hx hb dX12_sheet_72 (by decide) (fun c2420 => ?_) (fun c2420 => ?_)
                                              · exact absurd c2420 (by decide)
                                              · refine lv_aload_n hx hb dX12_sheet_75 rfl (lv_at hl 1 rfl) ?_
                                                refine va_get (D := D) (ci := 12) (v := .ref h11) (C := RX12) (T := TX12) (N := 24) hx hb hts hin12 hown hK hP 0 rfl rfl 18 (by decide) (hts (.fieldLink RX12 44 "MissedPointsModel" "items" "[I") (by decide +kernel)) (fun _ h9 => h9) rfl dX12_sheet_76 ?_
                                                refine lv_bipush (v := 40) hx hb dX12_sheet_79 (by decide) ?_
                                                refine lv_iload_n hx hb dX12_sheet_81 rfl (lv_at hl 2 rfl) ?_
                                                refine lv_imul hx hb dX12_sheet_82 ?_
                                                refine lz_top (y := 120) (by decide) ?_
                                                refine lv_iload hx hb dX12_sheet_83 (lv_at hl 0 rfl) ?_
                                                refine lv_iadd hx hb dX12_sheet_85 ?_
                                                refine lz_top (y := 128) (by decide) ?_
                                                refine lv_iconst (v := 0) hx hb dX12_sheet_86 (by decide) ?_
                                                refine lz_astc hx hb hK hP hD hS 3 0 rfl rfl (lz_vp (x := 128) (n := 160) (by decide) (by decide)) dX12_sheet_87 (fun H locs hP hD hS => ?_)
                                                refine lv_iinc (v := 9) (lv' := [(4, .int 9), (0, .ref h0), (1, .int 3), (2, .int x1), (3, .int x2)]) hx hb dX12_sheet_88 hl (k := 0) rfl (by decide) (by decide) rfl (fun ls hl => ?_)
                                                refine lv_goto (tgt := 68) hx hb dX12_sheet_91 (by decide) ?_
                                                refine lv_iload hx hb dX12_sheet_68 (lv_at hl 0 rfl) ?_
                                                refine lv_bipush (v := 40) hx hb dX12_sheet_70 (by decide) ?_
                                                refine lv_icmp_ge (tgt := 94) hx hb dX12_sheet_72 (by decide) (fun c2421 => ?_) (fun c2421 => ?_)
                                                · exact absurd c2421 (by decide)
                                                · refine lv_aload_n hx hb dX12_sheet_75 rfl (lv_at hl 1 rfl) ?_
                                                  refine va_get (D := D) (ci := 12) (v := .ref h11) (C := RX12) (T := TX12) (N := 24) hx hb hts hin12 hown hK hP 0 rfl rfl 18 (by decide) (hts (.fieldLink RX12 44 "MissedPointsModel" "items" "[I") (by decide +kernel)) (fun _ h9 => h9) rfl dX12_sheet_76 ?_
                                                  refine lv_bipush (v := 40) hx hb dX12_sheet_79 (by decide) ?_
                                                  refine lv_iload_n hx hb dX12_sheet_81 rfl (lv_at hl 2 rfl) ?_
                                                  refine lv_imul hx hb dX12_sheet_82 ?_
                                                  refine lz_top (y := 120) (by decide) ?_
                                                  refine lv_iload hx hb dX12_sheet_83 (lv_at hl 0 rfl) ?_
                                                  refine lv_iadd hx hb dX12_sheet_85 ?_
                                                  refine lz_top (y := 129) (by decide) ?_
                                                  refine lv_iconst (v := 0) hx hb dX12_sheet_86 (by decide) ?_
                                                  refine lz_astc hx hb hK hP hD hS 3 0 rfl rfl (lz_vp (x := 129) (n := 160) (by decide) (by decide)) dX12_sheet_87 (fun H locs hP hD hS => ?_)
                                                  refine lv_iinc (v := 10) (lv' := [(4, .int 10), (0, .ref h0), (1, .int 3), (2, .int x1), (3, .int x2)]) hx hb dX12_sheet_88 hl (k := 0) rfl (by decide) (by decide) rfl (fun ls hl => ?_)
                                                  refine lv_goto (tgt := 68) hx hb dX12_sheet_91 (by decide) ?_
                                                  refine lv_iload hx hb dX12_sheet_68 (lv_at hl 0 rfl) ?_
                                                  refine lv_bipush (v := 40) hx hb dX12_sheet_70 (by decide) ?_
                                                  refine lv_icmp_ge (tgt := 94) hx hb dX12_sheet_72 (by decide) (fun c2422 => ?_) (fun c2422 => ?_)
                                                  · exact absurd c2422 (by decide)
                                                  · refine lv_aload_n hx hb dX12_sheet_75 rfl (lv_at hl 1 rfl) ?_
                                                    refine va_get (D := D) (ci := 12) (v := .ref h11) (C := RX12) (T := TX12) (N := 24) hx hb hts hin12 hown hK hP 0 rfl rfl 18 (by decide) (hts (.fieldLink RX12 44 "MissedPointsModel" "items" "[I") (by decide +kernel)) (fun _ h9 => h9) rfl dX12_sheet_76 ?_
                                                    refine lv_bipush (v := 40) hx hb dX12_sheet_79 (by decide) ?_
                                                    refine lv_iload_n hx hb dX12_sheet_81 rfl (lv_at hl 2 rfl) ?_
                                                    refine lv_imul hx hb dX12_sheet_82 ?_
                                                    refine lz_top (y := 120) (by decide) ?_
                                                    refine lv_iload hx hb dX12_sheet_83 (lv_at hl 0 rfl) ?_
                                                    refine lv_iadd hx hb dX12_sheet_85 ?_
                                                    refine lz_top (y := 130) (by decide) ?_
                                                    refine lv_iconst (v := 0) hx hb dX12_sheet_86 (by decide) ?_
                                                    refine lz_astc hx hb hK hP hD hS 3 0 rfl rfl (lz_vp (x := 130) (n := 160) (by decide) (by decide)) dX12_sheet_87 (fun H locs hP hD hS => ?_)
                                                    refine lv_iinc (v := 11) (lv' := [(4, .int 11), (0, .ref h0), (1, .int 3), (2, .int x1), (3, .int x2)]) hx hb dX12_sheet_88 hl (k := 0) rfl (by decide) (by decide) rfl (fun ls hl => ?_)
                                                    refine lv_goto (tgt := 68) hx hb dX12_sheet_91 (by decide) ?_
                                                    refine lv_iload hx hb dX12_sheet_68 (lv_at hl 0 rfl) ?_
                                                    refine lv_bipush (v := 40) hx hb dX12_sheet_70 (by decide) ?_
                                                    refine lv_icmp_ge (tgt := 94) hx hb dX12_sheet_72 (by decide) (fun c2423 => ?_) (fun c2423 => ?_)
                                                    · exact absurd c2423 (by decide)
                                                    · refine lv_aload_n hx hb dX12_sheet_75 rfl (lv_at hl 1 rfl) ?_
                                                      refine va_get (D := D) (ci := 12) (v := .ref h11) (C := RX12) (T := TX12) (N := 24) hx hb hts hin12 hown hK hP 0 rfl rfl 18 (by decide) (hts (.fieldLink RX12 44 "MissedPointsModel" "items" "[I") (by decide +kernel)) (fun _ h9 => h9) rfl dX12_sheet_76 ?_
                                                      refine lv_bipush (v := 40) hx hb dX12_sheet_79 (by decide) ?_
                                                      refine lv_iload_n hx hb dX12_sheet_81 rfl (lv_at hl 2 rfl) ?_
                                                      refine lv_imul hx hb dX12_sheet_82 ?_
                                                      refine lz_top (y := 120) (by decide) ?_
                                                      refine lv_iload hx hb dX12_sheet_83 (lv_at hl 0 rfl) ?_
                                                      refine lv_iadd hx hb dX12_sheet_85 ?_
                                                      refine lz_top (y := 131) (by decide) ?_
                                                      refine lv_iconst (v := 0) hx hb dX12_sheet_86 (by decide) ?_
                                                      refine lz_astc hx hb hK hP hD hS 3 0 rfl rfl (lz_vp (x := 131) (n := 160) (by decide) (by decide)) dX12_sheet_87 (fun H locs hP hD hS => ?_)
                                                      refine lv_iinc (v := 12) (lv' := [(4, .int 12), (0, .ref h0), (1, .int 3), (2, .int x1), (3, .int x2)]) hx hb dX12_sheet_88 hl (k := 0) rfl (by decide) (by decide) rfl (fun ls hl => ?_)
                                                      refine lv_goto (tgt := 68) hx hb dX12_sheet_91 (by decide) ?_
                                                      refine lv_iload hx hb dX12_sheet_68 (lv_at hl 0 rfl) ?_
                                                      refine lv_bipush (v := 40) hx hb dX12_sheet_70 (by decide) ?_
                                                      refine lv_icmp_ge (tgt := 94) hx hb dX12_sheet_72 (by decide) (fun c2424 => ?_) (fun c2424 => ?_)
                                                      · exact absurd c2424 (by decide)
                                                      · refine lv_aload_n hx hb dX12_sheet_75 rfl (lv_at hl 1 rfl) ?_
                                                        refine va_get (D := D) (ci := 12) (v := .ref h11) (C := RX12) (T := TX12) (N := 24) hx hb hts hin12 hown hK hP 0 rfl rfl 18 (by decide) (hts (.fieldLink RX12 44 "MissedPointsModel" "items" "[I") (by decide +kernel)) (fun _ h9 => h9) rfl dX12_sheet_76 ?_
                                                        refine lv_bipush (v := 40) hx hb dX12_sheet_79 (by decide) ?_
                                                        refine lv_iload_n hx hb dX12_sheet_81 rfl (lv_at hl 2 rfl) ?_
                                                        refine lv_imul hx hb dX12_sheet_82 ?_
                                                        refine lz_top (y := 120) (by decide) ?_
                                                        refine lv_iload hx hb dX12_sheet_83 (lv_at hl 0 rfl) ?_
                                                        refine lv_iadd hx hb dX12_sheet_85 ?_
                                                        refine lz_top (y := 132) (by decide) ?_
                                                        refine lv_iconst (v := 0) hx hb dX12_sheet_86 (by decide) ?_
                                                        refine lz_astc hx hb hK hP hD hS 3 0 rfl rfl (lz_vp (x := 132) (n := 160) (by decide) (by decide)) dX12_sheet_87 (fun H locs hP hD hS => ?_)
                                                        refine lv_iinc (v := 13) (lv' := [(4, .int 13), (0, .ref h0), (1, .int 3), (2, .int x1), (3, .int x2)]) hx hb dX12_sheet_88 hl (k := 0) rfl (by decide) (by decide) rfl (fun ls hl => ?_)
                                                        refine lv_goto (tgt := 68) hx hb dX12_sheet_91 (by decide) ?_
                                                        refine lv_iload hx hb dX12_sheet_68 (lv_at hl 0 rfl) ?_
                                                        refine lv_bipush (v := 40) hx hb dX12_sheet_70 (by decide) ?_
                                                        refine lv_icmp_ge (tgt := 94) hx hb dX12_sheet_72 (by decide) (fun c2425 => ?_) (fun c2425 => ?_)
                                                        · exact absurd c2425 (by decide)
                                                        · refine lv_aload_n hx hb dX12_sheet_75 rfl (lv_at hl 1 rfl) ?_
                                                          refine va_get (D := D) (ci := 12) (v := .ref h11) (C := RX12) (T := TX12) (N := 24) hx hb hts hin12 hown hK hP 0 rfl rfl 18 (by decide) (hts (.fieldLink RX12 44 "MissedPointsModel" "items" "[I") (by decide +kernel)) (fun _ h9 => h9) rfl dX12_sheet_76 ?_
                                                          refine lv_bipush (v := 40) hx hb dX12_sheet_79 (by decide) ?_
                                                          refine lv_iload_n hx hb dX12_sheet_81 rfl (lv_at hl 2 rfl) ?_
                                                          refine lv_imul hx hb dX12_sheet_82 ?_
                                                          refine lz_top (y := 120) (by decide) ?_
                                                          refine lv_iload hx hb dX12_sheet_83 (lv_at hl 0 rfl) ?_
                                                          refine lv_iadd hx hb dX12_sheet_85 ?_
                                                          refine lz_top (y := 133) (by decide) ?_
                                                          refine lv_iconst (v := 0) hx hb dX12_sheet_86 (by decide) ?_
                                                          refine lz_astc hx hb hK hP hD hS 3 0 rfl rfl (lz_vp (x := 133) (n := 160) (by decide) (by decide)) dX12_sheet_87 (fun H locs hP hD hS => ?_)
                                                          refine lv_iinc (v := 14) (lv' := [(4, .int 14), (0, .ref h0), (1, .int 3), (2, .int x1), (3, .int x2)]) hx hb dX12_sheet_88 hl (k := 0) rfl (by decide) (by decide) rfl (fun ls hl => ?_)
                                                          refine lv_goto (tgt := 68) hx hb dX12_sheet_91 (by decide) ?_
                                                          refine lv_iload hx hb dX12_sheet_68 (lv_at hl 0 rfl) ?_
                                                          refine lv_bipush (v := 40) hx hb dX12_sheet_70 (by decide) ?_
                                                          refine lv_icmp_ge (tgt := 94) hx hb dX12_sheet_72 (by decide) (fun c2426 => ?_) (fun c2426 => ?_)
                                                          · exact absurd c2426 (by decide)
                                                          · refine lv_aload_n hx hb dX12_sheet_75 rfl (lv_at hl 1 rfl) ?_
                                                            refine va_get (D := D) (ci := 12) (v := .ref h11) (C := RX12) (T := TX12) (N := 24) hx hb hts hin12 hown hK hP 0 rfl rfl 18 (by decide) (hts (.fieldLink RX12 44 "MissedPointsModel" "items" "[I") (by decide +kernel)) (fun _ h9 => h9) rfl dX12_sheet_76 ?_
                                                            refine lv_bipush (v := 40) hx hb dX12_sheet_79 (by decide) ?_
                                                            refine lv_iload_n hx hb dX12_sheet_81 rfl (lv_at hl 2 rfl) ?_
                                                            refine lv_imul hx hb dX12_sheet_82 ?_
                                                            refine lz_top (y := 120) (by decide) ?_
                                                            refine lv_iload hx hb dX12_sheet_83 (lv_at hl 0 rfl) ?_
                                                            refine lv_iadd hx hb dX12_sheet_85 ?_
                                                            refine lz_top (y := 134) (by decide) ?_
                                                            refine lv_iconst (v := 0) hx hb dX12_sheet_86 (by decide) ?_
                                                            refine lz_astc hx hb hK hP hD hS 3 0 rfl rfl (lz_vp (x := 134) (n := 160) (by decide) (by decide)) dX12_sheet_87 (fun H locs hP hD hS => ?_)
                                                            refine lv_iinc (v := 15) (lv' := [(4, .int 15), (0, .ref h0), (1, .int 3), (2, .int x1), (3, .int x2)]) hx hb dX12_sheet_88 hl (k := 0) rfl (by decide) (by decide) rfl (fun ls hl => ?_)
                                                            refine lv_goto (tgt := 68) hx hb dX12_sheet_91 (by decide) ?_
                                                            refine lv_iload hx hb dX12_sheet_68 (lv_at hl 0 rfl) ?_
                                                            refine lv_bipush (v := 40) hx hb dX12_sheet_70 (by decide) ?_
                                                            refine lv_icmp_ge (tgt := 94) hx hb dX12_sheet_72 (by decide) (fun c2427 => ?_) (fun c2427 => ?_)
                                                            · exact absurd c2427 (by decide)
                                                            · refine lv_aload_n hx hb dX12_sheet_75 rfl (lv_at hl 1 rfl) ?_
                                                              refine va_get (D := D) (ci := 12) (v := .ref h11) (C := RX12) (T := TX12) (N := 24) hx hb hts hin12 hown hK hP 0 rfl rfl 18 (by decide) (hts (.fieldLink RX12 44 "MissedPointsModel" "items" "[I") (by decide +kernel)) (fun _ h9 => h9) rfl dX12_sheet_76 ?_
                                                              refine lv_bipush (v := 40) hx hb dX12_sheet_79 (by decide) ?_
                                                              refine lv_iload_n hx hb dX12_sheet_81 rfl (lv_at hl 2 rfl) ?_
                                                              refine lv_imul hx hb dX12_sheet_82 ?_
                                                              refine lz_top (y := 120) (by decide) ?_
                                                              refine lv_iload hx hb dX12_sheet_83 (lv_at hl 0 rfl) ?_
                                                              refine lv_iadd hx hb dX12_sheet_85 ?_
                                                              refine lz_top (y := 135) (by decide) ?_
                                                              refine lv_iconst (v := 0) hx hb dX12_sheet_86 (by decide) ?_
                                                              refine lz_astc hx hb hK hP hD hS 3 0 rfl rfl (lz_vp (x := 135) (n := 160) (by decide) (by decide)) dX12_sheet_87 (fun H locs hP hD hS => ?_)
                                                              refine lv_iinc (v := 16) (lv' := [(4, .int 16), (0, .ref h0), (1, .int 3), (2, .int x1), (3, .int x2)]) hx hb dX12_sheet_88 hl (k := 0) rfl (by decide) (by decide) rfl (fun ls hl => ?_)
                                                              refine lv_goto (tgt := 68) hx hb dX12_sheet_91 (by decide) ?_
                                                              refine lv_iload hx hb dX12_sheet_68 (lv_at hl 0 rfl) ?_
                                                              refine lv_bipush (v := 40) hx hb dX12_sheet_70 (by decide) ?_
                                                              refine lv_icmp_ge (tgt := 94) hx hb dX12_sheet_72 (by decide) (fun c2428 => ?_) (fun c2428 => ?_)
                                                              · exact absurd c2428 (by decide)
                                                              · refine lv_aload_n hx hb dX12_sheet_75 rfl (lv_at hl 1 rfl) ?_
                                                                refine va_get (D := D) (ci := 12) (v := .ref h11) (C := RX12) (T := TX12) (N := 24) hx hb hts hin12 hown hK hP 0 rfl rfl 18 (by decide) (hts (.fieldLink RX12 44 "MissedPointsModel" "items" "[I") (by decide +kernel)) (fun _ h9 => h9) rfl dX12_sheet_76 ?_
                                                                refine lv_bipush (v := 40) hx hb dX12_sheet_79 (by decide) ?_
                                                                refine lv_iload_n hx hb dX12_sheet_81 rfl (lv_at hl 2 rfl) ?_
                                                                refine lv_imul hx hb dX12_sheet_82 ?_
                                                                refine lz_top (y := 120) (by decide) ?_
                                                                refine lv_iload hx hb dX12_sheet_83 (lv_at hl 0 rfl) ?_
                                                                refine lv_iadd hx hb dX12_sheet_85 ?_
                                                                refine lz_top (y := 136) (by decide) ?_
                                                                refine lv_iconst (v := 0) hx hb dX12_sheet_86 (by decide) ?_
                                                                refine lz_astc hx hb hK hP hD hS 3 0 rfl rfl (lz_vp (x := 136) (n := 160) (by decide) (by decide)) dX12_sheet_87 (fun H locs hP hD hS => ?_)
                                                                refine lv_iinc (v := 17) (lv' := [(4, .int 17), (0, .ref h0), (1, .int 3), (2, .int x1), (3, .int x2)]) hx hb dX12_sheet_88 hl (k := 0) rfl (by decide) (by decide) rfl (fun ls hl => ?_)
                                                                refine lv_goto (tgt := 68) hx hb dX12_sheet_91 (by decide) ?_
                                                                refine lv_iload hx hb dX12_sheet_68 (lv_at hl 0 rfl) ?_
                                                                refine lv_bipush (v := 40) hx hb dX12_sheet_70 (by decide) ?_
                                                                refine lv_icmp_ge (tgt := 94) hx hb dX12_sheet_72 (by decide) (fun c2429 => ?_) (fun c2429 => ?_)
                                                                · exact absurd c2429 (by decide)
                                                                · refine lv_aload_n hx hb dX12_sheet_75 rfl (lv_at hl 1 rfl) ?_
                                                                  refine va_get (D := D) (ci := 12) (v := .ref h11) (C := RX12) (T := TX12) (N := 24) hx hb hts hin12 hown hK hP 0 rfl rfl 18 (by decide) (hts (.fieldLink RX12 44 "MissedPointsModel" "items" "[I") (by decide +kernel)) (fun _ h9 => h9) rfl dX12_sheet_76 ?_
                                                                  refine lv_bipush (v := 40) hx hb dX12_sheet_79 (by decide) ?_
                                                                  refine lv_iload_n hx hb dX12_sheet_81 rfl (lv_at hl 2 rfl) ?_
                                                                  refine lv_imul hx hb dX12_sheet_82 ?_
                                                                  refine lz_top (y := 120) (by decide) ?_
                                                                  refine lv_iload hx hb dX12_sheet_83 (lv_at hl 0 rfl) ?_
                                                                  refine lv_iadd hx hb dX12_sheet_85 ?_
                                                                  refine lz_top (y := 137) (by decide) ?_
                                                                  refine lv_iconst (v := 0) hx hb dX12_sheet_86 (by decide) ?_
                                                                  refine lz_astc hx hb hK hP hD hS 3 0 rfl rfl (lz_vp (x := 137) (n := 160) (by decide) (by decide)) dX12_sheet_87 (fun H locs hP hD hS => ?_)
                                                                  refine lv_iinc (v := 18) (lv' := [(4, .int 18), (0, .ref h0), (1, .int 3), (2, .int x1), (3, .int x2)]) hx hb dX12_sheet_88 hl (k := 0) rfl (by decide) (by decide) rfl (fun ls hl => ?_)
                                                                  refine lv_goto (tgt := 68) hx hb dX12_sheet_91 (by decide) ?_
                                                                  refine lv_iload hx hb dX12_sheet_68 (lv_at hl 0 rfl) ?_
                                                                  refine lv_bipush (v := 40) hx hb dX12_sheet_70 (by decide) ?_
                                                                  refine lv_icmp_ge (tgt := 94) hx hb dX12_sheet_72 (by decide) (fun c2430 => ?_) (fun c2430 => ?_)
                                                                  · exact absurd c2430 (by decide)
                                                                  · refine lv_aload_n hx hb dX12_sheet_75 rfl (lv_at hl 1 rfl) ?_
                                                                    refine va_get (D := D) (ci := 12) (v := .ref h11) (C := RX12) (T := TX12) (N := 24) hx hb hts hin12 hown hK hP 0 rfl rfl 18 (by decide) (hts (.fieldLink RX12 44 "MissedPointsModel" "items" "[I") (by decide +kernel)) (fun _ h9 => h9) rfl dX12_sheet_76 ?_
                                                                    refine lv_bipush (v := 40) hx hb dX12_sheet_79 (by decide) ?_
                                                                    refine lv_iload_n hx hb dX12_sheet_81 rfl (lv_at hl 2 rfl) ?_
                                                                    refine lv_imul hx hb dX12_sheet_82 ?_
                                                                    refine lz_top (y := 120) (by decide) ?_
                                                                    refine lv_iload hx hb dX12_sheet_83 (lv_at hl 0 rfl) ?_
                                                                    refine lv_iadd hx hb dX12_sheet_85 ?_
                                                                    refine lz_top (y := 138) (by decide) ?_
                                                                    refine lv_iconst (v := 0) hx hb dX12_sheet_86 (by decide) ?_
                                                                    refine lz_astc hx hb hK hP hD hS 3 0 rfl rfl (lz_vp (x := 138) (n := 160) (by decide) (by decide)) dX12_sheet_87 (fun H locs hP hD hS => ?_)
                                                                    refine lv_iinc (v := 19) (lv' := [(4, .int 19), (0, .ref h0), (1, .int 3), (2, .int x1), (3, .int x2)]) hx hb dX12_sheet_88 hl (k := 0) rfl (by decide) (by decide) rfl (fun ls hl => ?_)
                                                                    refine lv_goto (tgt := 68) hx hb dX12_sheet_91 (by decide) ?_
                                                                    refine lv_iload hx hb dX12_sheet_68 (lv_at hl 0 rfl) ?_
                                                                    refine lv_bipush (v := 40) hx hb dX12_sheet_70 (by decide) ?_
                                                                    refine lv_icmp_ge (tgt := 94) hx hb dX12_sheet_72 (by decide) (fun c2431 => ?_) (fun c2431 => ?_)
                                                                    · exact absurd c2431 (by decide)
                                                                    · refine lv_aload_n hx hb dX12_sheet_75 rfl (lv_at hl 1 rfl) ?_
                                                                      refine va_get (D := D) (ci := 12) (v := .ref h11) (C := RX12) (T := TX12) (N := 24) hx hb hts hin12 hown hK hP 0 rfl rfl 18 (by decide) (hts (.fieldLink RX12 44 "MissedPointsModel" "items" "[I") (by decide +kernel)) (fun _ h9 => h9) rfl dX12_sheet_76 ?_
                                                                      refine lv_bipush (v := 40) hx hb dX12_sheet_79 (by decide) ?_
                                                                      refine lv_iload_n hx hb dX12_sheet_81 rfl (lv_at hl 2 rfl) ?_
                                                                      refine lv_imul hx hb dX12_sheet_82 ?_
                                                                      refine lz_top (y := 120) (by decide) ?_
                                                                      refine lv_iload hx hb dX12_sheet_83 (lv_at hl 0 rfl) ?_
                                                                      refine lv_iadd hx hb dX12_sheet_85 ?_
                                                                      refine lz_top (y := 139) (by decide) ?_
                                                                      refine lv_iconst (v := 0) hx hb dX12_sheet_86 (by decide) ?_
                                                                      refine lz_astc hx hb hK hP hD hS 3 0 rfl rfl (lz_vp (x := 139) (n := 160) (by decide) (by decide)) dX12_sheet_87 (fun H locs hP hD hS => ?_)
                                                                      refine lv_iinc (v := 20) (lv' := [(4, .int 20), (0, .ref h0), (1, .int 3), (2, .int x1), (3, .int x2)]) hx hb dX12_sheet_88 hl (k := 0) rfl (by decide) (by decide) rfl (fun ls hl => ?_)
                                                                      refine lv_goto (tgt := 68) hx hb dX12_sheet_91 (by decide) ?_
                                                                      refine lv_iload hx hb dX12_sheet_68 (lv_at hl 0 rfl) ?_
                                                                      refine lv_bipush (v := 40) hx hb dX12_sheet_70 (by decide) ?_
                                                                      refine lv_icmp_ge (tgt := 94) hx hb dX12_sheet_72 (by decide) (fun c2432 => ?_) (fun c2432 => ?_)
                                                                      · exact absurd c2432 (by decide)
                                                                      · refine lv_aload_n hx hb dX12_sheet_75 rfl (lv_at hl 1 rfl) ?_
                                                                        refine va_get (D := D) (ci := 12) (v := .ref h11) (C := RX12) (T := TX12) (N := 24) hx hb hts hin12 hown hK hP 0 rfl rfl 18 (by decide) (hts (.fieldLink RX12 44 "MissedPointsModel" "items" "[I") (by decide +kernel)) (fun _ h9 => h9) rfl dX12_sheet_76 ?_
                                                                        refine lv_bipush (v := 40) hx hb dX12_sheet_79 (by decide) ?_
                                                                        refine lv_iload_n hx hb dX12_sheet_81 rfl (lv_at hl 2 rfl) ?_
                                                                        refine lv_imul hx hb dX12_sheet_82 ?_
                                                                        refine lz_top (y := 120) (by decide) ?_
                                                                        refine lv_iload hx hb dX12_sheet_83 (lv_at hl 0 rfl) ?_
                                                                        refine lv_iadd hx hb dX12_sheet_85 ?_
                                                                        refine lz_top (y := 140) (by decide) ?_
                                                                        refine lv_iconst (v := 0) hx hb dX12_sheet_86 (by decide) ?_
                                                                        refine lz_astc hx hb hK hP hD hS 3 0 rfl rfl (lz_vp (x := 140) (n := 160) (by decide) (by decide)) dX12_sheet_87 (fun H locs hP hD hS => ?_)
                                                                        refine lv_iinc (v := 21) (lv' := [(4, .int 21), (0, .ref h0), (1, .int 3), (2, .int x1), (3, .int x2)]) hx hb dX12_sheet_88 hl (k := 0) rfl (by decide) (by decide) rfl (fun ls hl => ?_)
                                                                        refine lv_goto (tgt := 68) hx hb dX12_sheet_91 (by decide) ?_
                                                                        refine lv_iload hx hb dX12_sheet_68 (lv_at hl 0 rfl) ?_
                                                                        refine lv_bipush (v := 40) hx hb dX12_sheet_70 (by decide) ?_
                                                                        refine lv_icmp_ge (tgt := 94) hx hb dX12_sheet_72 (by decide) (fun c2433 => ?_) (fun c2433 => ?_)
                                                                        · exact absurd c2433 (by decide)
                                                                        · refine lv_aload_n hx hb dX12_sheet_75 rfl (lv_at hl 1 rfl) ?_
                                                                          refine va_get (D := D) (ci := 12) (v := .ref h11) (C := RX12) (T := TX12) (N := 24) hx hb hts hin12 hown hK hP 0 rfl rfl 18 (by decide) (hts (.fieldLink RX12 44 "MissedPointsModel" "items" "[I") (by decide +kernel)) (fun _ h9 => h9) rfl dX12_sheet_76 ?_
                                                                          refine lv_bipush (v := 40) hx hb dX12_sheet_79 (by decide) ?_
                                                                          refine lv_iload_n hx hb dX12_sheet_81 rfl (lv_at hl 2 rfl) ?_
                                                                          refine lv_imul hx hb dX12_sheet_82 ?_
                                                                          refine lz_top (y := 120) (by decide) ?_
                                                                          refine lv_iload hx hb dX12_sheet_83 (lv_at hl 0 rfl) ?_
                                                                          refine lv_iadd hx hb dX12_sheet_85 ?_
                                                                          refine lz_top (y := 141) (by decide) ?_
                                                                          refine lv_iconst (v := 0) hx hb dX12_sheet_86 (by decide) ?_
                                                                          refine lz_astc hx hb hK hP hD hS 3 0 rfl rfl (lz_vp (x := 141) (n := 160) (by decide) (by decide)) dX12_sheet_87 (fun H locs hP hD hS => ?_)
                                                                          refine lv_iinc (v := 22) (lv' := [(4, .int 22), (0, .ref h0), (1, .int 3), (2, .int x1), (3, .int x2)]) hx hb dX12_sheet_88 hl (k := 0) rfl (by decide) (by decide) rfl (fun ls hl => ?_)
                                                                          refine lv_goto (tgt := 68) hx hb dX12_sheet_91 (by decide) ?_
                                                                          refine lv_iload hx hb dX12_sheet_68 (lv_at hl 0 rfl) ?_
                                                                          refine lv_bipush (v := 40) hx hb dX12_sheet_70 (by decide) ?_
                                                                          refine lv_icmp_ge (tgt := 94) hx hb dX12_sheet_72 (by decide) (fun c2434 => ?_) (fun c2434 => ?_)
                                                                          · exact absurd c2434 (by decide)
                                                                          · refine lv_aload_n hx hb dX12_sheet_75 rfl (lv_at hl 1 rfl) ?_
                                                                            refine va_get (D := D) (ci := 12) (v := .ref h11) (C := RX12) (T := TX12) (N := 24) hx hb hts hin12 hown hK hP 0 rfl rfl 18 (by decide) (hts (.fieldLink RX12 44 "MissedPointsModel" "items" "[I") (by decide +kernel)) (fun _ h9 => h9) rfl dX12_sheet_76 ?_
                                                                            refine lv_bipush (v := 40) hx hb dX12_sheet_79 (by decide) ?_
                                                                            refine lv_iload_n hx hb dX12_sheet_81 rfl (lv_at hl 2 rfl) ?_
                                                                            refine lv_imul hx hb dX12_sheet_82 ?_
                                                                            refine lz_top (y := 120) (by decide) ?_
                                                                            refine lv_iload hx hb dX12_sheet_83 (lv_at hl 0 rfl) ?_
                                                                            refine lv_iadd hx hb dX12_sheet_85 ?_
                                                                            refine lz_top (y := 142) (by decide) ?_
                                                                            refine lv_iconst (v := 0) hx hb dX12_sheet_86 (by decide) ?_
                                                                            refine lz_astc hx hb hK hP hD hS 3 0 rfl rfl (lz_vp (x := 142) (n := 160) (by decide) (by decide)) dX12_sheet_87 (fun H locs hP hD hS => ?_)
                                                                            refine lv_iinc (v := 23) (lv' := [(4, .int 23), (0, .ref h0), (1, .int 3), (2, .int x1), (3, .int x2)]) hx hb dX12_sheet_88 hl (k := 0) rfl (by decide) (by decide) rfl (fun ls hl => ?_)
                                                                            refine lv_goto (tgt := 68) hx hb dX12_sheet_91 (by decide) ?_
                                                                            refine lv_iload hx hb dX12_sheet_68 (lv_at hl 0 rfl) ?_
                                                                            refine lv_bipush (v := 40) hx hb dX12_sheet_70 (by decide) ?_
                                                                            refine lv_icmp_ge (tgt := 94) hx hb dX12_sheet_72 (by decide) (fun c2435 => ?_) (fun c2435 => ?_)
                                                                            · exact absurd c2435 (by decide)
                                                                            · refine lv_aload_n hx hb dX12_sheet_75 rfl (lv_at hl 1 rfl) ?_
                                                                              refine va_get (D := D) (ci := 12) (v := .ref h11) (C := RX12) (T := TX12) (N := 24) hx hb hts hin12 hown hK hP 0 rfl rfl 18 (by decide) (hts (.fieldLink RX12 44 "MissedPointsModel" "items" "[I") (by decide +kernel)) (fun _ h9 => h9) rfl dX12_sheet_76 ?_
                                                                              refine lv_bipush (v := 40) hx hb dX12_sheet_79 (by decide) ?_
                                                                              refine lv_iload_n hx hb dX12_sheet_81 rfl (lv_at hl 2 rfl) ?_
                                                                              refine lv_imul hx hb dX12_sheet_82 ?_
                                                                              refine lz_top (y := 120) (by decide) ?_
                                                                              refine lv_iload hx hb dX12_sheet_83 (lv_at hl 0 rfl) ?_
                                                                              refine lv_iadd hx hb dX12_sheet_85 ?_
                                                                              refine lz_top (y := 143) (by decide) ?_
                                                                              refine lv_iconst (v := 0) hx hb dX12_sheet_86 (by decide) ?_
                                                                              refine lz_astc hx hb hK hP hD hS 3 0 rfl rfl (lz_vp (x := 143) (n := 160) (by decide) (by decide)) dX12_sheet_87 (fun H locs hP hD hS => ?_)
                                                                              refine lv_iinc (v := 24) (lv' := [(4, .int 24), (0, .ref h0), (1, .int 3), (2, .int x1), (3, .int x2)]) hx hb dX12_sheet_88 hl (k := 0) rfl (by decide) (by decide) rfl (fun ls hl => ?_)
                                                                              refine lv_goto (tgt := 68) hx hb dX12_sheet_91 (by decide) ?_
                                                                              refine lv_iload hx hb dX12_sheet_68 (lv_at hl 0 rfl) ?_
                                                                              refine lv_bipush (v := 40) hx hb dX12_sheet_70 (by decide) ?_
                                                                              refine lv_icmp_ge (tgt := 94) hx hb dX12_sheet_72 (by decide) (fun c2436 => ?_) (fun c2436 => ?_)
                                                                              · exact absurd c2436 (by decide)
                                                                              · refine lv_aload_n hx hb dX12_sheet_75 rfl (lv_at hl 1 rfl) ?_
                                                                                refine va_get (D := D) (ci := 12) (v := .ref h11) (C := RX12) (T := TX12) (N := 24) hx hb hts hin12 hown hK hP 0 rfl rfl 18 (by decide) (hts (.fieldLink RX12 44 "MissedPointsModel" "items" "[I") (by decide +kernel)) (fun _ h9 => h9) rfl dX12_sheet_76 ?_
                                                                                refine lv_bipush (v := 40) hx hb dX12_sheet_79 (by decide) ?_
                                                                                refine lv_iload_n hx hb dX12_sheet_81 rfl (lv_at hl 2 rfl) ?_
                                                                                refine lv_imul hx hb dX12_sheet_82 ?_
                                                                                refine lz_top (y := 120) (by decide) ?_
                                                                                refine lv_iload hx hb dX12_sheet_83 (lv_at hl 0 rfl) ?_
                                                                                refine lv_iadd hx hb dX12_sheet_85 ?_
                                                                                refine lz_top (y := 144) (by decide) ?_
                                                                                refine lv_iconst (v := 0) hx hb dX12_sheet_86 (by decide) ?_
                                                                                refine lz_astc hx hb hK hP hD hS 3 0 rfl rfl (lz_vp (x := 144) (n := 160) (by decide) (by decide)) dX12_sheet_87 (fun H locs hP hD hS => ?_)
                                                                                refine lv_iinc (v := 25) (lv' := [(4, .int 25), (0, .ref h0), (1, .int 3), (2, .int x1), (3, .int x2)]) hx hb dX12_sheet_88 hl (k := 0) rfl (by decide) (by decide) rfl (fun ls hl => ?_)
                                                                                refine lv_goto (tgt := 68) hx hb dX12_sheet_91 (by decide) ?_
                                                                                refine lv_iload hx hb dX12_sheet_68 (lv_at hl 0 rfl) ?_
                                                                                refine lv_bipush (v := 40) hx hb dX12_sheet_70 (by decide) ?_
                                                                                refine lv_icmp_ge (tgt := 94) hx hb dX12_sheet_72 (by decide) (fun c2437 => ?_) (fun c2437 => ?_)
                                                                                · exact absurd c2437 (by decide)
                                                                                · refine lv_aload_n hx hb dX12_sheet_75 rfl (lv_at hl 1 rfl) ?_
                                                                                  refine va_get (D := D) (ci := 12) (v := .ref h11) (C := RX12) (T := TX12) (N := 24) hx hb hts hin12 hown hK hP 0 rfl rfl 18 (by decide) (hts (.fieldLink RX12 44 "MissedPointsModel" "items" "[I") (by decide +kernel)) (fun _ h9 => h9) rfl dX12_sheet_76 ?_
                                                                                  refine lv_bipush (v := 40) hx hb dX12_sheet_79 (by decide) ?_
                                                                                  refine lv_iload_n hx hb dX12_sheet_81 rfl (lv_at hl 2 rfl) ?_
                                                                                  refine lv_imul hx hb dX12_sheet_82 ?_
                                                                                  refine lz_top (y := 120) (by decide) ?_
                                                                                  refine lv_iload hx hb dX12_sheet_83 (lv_at hl 0 rfl) ?_
                                                                                  refine lv_iadd hx hb dX12_sheet_85 ?_
                                                                                  refine lz_top (y := 145) (by decide) ?_
                                                                                  refine lv_iconst (v := 0) hx hb dX12_sheet_86 (by decide) ?_
                                                                                  refine lz_astc hx hb hK hP hD hS 3 0 rfl rfl (lz_vp (x := 145) (n := 160) (by decide) (by decide)) dX12_sheet_87 (fun H locs hP hD hS => ?_)
                                                                                  refine lv_iinc (v := 26) (lv' := [(4, .int 26), (0, .ref h0), (1, .int 3), (2, .int x1), (3, .int x2)]) hx hb dX12_sheet_88 hl (k := 0) rfl (by decide) (by decide) rfl (fun ls hl => ?_)
                                                                                  refine lv_goto (tgt := 68) hx hb dX12_sheet_91 (by decide) ?_
                                                                                  refine lv_iload hx hb dX12_sheet_68 (lv_at hl 0 rfl) ?_
                                                                                  refine lv_bipush (v := 40) hx hb dX12_sheet_70 (by decide) ?_
                                                                                  refine lv_icmp_ge (tgt := 94) hx hb dX12_sheet_72 (by decide) (fun c2438 => ?_) (fun c2438 => ?_)
                                                                                  · exact absurd c2438 (by decide)
                                                                                  · refine lv_aload_n hx hb dX12_sheet_75 rfl (lv_at hl 1 rfl) ?_
                                                                                    refine va_get (D := D) (ci := 12) (v := .ref h11) (C := RX12) (T := TX12) (N := 24) hx hb hts hin12 hown hK hP 0 rfl rfl 18 (by decide) (hts (.fieldLink RX12 44 "MissedPointsModel" "items" "[I") (by decide +kernel)) (fun _ h9 => h9) rfl dX12_sheet_76 ?_
                                                                                    refine lv_bipush (v := 40) hx hb dX12_sheet_79 (by decide) ?_
                                                                                    refine lv_iload_n hx hb dX12_sheet_81 rfl (lv_at hl 2 rfl) ?_
                                                                                    refine lv_imul hx hb dX12_sheet_82 ?_
                                                                                    refine lz_top (y := 120) (by decide) ?_
                                                                                    refine lv_iload hx hb dX12_sheet_83 (lv_at hl 0 rfl) ?_
                                                                                    refine lv_iadd hx hb dX12_sheet_85 ?_
                                                                                    refine lz_top (y := 146) (by decide) ?_
                                                                                    refine lv_iconst (v := 0) hx hb dX12_sheet_86 (by decide) ?_
                                                                                    refine lz_astc hx hb hK hP hD hS 3 0 rfl rfl (lz_vp (x := 146) (n := 160) (by decide) (by decide)) dX12_sheet_87 (fun H locs hP hD hS => ?_)
                                                                                    refine lv_iinc (v := 27) (lv' := [(4, .int 27), (0, .ref h0), (1, .int 3), (2, .int x1), (3, .int x2)]) hx hb dX12_sheet_88 hl (k := 0) rfl (by decide) (by decide) rfl (fun ls hl => ?_)
                                                                                    refine lv_goto (tgt := 68) hx hb dX12_sheet_91 (by decide) ?_
                                                                                    refine lv_iload hx hb dX12_sheet_68 (lv_at hl 0 rfl) ?_
                                                                                    refine lv_bipush (v := 40) hx hb dX12_sheet_70 (by decide) ?_
                                                                                    refine lv_icmp_ge (tgt := 94) hx hb dX12_sheet_72 (by decide) (fun c2439 => ?_) (fun c2439 => ?_)
                                                                                    · exact absurd c2439 (by decide)
                                                                                    · refine lv_aload_n hx hb dX12_sheet_75 rfl (lv_at hl 1 rfl) ?_
                                                                                      refine va_get (D := D) (ci := 12) (v := .ref h11) (C := RX12) (T := TX12) (N := 24) hx hb hts hin12 hown hK hP 0 rfl rfl 18 (by decide) (hts (.fieldLink RX12 44 "MissedPointsModel" "items" "[I") (by decide +kernel)) (fun _ h9 => h9) rfl dX12_sheet_76 ?_
                                                                                      refine lv_bipush (v := 40) hx hb dX12_sheet_79 (by decide) ?_
                                                                                      refine lv_iload_n hx hb dX12_sheet_81 rfl (lv_at hl 2 rfl) ?_
                                                                                      refine lv_imul hx hb dX12_sheet_82 ?_
                                                                                      refine lz_top (y := 120) (by decide) ?_
                                                                                      refine lv_iload hx hb dX12_sheet_83 (lv_at hl 0 rfl) ?_
                                                                                      refine lv_iadd hx hb dX12_sheet_85 ?_
                                                                                      refine lz_top (y := 147) (by decide) ?_
                                                                                      refine lv_iconst (v := 0) hx hb dX12_sheet_86 (by decide) ?_
                                                                                      refine lz_astc hx hb hK hP hD hS 3 0 rfl rfl (lz_vp (x := 147) (n := 160) (by decide) (by decide)) dX12_sheet_87 (fun H locs hP hD hS => ?_)
                                                                                      refine lv_iinc (v := 28) (lv' := [(4, .int 28), (0, .ref h0), (1, .int 3), (2, .int x1), (3, .int x2)]) hx hb dX12_sheet_88 hl (k := 0) rfl (by decide) (by decide) rfl (fun ls hl => ?_)
                                                                                      refine lv_goto (tgt := 68) hx hb dX12_sheet_91 (by decide) ?_
                                                                                      refine lv_iload hx hb dX12_sheet_68 (lv_at hl 0 rfl) ?_
                                                                                      refine lv_bipush (v := 40) hx hb dX12_sheet_70 (by decide) ?_
                                                                                      refine lv_icmp_ge (tgt := 94) hx hb dX12_sheet_72 (by decide) (fun c2440 => ?_) (fun c2440 => ?_)
                                                                                      · exact absurd c2440 (by decide)
                                                                                      · refine lv_aload_n hx hb dX12_sheet_75 rfl (lv_at hl 1 rfl) ?_
                                                                                        refine va_get (D := D) (ci := 12) (v := .ref h11) (C := RX12) (T := TX12) (N := 24) hx hb hts hin12 hown hK hP 0 rfl rfl 18 (by decide) (hts (.fieldLink RX12 44 "MissedPointsModel" "items" "[I") (by decide +kernel)) (fun _ h9 => h9) rfl dX12_sheet_76 ?_
                                                                                        refine lv_bipush (v := 40) hx hb dX12_sheet_79 (by decide) ?_
                                                                                        refine lv_iload_n hx hb dX12_sheet_81 rfl (lv_at hl 2 rfl) ?_
                                                                                        refine lv_imul hx hb dX12_sheet_82 ?_
                                                                                        refine lz_top (y := 120) (by decide) ?_
                                                                                        refine lv_iload hx hb dX12_sheet_83 (lv_at hl 0 rfl) ?_
                                                                                        refine lv_iadd hx hb dX12_sheet_85 ?_
                                                                                        refine lz_top (y := 148) (by decide) ?_
                                                                                        refine lv_iconst (v := 0) hx hb dX12_sheet_86 (by decide) ?_
                                                                                        refine lz_astc hx hb hK hP hD hS 3 0 rfl rfl (lz_vp (x := 148) (n := 160) (by decide) (by decide)) dX12_sheet_87 (fun H locs hP hD hS => ?_)
                                                                                        refine lv_iinc (v := 29) (lv' := [(4, .int 29), (0, .ref h0), (1, .int 3), (2, .int x1), (3, .int x2)]) hx hb dX12_sheet_88 hl (k := 0) rfl (by decide) (by decide) rfl (fun ls hl => ?_)
                                                                                        refine lv_goto (tgt := 68) hx hb dX12_sheet_91 (by decide) ?_
                                                                                        refine lv_iload hx hb dX12_sheet_68 (lv_at hl 0 rfl) ?_
                                                                                        refine lv_bipush (v := 40) hx hb dX12_sheet_70 (by decide) ?_
                                                                                        refine lv_icmp_ge (tgt := 94) hx hb dX12_sheet_72 (by decide) (fun c2441 => ?_) (fun c2441 => ?_)
                                                                                        · exact absurd c2441 (by decide)
                                                                                        · refine lv_aload_n hx hb dX12_sheet_75 rfl (lv_at hl 1 rfl) ?_
                                                                                          refine va_get (D := D) (ci := 12) (v := .ref h11) (C := RX12) (T := TX12) (N := 24) hx hb hts hin12 hown hK hP 0 rfl rfl 18 (by decide) (hts (.fieldLink RX12 44 "MissedPointsModel" "items" "[I") (by decide +kernel)) (fun _ h9 => h9) rfl dX12_sheet_76 ?_
                                                                                          refine lv_bipush (v := 40) hx hb dX12_sheet_79 (by decide) ?_
                                                                                          refine lv_iload_n hx hb dX12_sheet_81 rfl (lv_at hl 2 rfl) ?_
                                                                                          refine lv_imul hx hb dX12_sheet_82 ?_
                                                                                          refine lz_top (y := 120) (by decide) ?_
                                                                                          refine lv_iload hx hb dX12_sheet_83 (lv_at hl 0 rfl) ?_
                                                                                          refine lv_iadd hx hb dX12_sheet_85 ?_
                                                                                          refine lz_top (y := 149) (by decide) ?_
                                                                                          refine lv_iconst (v := 0) hx hb dX12_sheet_86 (by decide) ?_
                                                                                          refine lz_astc hx hb hK hP hD hS 3 0 rfl rfl (lz_vp (x := 149) (n := 160) (by decide) (by decide)) dX12_sheet_87 (fun H locs hP hD hS => ?_)
                                                                                          refine lv_iinc (v := 30) (lv' := [(4, .int 30), (0, .ref h0), (1, .int 3), (2, .int x1), (3, .int x2)]) hx hb dX12_sheet_88 hl (k := 0) rfl (by decide) (by decide) rfl (fun ls hl => ?_)
                                                                                          refine lv_goto (tgt := 68) hx hb dX12_sheet_91 (by decide) ?_
                                                                                          refine lv_iload hx hb dX12_sheet_68 (lv_at hl 0 rfl) ?_
                                                                                          refine lv_bipush (v := 40) hx hb dX12_sheet_70 (by decide) ?_
                                                                                          refine lv_icmp_ge (tgt := 94) hx hb dX12_sheet_72 (by decide) (fun c2442 => ?_) (fun c2442 => ?_)
                                                                                          · exact absurd c2442 (by decide)
                                                                                          · refine lv_aload_n hx hb dX12_sheet_75 rfl (lv_at hl 1 rfl) ?_
                                                                                            refine va_get (D := D) (ci := 12) (v := .ref h11) (C := RX12) (T := TX12) (N := 24) hx hb hts hin12 hown hK hP 0 rfl rfl 18 (by decide) (hts (.fieldLink RX12 44 "MissedPointsModel" "items" "[I") (by decide +kernel)) (fun _ h9 => h9) rfl dX12_sheet_76 ?_
                                                                                            refine lv_bipush (v := 40) hx hb dX12_sheet_79 (by decide) ?_
                                                                                            refine lv_iload_n hx hb dX12_sheet_81 rfl (lv_at hl 2 rfl) ?_
                                                                                            refine lv_imul hx hb dX12_sheet_82 ?_
                                                                                            refine lz_top (y := 120) (by decide) ?_
                                                                                            refine lv_iload hx hb dX12_sheet_83 (lv_at hl 0 rfl) ?_
                                                                                            refine lv_iadd hx hb dX12_sheet_85 ?_
                                                                                            refine lz_top (y := 150) (by decide) ?_
                                                                                            refine lv_iconst (v := 0) hx hb dX12_sheet_86 (by decide) ?_
                                                                                            refine lz_astc hx hb hK hP hD hS 3 0 rfl rfl (lz_vp (x := 150) (n := 160) (by decide) (by decide)) dX12_sheet_87 (fun H locs hP hD hS => ?_)
                                                                                            refine lv_iinc (v := 31) (lv' := [(4, .int 31), (0, .ref h0), (1, .int 3), (2, .int x1), (3, .int x2)]) hx hb dX12_sheet_88 hl (k := 0) rfl (by decide) (by decide) rfl (fun ls hl => ?_)
                                                                                            refine lv_goto (tgt := 68) hx hb dX12_sheet_91 (by decide) ?_
                                                                                            refine lv_iload hx hb dX12_sheet_68 (lv_at hl 0 rfl) ?_
                                                                                            refine lv_bipush (v := 40) hx hb dX12_sheet_70 (by decide) ?_
                                                                                            refine lv_icmp_ge (tgt := 94) hx hb dX12_sheet_72 (by decide) (fun c2443 => ?_) (fun c2443 => ?_)
                                                                                            · exact absurd c2443 (by decide)
                                                                                            · refine lv_aload_n hx hb dX12_sheet_75 rfl (lv_at hl 1 rfl) ?_
                                                                                              refine va_get (D := D) (ci := 12) (v := .ref h11) (C := RX12) (T := TX12) (N := 24) hx hb hts hin12 hown hK hP 0 rfl rfl 18 (by decide) (hts (.fieldLink RX12 44 "MissedPointsModel" "items" "[I") (by decide +kernel)) (fun _ h9 => h9) rfl dX12_sheet_76 ?_
                                                                                              refine lv_bipush (v := 40) hx hb dX12_sheet_79 (by decide) ?_
                                                                                              refine lv_iload_n hx hb dX12_sheet_81 rfl (lv_at hl 2 rfl) ?_
                                                                                              refine lv_imul hx hb dX12_sheet_82 ?_
                                                                                              refine lz_top (y := 120) (by decide) ?_
                                                                                              refine lv_iload hx hb dX12_sheet_83 (lv_at hl 0 rfl) ?_
                                                                                              refine lv_iadd hx hb dX12_sheet_85 ?_
                                                                                              refine lz_top (y := 151) (by decide) ?_
                                                                                              refine lv_iconst (v := 0) hx hb dX12_sheet_86 (by decide) ?_
                                                                                              refine lz_astc hx hb hK hP hD hS 3 0 rfl rfl (lz_vp (x := 151) (n := 160) (by decide) (by decide)) dX12_sheet_87 (fun H locs hP hD hS => ?_)
                                                                                              refine lv_iinc (v := 32) (lv' := [(4, .int 32), (0, .ref h0), (1, .int 3), (2, .int x1), (3, .int x2)]) hx hb dX12_sheet_88 hl (k := 0) rfl (by decide) (by decide) rfl (fun ls hl => ?_)
                                                                                              refine lv_goto (tgt := 68) hx hb dX12_sheet_91 (by decide) ?_
                                                                                              refine lv_iload hx hb dX12_sheet_68 (lv_at hl 0 rfl) ?_
                                                                                              refine lv_bipush (v := 40) hx hb dX12_sheet_70 (by decide) ?_
                                                                                              refine lv_icmp_ge (tgt := 94) hx hb dX12_sheet_72 (by decide) (fun c2444 => ?_) (fun c2444 => ?_)
                                                                                              · exact absurd c2444 (by decide)
                                                                                              · refine lv_aload_n hx hb dX12_sheet_75 rfl (lv_at hl 1 rfl) ?_
                                                                                                refine va_get (D := D) (ci := 12) (v := .ref h11) (C := RX12) (T := TX12) (N := 24) hx hb hts hin12 hown hK hP 0 rfl rfl 18 (by decide) (hts (.fieldLink RX12 44 "MissedPointsModel" "items" "[I") (by decide +kernel)) (fun _ h9 => h9) rfl dX12_sheet_76 ?_
                                                                                                refine lv_bipush (v := 40) hx hb dX12_sheet_79 (by decide) ?_
                                                                                                refine lv_iload_n hx hb dX12_sheet_81 rfl (lv_at hl 2 rfl) ?_
                                                                                                refine lv_imul hx hb dX12_sheet_82 ?_
                                                                                                refine lz_top (y := 120) (by decide) ?_
                                                                                                refine lv_iload hx hb dX12_sheet_83 (lv_at hl 0 rfl) ?_
                                                                                                refine lv_iadd hx hb dX12_sheet_85 ?_
                                                                                                refine lz_top (y := 152) (by decide) ?_
                                                                                                refine lv_iconst (v := 0) hx hb dX12_sheet_86 (by decide) ?_
                                                                                                refine lz_astc hx hb hK hP hD hS 3 0 rfl rfl (lz_vp (x := 152) (n := 160) (by decide) (by decide)) dX12_sheet_87 (fun H locs hP hD hS => ?_)
                                                                                                refine lv_iinc (v := 33) (lv' := [(4, .int 33), (0, .ref h0), (1, .int 3), (2, .int x1), (3, .int x2)]) hx hb dX12_sheet_88 hl (k := 0) rfl (by decide) (by decide) rfl (fun ls hl => ?_)
                                                                                                refine lv_goto (tgt := 68) hx hb dX12_sheet_91 (by decide) ?_
                                                                                                refine lv_iload hx hb dX12_sheet_68 (lv_at hl 0 rfl) ?_
                                                                                                refine lv_bipush (v := 40) hx hb dX12_sheet_70 (by decide) ?_
                                                                                                refine lv_icmp_ge (tgt := 94) hx hb dX12_sheet_72 (by decide) (fun c2445 => ?_) (fun c2445 => ?_)
                                                                                                · exact absurd c2445 (by decide)
                                                                                                · refine lv_aload_n hx hb dX12_sheet_75 rfl (lv_at hl 1 rfl) ?_
                                                                                                  refine va_get (D := D) (ci := 12) (v := .ref h11) (C := RX12) (T := TX12) (N := 24) hx hb hts hin12 hown hK hP 0 rfl rfl 18 (by decide) (hts (.fieldLink RX12 44 "MissedPointsModel" "items" "[I") (by decide +kernel)) (fun _ h9 => h9) rfl dX12_sheet_76 ?_
                                                                                                  refine lv_bipush (v := 40) hx hb dX12_sheet_79 (by decide) ?_
                                                                                                  refine lv_iload_n hx hb dX12_sheet_81 rfl (lv_at hl 2 rfl) ?_
                                                                                                  refine lv_imul hx hb dX12_sheet_82 ?_
                                                                                                  refine lz_top (y := 120) (by decide) ?_
                                                                                                  refine lv_iload hx hb dX12_sheet_83 (lv_at hl 0 rfl) ?_
                                                                                                  refine lv_iadd hx hb dX12_sheet_85 ?_
                                                                                                  refine lz_top (y := 153) (by decide) ?_
                                                                                                  refine lv_iconst (v := 0) hx hb dX12_sheet_86 (by decide) ?_
                                                                                                  refine lz_astc hx hb hK hP hD hS 3 0 rfl rfl (lz_vp (x := 153) (n := 160) (by decide) (by decide)) dX12_sheet_87 (fun H locs hP hD hS => ?_)
                                                                                                  refine lv_iinc (v := 34) (lv' := [(4, .int 34), (0, .ref h0), (1, .int 3), (2, .int x1), (3, .int x2)]) hx hb dX12_sheet_88 hl (k := 0) rfl (by decide) (by decide) rfl (fun ls hl => ?_)
                                                                                                  refine lv_goto (tgt := 68) hx hb dX12_sheet_91 (by decide) ?_
                                                                                                  refine lv_iload hx hb dX12_sheet_68 (lv_at hl 0 rfl) ?_
                                                                                                  refine lv_bipush (v := 40) hx hb dX12_sheet_70 (by decide) ?_
                                                                                                  refine lv_icmp_ge (tgt := 94) hx hb dX12_sheet_72 (by decide) (fun c2446 => ?_) (fun c2446 => ?_)
                                                                                                  · exact absurd c2446 (by decide)
                                                                                                  · refine lv_aload_n hx hb dX12_sheet_75 rfl (lv_at hl 1 rfl) ?_
                                                                                                    refine va_get (D := D) (ci := 12) (v := .ref h11) (C := RX12) (T := TX12) (N := 24) hx hb hts hin12 hown hK hP 0 rfl rfl 18 (by decide) (hts (.fieldLink RX12 44 "MissedPointsModel" "items" "[I") (by decide +kernel)) (fun _ h9 => h9) rfl dX12_sheet_76 ?_
                                                                                                    refine lv_bipush (v := 40) hx hb dX12_sheet_79 (by decide) ?_
                                                                                                    refine lv_iload_n hx hb dX12_sheet_81 rfl (lv_at hl 2 rfl) ?_
                                                                                                    refine lv_imul hx hb dX12_sheet_82 ?_
                                                                                                    refine lz_top (y := 120) (by decide) ?_
                                                                                                    refine lv_iload hx hb dX12_sheet_83 (lv_at hl 0 rfl) ?_
                                                                                                    refine lv_iadd hx hb dX12_sheet_85 ?_
                                                                                                    refine lz_top (y := 154) (by decide) ?_
                                                                                                    refine lv_iconst (v := 0) hx hb dX12_sheet_86 (by decide) ?_
                                                                                                    refine lz_astc hx hb hK hP hD hS 3 0 rfl rfl (lz_vp (x := 154) (n := 160) (by decide) (by decide)) dX12_sheet_87 (fun H locs hP hD hS => ?_)
                                                                                                    refine lv_iinc (v := 35) (lv' := [(4, .int 35), (0, .ref h0), (1, .int 3), (2, .int x1), (3, .int x2)]) hx hb dX12_sheet_88 hl (k := 0) rfl (by decide) (by decide) rfl (fun ls hl => ?_)
                                                                                                    refine lv_goto (tgt := 68) hx hb dX12_sheet_91 (by decide) ?_
                                                                                                    refine lv_iload hx hb dX12_sheet_68 (lv_at hl 0 rfl) ?_
                                                                                                    refine lv_bipush (v := 40) hx hb dX12_sheet_70 (by decide) ?_
                                                                                                    refine lv_icmp_ge (tgt := 94) hx hb dX12_sheet_72 (by decide) (fun c2447 => ?_) (fun c2447 => ?_)
                                                                                                    · exact absurd c2447 (by decide)
                                                                                                    · refine lv_aload_n hx hb dX12_sheet_75 rfl (lv_at hl 1 rfl) ?_
                                                                                                      refine va_get (D := D) (ci := 12) (v := .ref h11) (C := RX12) (T := TX12) (N := 24) hx hb hts hin12 hown hK hP 0 rfl rfl 18 (by decide) (hts (.fieldLink RX12 44 "MissedPointsModel" "items" "[I") (by decide +kernel)) (fun _ h9 => h9) rfl dX12_sheet_76 ?_
                                                                                                      refine lv_bipush (v := 40) hx hb dX12_sheet_79 (by decide) ?_
                                                                                                      refine lv_iload_n hx hb dX12_sheet_81 rfl (lv_at hl 2 rfl) ?_
                                                                                                      refine lv_imul hx hb dX12_sheet_82 ?_
                                                                                                      refine lz_top (y := 120) (by decide) ?_
                                                                                                      refine lv_iload hx hb dX12_sheet_83 (lv_at hl 0 rfl) ?_
                                                                                                      refine lv_iadd hx hb dX12_sheet_85 ?_
                                                                                                      refine lz_top (y := 155) (by decide) ?_
                                                                                                      refine lv_iconst (v := 0) hx hb dX12_sheet_86 (by decide) ?_
                                                                                                      refine lz_astc hx hb hK hP hD hS 3 0 rfl rfl (lz_vp (x := 155) (n := 160) (by decide) (by decide)) dX12_sheet_87 (fun H locs hP hD hS => ?_)
                                                                                                      refine lv_iinc (v := 36) (lv' := [(4, .int 36), (0, .ref h0), (1, .int 3), (2, .int x1), (3, .int x2)]) hx hb dX12_sheet_88 hl (k := 0) rfl (by decide) (by decide) rfl (fun ls hl => ?_)
                                                                                                      refine lv_goto (tgt := 68) hx hb dX12_sheet_91 (by decide) ?_
                                                                                                      refine lv_iload hx hb dX12_sheet_68 (lv_at hl 0 rfl) ?_
                                                                                                      refine lv_bipush (v := 40) hx hb dX12_sheet_70 (by decide) ?_
                                                                                                      refine lv_icmp_ge (tgt := 94) hx hb dX12_sheet_72 (by decide) (fun c2448 => ?_) (fun c2448 => ?_)
                                                                                                      · exact absurd c2448 (by decide)
                                                                                                      · refine lv_aload_n hx hb dX12_sheet_75 rfl (lv_at hl 1 rfl) ?_
                                                                                                        refine va_get (D := D) (ci := 12) (v := .ref h11) (C := RX12) (T := TX12) (N := 24) hx hb hts hin12 hown hK hP 0 rfl rfl 18 (by decide) (hts (.fieldLink RX12 44 "MissedPointsModel" "items" "[I") (by decide +kernel)) (fun _ h9 => h9) rfl dX12_sheet_76 ?_
                                                                                                        refine lv_bipush (v := 40) hx hb dX12_sheet_79 (by decide) ?_
                                                                                                        refine lv_iload_n hx hb dX12_sheet_81 rfl (lv_at hl 2 rfl) ?_
                                                                                                        refine lv_imul hx hb dX12_sheet_82 ?_
                                                                                                        refine lz_top (y := 120) (by decide) ?_
                                                                                                        refine lv_iload hx hb dX12_sheet_83 (lv_at hl 0 rfl) ?_
                                                                                                        refine lv_iadd hx hb dX12_sheet_85 ?_
                                                                                                        refine lz_top (y := 156) (by decide) ?_
                                                                                                        refine lv_iconst (v := 0) hx hb dX12_sheet_86 (by decide) ?_
                                                                                                        refine lz_astc hx hb hK hP hD hS 3 0 rfl rfl (lz_vp (x := 156) (n := 160) (by decide) (by decide)) dX12_sheet_87 (fun H locs hP hD hS => ?_)
                                                                                                        refine lv_iinc (v := 37) (lv' := [(4, .int 37), (0, .ref h0), (1, .int 3), (2, .int x1), (3, .int x2)]) hx hb dX12_sheet_88 hl (k := 0) rfl (by decide) (by decide) rfl (fun ls hl => ?_)
                                                                                                        refine lv_goto (tgt := 68) hx hb dX12_sheet_91 (by decide) ?_
                                                                                                        refine lv_iload hx hb dX12_sheet_68 (lv_at hl 0 rfl) ?_
                                                                                                        refine lv_bipush (v := 40) hx hb dX12_sheet_70 (by decide) ?_
                                                                                                        refine lv_icmp_ge (tgt := 94) hx hb dX12_sheet_72 (by decide) (fun c2449 => ?_) (fun c2449 => ?_)
                                                                                                        · exact absurd c2449 (by decide)
                                                                                                        · refine lv_aload_n hx hb dX12_sheet_75 rfl (lv_at hl 1 rfl) ?_
                                                                                                          refine va_get (D := D) (ci := 12) (v := .ref h11) (C := RX12) (T := TX12) (N := 24) hx hb hts hin12 hown hK hP 0 rfl rfl 18 (by decide) (hts (.fieldLink RX12 44 "MissedPointsModel" "items" "[I") (by decide +kernel)) (fun _ h9 => h9) rfl dX12_sheet_76 ?_
                                                                                                          refine lv_bipush (v := 40) hx hb dX12_sheet_79 (by decide) ?_
                                                                                                          refine lv_iload_n hx hb dX12_sheet_81 rfl (lv_at hl 2 rfl) ?_
                                                                                                          refine lv_imul hx hb dX12_sheet_82 ?_
                                                                                                          refine lz_top (y := 120) (by decide) ?_
                                                                                                          refine lv_iload hx hb dX12_sheet_83 (lv_at hl 0 rfl) ?_
                                                                                                          refine lv_iadd hx hb dX12_sheet_85 ?_
                                                                                                          refine lz_top (y := 157) (by decide) ?_
                                                                                                          refine lv_iconst (v := 0) hx hb dX12_sheet_86 (by decide) ?_
                                                                                                          refine lz_astc hx hb hK hP hD hS 3 0 rfl rfl (lz_vp (x := 157) (n := 160) (by decide) (by decide)) dX12_sheet_87 (fun H locs hP hD hS => ?_)
                                                                                                          refine lv_iinc (v := 38) (lv' := [(4, .int 38), (0, .ref h0), (1, .int 3), (2, .int x1), (3, .int x2)]) hx hb dX12_sheet_88 hl (k := 0) rfl (by decide) (by decide) rfl (fun ls hl => ?_)
                                                                                                          refine lv_goto (tgt := 68) hx hb dX12_sheet_91 (by decide) ?_
                                                                                                          refine lv_iload hx hb dX12_sheet_68 (lv_at hl 0 rfl) ?_
                                                                                                          refine lv_bipush (v := 40) hx hb dX12_sheet_70 (by decide) ?_
                                                                                                          refine lv_icmp_ge (tgt := 94) hx hb dX12_sheet_72 (by decide) (fun c2450 => ?_) (fun c2450 => ?_)
                                                                                                          · exact absurd c2450 (by decide)
                                                                                                          · refine lv_aload_n hx hb dX12_sheet_75 rfl (lv_at hl 1 rfl) ?_
                                                                                                            refine va_get (D := D) (ci := 12) (v := .ref h11) (C := RX12) (T := TX12) (N := 24) hx hb hts hin12 hown hK hP 0 rfl rfl 18 (by decide) (hts (.fieldLink RX12 44 "MissedPointsModel" "items" "[I") (by decide +kernel)) (fun _ h9 => h9) rfl dX12_sheet_76 ?_
                                                                                                            refine lv_bipush (v := 40) hx hb dX12_sheet_79 (by decide) ?_
                                                                                                            refine lv_iload_n hx hb dX12_sheet_81 rfl (lv_at hl 2 rfl) ?_
                                                                                                            refine lv_imul hx hb dX12_sheet_82 ?_
                                                                                                            refine lz_top (y := 120) (by decide) ?_
                                                                                                            refine lv_iload hx hb dX12_sheet_83 (lv_at hl 0 rfl) ?_
                                                                                                            refine lv_iadd hx hb dX12_sheet_85 ?_
                                                                                                            refine lz_top (y := 158) (by decide) ?_
                                                                                                            refine lv_iconst (v := 0) hx hb dX12_sheet_86 (by decide) ?_
                                                                                                            refine lz_astc hx hb hK hP hD hS 3 0 rfl rfl (lz_vp (x := 158) (n := 160) (by decide) (by decide)) dX12_sheet_87 (fun H locs hP hD hS => ?_)
                                                                                                            refine lv_iinc (v := 39) (lv' := [(4, .int 39), (0, .ref h0), (1, .int 3), (2, .int x1), (3, .int x2)]) hx hb dX12_sheet_88 hl (k := 0) rfl (by decide) (by decide) rfl (fun ls hl => ?_)
                                                                                                            refine lv_goto (tgt := 68) hx hb dX12_sheet_91 (by decide) ?_
                                                                                                            refine lv_iload hx hb dX12_sheet_68 (lv_at hl 0 rfl) ?_
                                                                                                            refine lv_bipush (v := 40) hx hb dX12_sheet_70 (by decide) ?_
                                                                                                            refine lv_icmp_ge (tgt := 94) hx hb dX12_sheet_72 (by decide) (fun c2451 => ?_) (fun c2451 => ?_)
                                                                                                            · exact absurd c2451 (by decide)
                                                                                                            · refine lv_aload_n hx hb dX12_sheet_75 rfl (lv_at hl 1 rfl) ?_
                                                                                                              refine va_get (D := D) (ci := 12) (v := .ref h11) (C := RX12) (T := TX12) (N := 24) hx hb hts hin12 hown hK hP 0 rfl rfl 18 (by decide) (hts (.fieldLink RX12 44 "MissedPointsModel" "items" "[I") (by decide +kernel)) (fun _ h9 => h9) rfl dX12_sheet_76 ?_
                                                                                                              refine lv_bipush (v := 40) hx hb dX12_sheet_79 (by decide) ?_
                                                                                                              refine lv_iload_n hx hb dX12_sheet_81 rfl (lv_at hl 2 rfl) ?_
                                                                                                              refine lv_imul hx hb dX12_sheet_82 ?_
                                                                                                              refine lz_top (y := 120) (by decide) ?_
                                                                                                              refine lv_iload hx hb dX12_sheet_83 (lv_at hl 0 rfl) ?_
                                                                                                              refine lv_iadd hx hb dX12_sheet_85 ?_
                                                                                                              refine lz_top (y := 159) (by decide) ?_
                                                                                                              refine lv_iconst (v := 0) hx hb dX12_sheet_86 (by decide) ?_
                                                                                                              refine lz_astc hx hb hK hP hD hS 3 0 rfl rfl (lz_vp (x := 159) (n := 160) (by decide) (by decide)) dX12_sheet_87 (fun H locs hP hD hS => ?_)
                                                                                                              refine lv_iinc (v := 40) (lv' := [(4, .int 40), (0, .ref h0), (1, .int 3), (2, .int x1), (3, .int x2)]) hx hb dX12_sheet_88 hl (k := 0) rfl (by decide) (by decide) rfl (fun ls hl => ?_)
                                                                                                              refine lv_goto (tgt := 68) hx hb dX12_sheet_91 (by decide) ?_
                                                                                                              refine lv_iload hx hb dX12_sheet_68 (lv_at hl 0 rfl) ?_
                                                                                                              refine lv_bipush (v := 40) hx hb dX12_sheet_70 (by decide) ?_
                                                                                                              refine lv_icmp_ge (tgt := 94) hx hb dX12_sheet_72 (by decide) (fun c2452 => ?_) (fun c2452 => ?_)
                                                                                                              · refine lv_iconst (v := 1) hx hb dX12_sheet_94 (by decide) ?_
                                                                                                                have hP9 := hP.sub (ws' := []) [] rfl
                                                                                                                have hD9 := hD.sub (ws' := []) [] (by decide) rfl
                                                                                                                subst hAe
                                                                                                                exact W.iret (v := 1) hx hb hr (fun t ht hW => ⟨⟨_, (), rfl, by rw [if_neg k2095, if_neg k2097, if_neg k2101, if_neg k2103, if_neg c2106, if_pos c2279, if_pos c2281], by rw [ht]; exact hP9, hD9⟩, hS.F ht⟩) hS.2.2 dX12_sheet_95
                                                                                                              · exact absurd c2452 (by decide)
                            · exact absurd c2411 c2106
                    · refine lv_bipush (v := (-14)) hx hb dX12_sheet_39 (by decide) ?_
                      have hP9 := hP.sub (ws' := []) [] rfl
                      have hD9 := hD.sub (ws' := []) [] (by decide) rfl
                      subst hAe
                      exact W.iret (v := (-14)) hx hb hr (fun t ht hW => ⟨⟨_, (), rfl, by rw [if_neg k2095, if_neg k2097, if_neg k2101, if_neg k2103, if_neg c2106, if_pos c2279, if_neg c2281], by rw [ht]; exact hP9, hD9⟩, hS.F ht⟩) hS.2.2 dX12_sheet_41
                · refine lv_bipush (v := (-2)) hx hb dX12_sheet_27 (by decide) ?_
                  have hP9 := hP.sub (ws' := []) [] rfl
                  have hD9 := hD.sub (ws' := []) [] (by decide) rfl
                  subst hAe
                  exact W.iret (v := (-2)) hx hb hr (fun t ht hW => ⟨⟨_, (), rfl, by rw [if_neg k2095, if_neg k2097, if_neg k2101, if_neg k2103, if_neg c2106, if_neg c2279], by rw [ht]; exact hP9, hD9⟩, hS.F ht⟩) hS.2.2 dX12_sheet_29
