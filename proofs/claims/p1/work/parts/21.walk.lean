set_option maxRecDepth 20000 in
theorem ggX11_sheet_X11_isSheet : GoodIn wsX11_sheet wsX11_isSheet := goodIn_r _ [5] (by decide +kernel) (by decide +kernel)
set_option maxRecDepth 20000 in
theorem gX11_sheet_X11_isSheet : GoodIn wsX11_sheet (va_wsS RX11 248 yX11_isSheet wsX11_isSheet) := goodIn_app (goodIn_of _ (by decide +kernel)) ggX11_sheet_X11_isSheet
set_option maxRecDepth 20000 in
theorem ggX11_sheet_X11_isSort : GoodIn wsX11_sheet wsX11_isSort := goodIn_r _ [23] (by decide +kernel) (by decide +kernel)
set_option maxRecDepth 20000 in
theorem gX11_sheet_X11_isSort : GoodIn wsX11_sheet (va_wsS RX11 259 yX11_isSort wsX11_isSort) := goodIn_app (goodIn_of _ (by decide +kernel)) ggX11_sheet_X11_isSort
set_option maxRecDepth 20000 in
theorem ggX11_sheet_X6_become : GoodIn wsX11_sheet wsX6_become := goodIn_r _ [10, 11, 12, 13, 14, 15, 16, 17, 18, 19, 20, 40, 41, 42] (by decide +kernel) (by decide +kernel)
set_option maxRecDepth 20000 in
theorem gX11_sheet_X6_become : GoodIn wsX11_sheet (wsV RX11 331 RX6 yX6_become wsX6_become) := goodIn_app (goodIn_of _ (by decide +kernel)) ggX11_sheet_X6_become
theorem dX11_sheet_0 : decode cX11_sheet 0 = .ok (.iload_n 1, 1) := by decide +kernel
theorem dX11_sheet_1 : decode cX11_sheet 1 = .ok (.invokestatic 248, 3) := by decide +kernel
theorem dX11_sheet_10 : decode cX11_sheet 10 = .ok (.iload_n 2, 1) := by decide +kernel
theorem dX11_sheet_11 : decode cX11_sheet 11 = .ok (.iconst (-1), 1) := by decide +kernel
theorem dX11_sheet_12 : decode cX11_sheet 12 = .ok (.if_icmp .ne 16, 3) := by decide +kernel
theorem dX11_sheet_15 : decode cX11_sheet 15 = .ok (.aload_n 0, 1) := by decide +kernel
theorem dX11_sheet_16 : decode cX11_sheet 16 = .ok (.getfield 75, 3) := by decide +kernel
theorem dX11_sheet_19 : decode cX11_sheet 19 = .ok (.iload_n 1, 1) := by decide +kernel
theorem dX11_sheet_20 : decode cX11_sheet 20 = .ok (.aaload, 1) := by decide +kernel
theorem dX11_sheet_21 : decode cX11_sheet 21 = .ok (.iconst (-1), 1) := by decide +kernel
theorem dX11_sheet_22 : decode cX11_sheet 22 = .ok (.iconst 0, 1) := by decide +kernel
theorem dX11_sheet_23 : decode cX11_sheet 23 = .ok (.invokevirtual 331, 3) := by decide +kernel
theorem dX11_sheet_26 : decode cX11_sheet 26 = .ok (.iconst 1, 1) := by decide +kernel
theorem dX11_sheet_27 : decode cX11_sheet 27 = .ok (.ireturn, 1) := by decide +kernel
theorem dX11_sheet_28 : decode cX11_sheet 28 = .ok (.iload_n 2, 1) := by decide +kernel
theorem dX11_sheet_29 : decode cX11_sheet 29 = .ok (.invokestatic 259, 3) := by decide +kernel
theorem dX11_sheet_32 : decode cX11_sheet 32 = .ok (.ifCond .eq 9, 3) := by decide +kernel
theorem dX11_sheet_35 : decode cX11_sheet 35 = .ok (.iload_n 3, 1) := by decide +kernel
theorem dX11_sheet_36 : decode cX11_sheet 36 = .ok (.bipush 40, 2) := by decide +kernel
theorem dX11_sheet_38 : decode cX11_sheet 38 = .ok (.if_icmp .le 6, 3) := by decide +kernel
theorem dX11_sheet_4 : decode cX11_sheet 4 = .ok (.ifCond .ne 6, 3) := by decide +kernel
theorem dX11_sheet_41 : decode cX11_sheet 41 = .ok (.bipush (-2), 2) := by decide +kernel
theorem dX11_sheet_43 : decode cX11_sheet 43 = .ok (.ireturn, 1) := by decide +kernel
theorem dX11_sheet_44 : decode cX11_sheet 44 = .ok (.iload_n 3, 1) := by decide +kernel
theorem dX11_sheet_45 : decode cX11_sheet 45 = .ok (.ifCond .ge 6, 3) := by decide +kernel
theorem dX11_sheet_48 : decode cX11_sheet 48 = .ok (.bipush (-14), 2) := by decide +kernel
theorem dX11_sheet_50 : decode cX11_sheet 50 = .ok (.ireturn, 1) := by decide +kernel
theorem dX11_sheet_51 : decode cX11_sheet 51 = .ok (.aload_n 0, 1) := by decide +kernel
theorem dX11_sheet_52 : decode cX11_sheet 52 = .ok (.getfield 75, 3) := by decide +kernel
theorem dX11_sheet_55 : decode cX11_sheet 55 = .ok (.iload_n 1, 1) := by decide +kernel
theorem dX11_sheet_56 : decode cX11_sheet 56 = .ok (.aaload, 1) := by decide +kernel
theorem dX11_sheet_57 : decode cX11_sheet 57 = .ok (.iload_n 2, 1) := by decide +kernel
theorem dX11_sheet_58 : decode cX11_sheet 58 = .ok (.iload_n 3, 1) := by decide +kernel
theorem dX11_sheet_59 : decode cX11_sheet 59 = .ok (.invokevirtual 331, 3) := by decide +kernel
theorem dX11_sheet_62 : decode cX11_sheet 62 = .ok (.iconst 1, 1) := by decide +kernel
theorem dX11_sheet_63 : decode cX11_sheet 63 = .ok (.ireturn, 1) := by decide +kernel
theorem dX11_sheet_7 : decode cX11_sheet 7 = .ok (.bipush (-2), 2) := by decide +kernel
theorem dX11_sheet_9 : decode cX11_sheet 9 = .ok (.ireturn, 1) := by decide +kernel
set_option maxHeartbeats 4000000 in
set_option maxRecDepth 100000 in
theorem c_X6_become_2 (l : Launch) (D : va_G) (cI cS : ClassId) (sz : Nat) (h0 h1 : Nat) (x0 : Int32) : Met l yX6_become wsX6_become ({ frames := 1, cells := 0, slots := 0, locals := 40 }) (PQ D cI cS [(h0, .inr (6, [.ref h1, .int (-1), .int 0])), (h1, .inl (cI, 40, .inl (fun _ => 0)))] sz [.ref h0, .int 0, .int x0]) (QV D [(h0, .inr (6, [.ref h1, .int (-1), .int 0])), (h1, .inl (cI, 40, .inl (fun _ => 0)))] [(h0, .inr (6, [.ref h1, .int 0, .int (if (0 : Int32) < (if (40 : Int32) < x0 then (40 : Int32) else x0) then (if (40 : Int32) < x0 then (40 : Int32) else x0) else (0 : Int32))])), (h1, .inl (cI, 40, .inl (fun _ => 0)))] sz) 0 0 (va_A [(h0, .inr (6, [.ref h1, .int (-1), .int 0])), (h1, .inl (cI, 40, .inl (fun _ => 0)))] sz) := by
  refine Met.ofW (cc := cX6_become) (maxL := 4) (ret := none) (by decide) rfl ?_
  intro p e s m args below meth c s₁ B hml hv
  obtain ⟨rfl, hsz, hP, hKK, hD0⟩ := hv
  have hx := B.exec
  have hb := B.bytes
  have hr := B.returns
  have hts := atoms_spec (ws := wsX6_become) B.pre
  have hown : s.vm.findClass RX6 = some m.cls := findClass_of_methodNamed B.named
  have hlocks := B.notSynchronized
  have hK := hKK.1
  have hN := hKK.2
  have hin6 : ∀ w ∈ wsX60, w ∈ wsX6_become := by decide +kernel
  subst hsz
  have hD := hD0.self (sz := s.heap.size)
  obtain ⟨A, hAe⟩ : ∃ A, A = va_A [(h0, .inr (6, [.ref h1, .int (-1), .int 0])), (h1, .inl (cI, 40, .inl (fun _ => 0)))] s.heap.size := ⟨_, rfl⟩
  rw [← hAe] at hD
  have hA : ∀ q : Nat, s.heap.size ≤ q → A q := fun q h => by rw [hAe]; exact Or.inr h
  have hS : va_S A s.heap s.heap [] := va_S.rf
  have hl := lv_entry ([.ref h0, .int 0, .int x0]) (n := 4) (Nat.le_of_ble_eq_true rfl)
  rw [lg_entry_eq]
  generalize (lg_sl ([.ref h0, .int 0, .int x0]) ++ List.replicate (4 - (lg_sl ([.ref h0, .int 0, .int x0])).length) Slot.unset).toArray = ls at hl ⊢
  have hl : lv_has ls 4 [(0, .ref h0), (1, .int 0), (2, .int x0)] := hl
  refine lv_aload_n hx hb dX6_become_0 rfl (lv_at hl 0 rfl) ?_
  refine lv_iload_n hx hb dX6_become_1 rfl (lv_at hl 1 rfl) ?_
  refine va_put (D := D) (ci := 6) (v := .int 0) (ty := .int) (C := RX6) (T := TX6) (N := 3) hx hb hts hin6 tyX6 tyX6_ok nmX6 hown hK hP hD hS 0 rfl rfl 1 (by decide) (hts (.fieldLink RX6 15 "MissedPoints$Sheet" "sort" "I") (by decide +kernel)) (fun _ h9 => h9) rfl (by decide +kernel) rfl rfl (Nat.le_of_ble_eq_true rfl) dX6_become_2 (fun H locs hP hD hS => ?_)
  have hP : va_P D cls [(h0, .inr (6, [.ref h1, .int 0, .int 0])), (h1, .inl (cI, 40, .inl (fun _ => 0)))] H := hP
  have hD : va_D A [(h0, .inr (6, [.ref h1, .int 0, .int 0])), (h1, .inl (cI, 40, .inl (fun _ => 0)))] := hD
  refine lv_aload_n hx hb dX6_become_5 rfl (lv_at hl 0 rfl) ?_
  refine lv_iconst (v := 0) hx hb dX6_become_6 (by decide) ?_
  refine lv_iload_n hx hb dX6_become_7 rfl (lv_at hl 2 rfl) ?_
  refine lv_bipush (v := 40) hx hb dX6_become_8 (by decide) ?_
  refine va_mmin hx hb (by rw [hml]; exact hl.1.symm) hown (hts (.methodLink RX6 19 Lib.Math.min.name) (by decide +kernel)) (hts (.static Lib.Math.min.name) (by decide +kernel)) (hts (.initialized "java/lang/Math") (by decide +kernel)) (hts (.code Lib.Math.min.name Lib.Math.min.code 2 (some .int)) (by decide +kernel)) (Nat.le_of_ble_eq_true rfl) (Nat.le_of_ble_eq_true rfl) (Nat.le_of_ble_eq_true rfl) (Nat.le_of_ble_eq_true rfl) dX6_become_10 ?_
  refine va_mmax hx hb (by rw [hml]; exact hl.1.symm) hown (hts (.methodLink RX6 25 Lib.Math.max.name) (by decide +kernel)) (hts (.static Lib.Math.max.name) (by decide +kernel)) (hts (.initialized "java/lang/Math") (by decide +kernel)) (hts (.code Lib.Math.max.name Lib.Math.max.code 2 (some .int)) (by decide +kernel)) (Nat.le_of_ble_eq_true rfl) (Nat.le_of_ble_eq_true rfl) (Nat.le_of_ble_eq_true rfl) (Nat.le_of_ble_eq_true rfl) dX6_become_13 ?_
  refine va_put (D := D) (ci := 6) (v := .int (if (0 : Int32) < (if (40 : Int32) < x0 then (40 : Int32) else x0) then (if (40 : Int32) < x0 then (40 : Int32) else x0) else (0 : Int32))) (ty := .int) (C := RX6) (T := TX6) (N := 3) hx hb hts hin6 tyX6 tyX6_ok nmX6 hown hK hP hD hS 0 rfl rfl 2 (by decide) (hts (.fieldLink RX6 28 "MissedPoints$Sheet" "size" "I") (by decide +kernel)) (fun _ h9 => h9) rfl (by decide +kernel) rfl rfl (Nat.le_of_ble_eq_true rfl) dX6_become_16 (fun H locs hP hD hS => ?_)
  have hP : va_P D cls [(h0, .inr (6, [.ref h1, .int 0, .int (if (0 : Int32) < (if (40 : Int32) < x0 then (40 : Int32) else x0) then (if (40 : Int32) < x0 then (40 : Int32) else x0) else (0 : Int32))])), (h1, .inl (cI, 40, .inl (fun _ => 0)))] H := hP
  have hD : va_D A [(h0, .inr (6, [.ref h1, .int 0, .int (if (0 : Int32) < (if (40 : Int32) < x0 then (40 : Int32) else x0) then (if (40 : Int32) < x0 then (40 : Int32) else x0) else (0 : Int32))])), (h1, .inl (cI, 40, .inl (fun _ => 0)))] := hD
  refine lv_iconst (v := 0) hx hb dX6_become_19 (by decide) ?_
  refine lv_istore_n (lv' := [(3, .int 0), (0, .ref h0), (1, .int 0), (2, .int x0)]) hx hb dX6_become_20 rfl hl (by decide) rfl (fun ls hl => ?_)
  refine lv_iload_n hx hb dX6_become_21 rfl (lv_at hl 0 rfl) ?_
  refine lv_bipush (v := 40) hx hb dX6_become_22 (by decide) ?_
  refine lv_icmp_ge (tgt := 40) hx hb dX6_become_24 (by decide) (fun c4147 => ?_) (fun c4147 => ?_)
  · exact absurd c4147 (by decide)
  · refine lv_aload_n hx hb dX6_become_27 rfl (lv_at hl 1 rfl) ?_
    refine va_get (D := D) (ci := 6) (v := .ref h1) (C := RX6) (T := TX6) (N := 3) hx hb hts hin6 hown hK hP 0 rfl rfl 0 (by decide) (hts (.fieldLink RX6 9 "MissedPoints$Sheet" "numbers" "[I") (by decide +kernel)) (fun _ h9 => h9) rfl dX6_become_28 ?_
    refine lv_iload_n hx hb dX6_become_31 rfl (lv_at hl 0 rfl) ?_
    refine lv_iconst (v := 0) hx hb dX6_become_32 (by decide) ?_
    refine lz_astc hx hb hK hP hD hS 1 0 rfl rfl (lz_vp (x := 0) (n := 40) (by decide) (by decide)) dX6_become_33 (fun H locs hP hD hS => ?_)
    refine lv_iinc (v := 1) (lv' := [(3, .int 1), (0, .ref h0), (1, .int 0), (2, .int x0)]) hx hb dX6_become_34 hl (k := 0) rfl (by decide) (by decide) rfl (fun ls hl => ?_)
    refine lv_goto (tgt := 21) hx hb dX6_become_37 (by decide) ?_
    refine lv_iload_n hx hb dX6_become_21 rfl (lv_at hl 0 rfl) ?_
    refine lv_bipush (v := 40) hx hb dX6_become_22 (by decide) ?_
    refine lv_icmp_ge (tgt := 40) hx hb dX6_become_24 (by decide) (fun c4148 => ?_) (fun c4148 => ?_)
    · exact absurd c4148 (by decide)
    · refine lv_aload_n hx hb dX6_become_27 rfl (lv_at hl 1 rfl) ?_
      refine va_get (D := D) (ci := 6) (v := .ref h1) (C := RX6) (T := TX6) (N := 3) hx hb hts hin6 hown hK hP 0 rfl rfl 0 (by decide) (hts (.fieldLink RX6 9 "MissedPoints$Sheet" "numbers" "[I") (by decide +kernel)) (fun _ h9 => h9) rfl dX6_become_28 ?_
      refine lv_iload_n hx hb dX6_become_31 rfl (lv_at hl 0 rfl) ?_
      refine lv_iconst (v := 0) hx hb dX6_become_32 (by decide) ?_
      refine lz_astc hx hb hK hP hD hS 1 0 rfl rfl (lz_vp (x := 1) (n := 40) (by decide) (by decide)) dX6_become_33 (fun H locs hP hD hS => ?_)
      refine lv_iinc (v := 2) (lv' := [(3, .int 2), (0, .ref h0), (1, .int 0), (2, .int x0)]) hx hb dX6_become_34 hl (k := 0) rfl (by decide) (by decide) rfl (fun ls hl => ?_)
      refine lv_goto (tgt := 21) hx hb dX6_become_37 (by decide) ?_
      refine lv_iload_n hx hb dX6_become_21 rfl (lv_at hl 0 rfl) ?_
      refine lv_bipush (v := 40) hx hb dX6_become_22 (by decide) ?_
      refine lv_icmp_ge (tgt := 40) hx hb dX6_become_24 (by decide) (fun c4149 => ?_) (fun c4149 => ?_)
      · exact absurd c4149 (by decide)
      · refine lv_aload_n hx hb dX6_become_27 rfl (lv_at hl 1 rfl) ?_
        refine va_get (D := D) (ci := 6) (v := .ref h1) (C := RX6) (T := TX6) (N := 3) hx hb hts hin6 hown hK hP 0 rfl rfl 0 (by decide) (hts (.fieldLink RX6 9 "MissedPoints$Sheet" "numbers" "[I") (by decide +kernel)) (fun _ h9 => h9) rfl dX6_become_28 ?_
        refine lv_iload_n hx hb dX6_become_31 rfl (lv_at hl 0 rfl) ?_
        refine lv_iconst (v := 0) hx hb dX6_become_32 (by decide) ?_
        refine lz_astc hx hb hK hP hD hS 1 0 rfl rfl (lz_vp (x := 2) (n := 40) (by decide) (by decide)) dX6_become_33 (fun H locs hP hD hS => ?_)
        refine lv_iinc (v := 3) (lv' := [(3, .int 3), (0, .ref h0), (1, .int 0), (2, .int x0)]) hx hb dX6_become_34 hl (k := 0) rfl (by decide) (by decide) rfl (fun ls hl => ?_)
        refine lv_goto (tgt := 21) hx hb dX6_become_37 (by decide) ?_
        refine lv_iload_n hx hb dX6_become_21 rfl (lv_at hl 0 rfl) ?_
        refine lv_bipush (v := 40) hx hb dX6_become_22 (by decide) ?_
        refine lv_icmp_ge (tgt := 40) hx hb dX6_become_24 (by decide) (fun c4150 => ?_) (fun c4150 => ?_)
        · exact absurd c4150 (by decide)
        · refine lv_aload_n hx hb dX6_become_27 rfl (lv_at hl 1 rfl) ?_
          refine va_get (D := D) (ci := 6) (v := .ref h1) (C := RX6) (T := TX6) (N := 3) hx hb hts hin6 hown hK hP 0 rfl rfl 0 (by decide) (hts (.fieldLink RX6 9 "MissedPoints$Sheet" "numbers" "[I") (by decide +kernel)) (fun _ h9 => h9) rfl dX6_become_28 ?_
          refine lv_iload_n hx hb dX6_become_31 rfl (lv_at hl 0 rfl) ?_
          refine lv_iconst (v := 0) hx hb dX6_become_32 (by decide) ?_
          refine lz_astc hx hb hK hP hD hS 1 0 rfl rfl (lz_vp (x := 3) (n := 40) (by decide) (by decide)) dX6_become_33 (fun H locs hP hD hS => ?_)
          refine lv_iinc (v := 4) (lv' := [(3, .int 4), (0, .ref h0), (1, .int 0), (2, .int x0)]) hx hb dX6_become_34 hl (k := 0) rfl (by decide) (by decide) rfl (fun ls hl => ?_)
          refine lv_goto (tgt := 21) hx hb dX6_become_37 (by decide) ?_
          refine lv_iload_n hx hb dX6_become_21 rfl (lv_at hl 0 rfl) ?_
          refine lv_bipush (v := 40) hx hb dX6_become_22 (by decide) ?_
          refine lv_icmp_ge (tgt := 40) hx hb dX6_become_24 (by decide) (fun c4151 => ?_) (fun c4151 => ?_)
          · exact absurd c4151 (by decide)
          · refine lv_aload_n hx hb dX6_become_27 rfl (lv_at hl 1 rfl) ?_
            refine va_get (D := D) (ci := 6) (v := .ref h1) (C := RX6) (T := TX6) (N := 3) hx hb hts hin6 hown hK hP 0 rfl rfl 0 (by decide) (hts (.fieldLink RX6 9 "MissedPoints$Sheet" "numbers" "[I") (by decide +kernel)) (fun _ h9 => h9) rfl dX6_become_28 ?_
            refine lv_iload_n hx hb dX6_become_31 rfl (lv_at hl 0 rfl) ?_
            refine lv_iconst (v := 0) hx hb dX6_become_32 (by decide) ?_
            refine lz_astc hx hb hK hP hD hS 1 0 rfl rfl (lz_vp (x := 4) (n := 40) (by decide) (by decide)) dX6_become_33 (fun H locs hP hD hS => ?_)
            refine lv_iinc (v := 5) (lv' := [(3, .int 5), (0, .ref h0), (1, .int 0), (2, .int x0)]) hx hb dX6_become_34 hl (k := 0) rfl (by decide) (by decide) rfl (fun ls hl => ?_)
            refine lv_goto (tgt := 21) hx hb dX6_become_37 (by decide) ?_
            refine lv_iload_n hx hb dX6_become_21 rfl (lv_at hl 0 rfl) ?_
            refine lv_bipush (v := 40) hx hb dX6_become_22 (by decide) ?_
            refine lv_icmp_ge (tgt := 40) hx hb dX6_become_24 (by decide) (fun c4152 => ?_) (fun c4152 => ?_)
            · exact absurd c4152 (by decide)
            · refine lv_aload_n hx hb dX6_become_27 rfl (lv_at hl 1 rfl) ?_
              refine va_get (D := D) (ci := 6) (v := .ref h1) (C := RX6) (T := TX6) (N := 3) hx hb hts hin6 hown hK hP 0 rfl rfl 0 (by decide) (hts (.fieldLink RX6 9 "MissedPoints$Sheet" "numbers" "[I") (by decide +kernel)) (fun _ h9 => h9) rfl dX6_become_28 ?_
              refine lv_iload_n hx hb dX6_become_31 rfl (lv_at hl 0 rfl) ?_
              refine lv_iconst (v := 0) hx hb dX6_become_32 (by decide) ?_
              refine lz_astc hx hb hK hP hD hS 1 0 rfl rfl (lz_vp (x := 5) (n := 40) (by decide) (by decide)) dX6_become_33 (fun H locs hP hD hS => ?_)
              refine lv_iinc (v := 6) (lv' := [(3, .int 6), (0, .ref h0), (1, .int 0), (2, .int x0)]) hx hb dX6_become_34 hl (k := 0) rfl (by decide) (by decide) rfl (fun ls hl => ?_)
              refine lv_goto (tgt := 21) hx hb dX6_become_37 (by decide) ?_
              refine lv_iload_n hx hb dX6_become_21 rfl (lv_at hl 0 rfl) ?_
              refine lv_bipush (v := 40) hx hb dX6_become_22 (by decide) ?_
              refine lv_icmp_ge (tgt := 40) hx hb dX6_become_24 (by decide) (fun c4153 => ?_) (fun c4153 => ?_)
              · exact absurd c4153 (by decide)
              · refine lv_aload_n hx hb dX6_become_27 rfl (lv_at hl 1 rfl) ?_
                refine va_get (D := D) (ci := 6) (v := .ref h1) (C := RX6) (T := TX6) (N := 3) hx hb hts hin6 hown hK hP 0 rfl rfl 0 (by decide) (hts (.fieldLink RX6 9 "MissedPoints$Sheet" "numbers" "[I") (by decide +kernel)) (fun _ h9 => h9) rfl dX6_become_28 ?_
                refine lv_iload_n hx hb dX6_become_31 rfl (lv_at hl 0 rfl) ?_
                refine lv_iconst (v := 0) hx hb dX6_become_32 (by decide) ?_
                refine lz_astc hx hb hK hP hD hS 1 0 rfl rfl (lz_vp (x := 6) (n := 40) (by decide) (by decide)) dX6_become_33 (fun H locs hP hD hS => ?_)
                refine lv_iinc (v := 7) (lv' := [(3, .int 7), (0, .ref h0), (1, .int 0), (2, .int x0)]) hx hb dX6_become_34 hl (k := 0) rfl (by decide) (by decide) rfl (fun ls hl => ?_)
                refine lv_goto (tgt := 21) hx hb dX6_become_37 (by decide) ?_
                refine lv_iload_n hx hb dX6_become_21 rfl (lv_at hl 0 rfl) ?_
                refine lv_bipush (v := 40) hx hb dX6_become_22 (by decide) ?_
                refine lv_icmp_ge (tgt := 40) hx hb dX6_become_24 (by decide) (fun c4154 => ?_) (fun c4154 => ?_)
                · exact absurd c4154 (by decide)
                · refine lv_aload_n hx hb dX6_become_27 rfl (lv_at hl 1 rfl) ?_
                  refine va_get (D := D) (ci := 6) (v := .ref h1) (C := RX6) (T := TX6) (N := 3) hx hb hts hin6 hown hK hP 0 rfl rfl 0 (by decide) (hts (.fieldLink RX6 9 "MissedPoints$Sheet" "numbers" "[I") (by decide +kernel)) (fun _ h9 => h9) rfl dX6_become_28 ?_
                  refine lv_iload_n hx hb dX6_become_31 rfl (lv_at hl 0 rfl) ?_
                  refine lv_iconst (v := 0) hx hb dX6_become_32 (by decide) ?_
                  refine lz_astc hx hb hK hP hD hS 1 0 rfl rfl (lz_vp (x := 7) (n := 40) (by decide) (by decide)) dX6_become_33 (fun H locs hP hD hS => ?_)
                  refine lv_iinc (v := 8) (lv' := [(3, .int 8), (0, .ref h0), (1, .int 0), (2, .int x0)]) hx hb dX6_become_34 hl (k := 0) rfl (by decide) (by decide) rfl (fun ls hl => ?_)
                  refine lv_goto (tgt := 21) hx hb dX6_become_37 (by decide) ?_
                  refine lv_iload_n hx hb dX6_become_21 rfl (lv_at hl 0 rfl) ?_
                  refine lv_bipush (v := 40) hx hb dX6_become_22 (by decide) ?_
                  refine lv_icmp_ge (tgt := 40) hx hb dX6_become_24 (by decide) (fun c4155 => ?_) (fun c4155 => ?_)
                  · exact absurd c4155 (by decide)
                  · refine lv_aload_n hx hb dX6_become_27 rfl (lv_at hl 1 rfl) ?_
                    refine va_get (D := D) (ci := 6) (v := .ref h1) (C := RX6) (T := TX6) (N := 3) hx hb hts hin6 hown hK hP 0 rfl rfl 0 (by decide) (hts (.fieldLink RX6 9 "MissedPoints$Sheet" "numbers" "[I") (by decide +kernel)) (fun _ h9 => h9) rfl dX6_become_28 ?_
                    refine lv_iload_n hx hb dX6_become_31 rfl (lv_at hl 0 rfl) ?_
                    refine lv_iconst (v := 0) hx hb dX6_become_32 (by decide) ?_
                    refine lz_astc hx hb hK hP hD hS 1 0 rfl rfl (lz_vp (x := 8) (n := 40) (by decide) (by decide)) dX6_become_33 (fun H locs hP hD hS => ?_)
                    refine lv_iinc (v := 9) (lv' := [(3, .int 9), (0, .ref h0), (1, .int 0), (2, .int x0)]) hx hb dX6_become_34 hl (k := 0) rfl (by decide) (by decide) rfl (fun ls hl => ?_)
                    refine lv_goto (tgt := 21) hx hb dX6_become_37 (by decide) ?_
                    refine lv_iload_n hx hb dX6_become_21 rfl (lv_at hl 0 rfl) ?_
                    refine lv_bipush (v := 40) hx hb dX6_become_22 (by decide) ?_
                    refine lv_icmp_ge (tgt := 40) hx hb dX6_become_24 (by decide) (fun c4156 => ?_) (fun c4156 => ?_)
                    · exact absurd c4156 (by decide)
                    · refine lv_aload_n hx hb dX6_become_27 rfl (lv_at hl 1 rfl) ?_
                      refine va_get (D := D) (ci := 6) (v := .ref h1) (C := RX6) (T := TX6) (N := 3) hx hb hts hin6 hown hK hP 0 rfl rfl 0 (by decide) (hts (.fieldLink RX6 9 "MissedPoints$Sheet" "numbers" "[I") (by decide +kernel)) (fun _ h9 => h9) rfl dX6_become_28 ?_
                      refine lv_iload_n hx hb dX6_become_31 rfl (lv_at hl 0 rfl) ?_
                      refine lv_iconst (v := 0) hx hb dX6_become_32 (by decide) ?_
                      refine lz_astc hx hb hK hP hD hS 1 0 rfl rfl (lz_vp (x := 9) (n := 40) (by decide) (by decide)) dX6_become_33 (fun H locs hP hD hS => ?_)
                      refine lv_iinc (v := 10) (lv' := [(3, .int 10), (0, .ref h0), (1, .int 0), (2, .int x0)]) hx hb dX6_become_34 hl (k := 0) rfl (by decide) (by decide) rfl (fun ls hl => ?_)
                      refine lv_goto (tgt := 21) hx hb dX6_become_37 (by decide) ?_
                      refine lv_iload_n hx hb dX6_become_21 rfl (lv_at hl 0 rfl) ?_
                      refine lv_bipush (v := 40) hx hb dX6_become_22 (by decide) ?_
                      refine lv_icmp_ge (tgt := 40) hx hb dX6_become_24 (by decide) (fun c4157 => ?_) (fun c4157 => ?_)
                      · exact absurd c4157 (by decide)
                      · refine lv_aload_n hx hb dX6_become_27 rfl (lv_at hl 1 rfl) ?_
                        refine va_get (D := D) (ci := 6) (v := .ref h1) (C := RX6) (T := TX6) (N := 3) hx hb hts hin6 hown hK hP 0 rfl rfl 0 (by decide) (hts (.fieldLink RX6 9 "MissedPoints$Sheet" "numbers" "[I") (by decide +kernel)) (fun _ h9 => h9) rfl dX6_become_28 ?_
                        refine lv_iload_n hx hb dX6_become_31 rfl (lv_at hl 0 rfl) ?_
                        refine lv_iconst (v := 0) hx hb dX6_become_32 (by decide) ?_
                        refine lz_astc hx hb hK hP hD hS 1 0 rfl rfl (lz_vp (x := 10) (n := 40) (by decide) (by decide)) dX6_become_33 (fun H locs hP hD hS => ?_)
                        refine lv_iinc (v := 11) (lv' := [(3, .int 11), (0, .ref h0), (1, .int 0), (2, .int x0)]) hx hb dX6_become_34 hl (k := 0) rfl (by decide) (by decide) rfl (fun ls hl => ?_)
                        refine lv_goto (tgt := 21) hx hb dX6_become_37 (by decide) ?_
                        refine lv_iload_n hx hb dX6_become_21 rfl (lv_at hl 0 rfl) ?_
                        refine lv_bipush (v := 40) hx hb dX6_become_22 (by decide) ?_
                        refine lv_icmp_ge (tgt := 40) hx hb dX6_become_24 (by decide) (fun c4158 => ?_) (fun c4158 => ?_)
                        · exact absurd c4158 (by decide)
                        · refine lv_aload_n hx hb dX6_become_27 rfl (lv_at hl 1 rfl) ?_
                          refine va_get (D := D) (ci := 6) (v := .ref h1) (C := RX6) (T := TX6) (N := 3) hx hb hts hin6 hown hK hP 0 rfl rfl 0 (by decide) (hts (.fieldLink RX6 9 "MissedPoints$Sheet" "numbers" "[I") (by decide +kernel)) (fun _ h9 => h9) rfl dX6_become_28 ?_
                          refine lv_iload_n hx hb dX6_become_31 rfl (lv_at hl 0 rfl) ?_
                          refine lv_iconst (v := 0) hx hb dX6_become_32 (by decide) ?_
                          refine lz_astc hx hb hK hP hD hS 1 0 rfl rfl (lz_vp (x := 11) (n := 40) (by decide) (by decide)) dX6_become_33 (fun H locs hP hD hS => ?_)
                          refine lv_iinc (v := 12) (lv' := [(3, .int 12), (0, .ref h0), (1, .int 0), (2, .int x0)]) hx hb dX6_become_34 hl (k := 0) rfl (by decide) (by decide) rfl (fun ls hl => ?_)
                          refine lv_goto (tgt := 21) hx hb dX6_become_37 (by decide) ?_
                          refine lv_iload_n hx hb dX6_become_21 rfl (lv_at hl 0 rfl) ?_
                          refine lv_bipush (v := 40) hx hb dX6_become_22 (by decide) ?_
                          refine lv_icmp_ge (tgt := 40) hx hb dX6_become_24 (by decide) (fun c4159 => ?_) (fun c4159 => ?_)
                          · exact absurd c4159 (by decide)
                          · refine lv_aload_n hx hb dX6_become_27 rfl (lv_at hl 1 rfl) ?_
                            refine va_get (D := D) (ci := 6) (v := .ref h1) (C := RX6) (T := TX6) (N := 3) hx hb hts hin6 hown hK hP 0 rfl rfl 0 (by decide) (hts (.fieldLink RX6 9 "MissedPoints$Sheet" "numbers" "[I") (by decide +kernel)) (fun _ h9 => h9) rfl dX6_become_28 ?_
                            refine lv_iload_n hx hb dX6_become_31 rfl (lv_at hl 0 rfl) ?_
                            refine lv_iconst (v := 0) hx hb dX6_become_32 (by decide) ?_
                            refine lz_astc hx hb hK hP hD hS 1 0 rfl rfl (lz_vp (x := 12) (n := 40) (by decide) (by decide)) dX6_become_33 (fun H locs hP hD hS => ?_)
                            refine lv_iinc (v := 13) (lv' := [(3, .int 13), (0, .ref h0), (1, .int 0), (2, .int x0)]) hx hb dX6_become_34 hl (k := 0) rfl (by decide) (by decide) rfl (fun ls hl => ?_)
                            refine lv_goto (tgt := 21) hx hb dX6_become_37 (by decide) ?_
                            refine lv_iload_n hx hb dX6_become_21 rfl (lv_at hl 0 rfl) ?_
                            refine lv_bipush (v := 40) hx hb dX6_become_22 (by decide) ?_
                            refine lv_icmp_ge (tgt := 40) hx hb dX6_become_24 (by decide) (fun c4160 => ?_) (fun c4160 => ?_)
                            · exact absurd c4160 (by decide)
                            · refine lv_aload_n hx hb dX6_become_27 rfl (lv_at hl 1 rfl) ?_
                              refine va_get (D := D) (ci := 6) (v := .ref h1) (C := RX6) (T := TX6) (N := 3) hx hb hts hin6 hown hK hP 0 rfl rfl 0 (by decide) (hts (.fieldLink RX6 9 "MissedPoints$Sheet" "numbers" "[I") (by decide +kernel)) (fun _ h9 => h9) rfl dX6_become_28 ?_
                              refine lv_iload_n hx hb dX6_become_31 rfl (lv_at hl 0 rfl) ?_
                              refine lv_iconst (v := 0) hx hb dX6_become_32 (by decide) ?_
                              refine lz_astc hx hb hK hP hD hS 1 0 rfl rfl (lz_vp (x := 13) (n := 40) (by decide) (by decide)) dX6_become_33 (fun H locs hP hD hS => ?_)
                              refine lv_iinc (v := 14) (lv' := [(3, .int 14), (0, .ref h0), (1, .int 0), (2, .int x0)]) hx hb dX6_become_34 hl (k := 0) rfl (by decide) (by decide) rfl (fun ls hl => ?_)
                              refine lv_goto (tgt := 21) hx hb dX6_become_37 (by decide) ?_
                              refine lv_iload_n hx hb dX6_become_21 rfl (lv_at hl 0 rfl) ?_
                              refine lv_bipush (v := 40) hx hb dX6_become_22 (by decide) ?_
                              refine lv_icmp_ge (tgt := 40) hx hb dX6_become_24 (by decide) (fun c4161 => ?_) (fun c4161 => ?_)
                              · exact absurd c4161 (by decide)
                              · refine lv_aload_n hx hb dX6_become_27 rfl (lv_at hl 1 rfl) ?_
                                refine va_get (D := D) (ci := 6) (v := .ref h1) (C := RX6) (T := TX6) (N := 3) hx hb hts hin6 hown hK hP 0 rfl rfl 0 (by decide) (hts (.fieldLink RX6 9 "MissedPoints$Sheet" "numbers" "[I") (by decide +kernel)) (fun _ h9 => h9) rfl dX6_become_28 ?_
                                refine lv_iload_n hx hb dX6_become_31 rfl (lv_at hl 0 rfl) ?_
                                refine lv_iconst (v := 0) hx hb dX6_become_32 (by decide) ?_
                                refine lz_astc hx hb hK hP hD hS 1 0 rfl rfl (lz_vp (x := 14) (n := 40) (by decide) (by decide)) dX6_become_33 (fun H locs hP hD hS => ?_)
                                refine lv_iinc (v := 15) (lv' := [(3, .int 15), (0, .ref h0), (1, .int 0), (2, .int x0)]) hx hb dX6_become_34 hl (k := 0) rfl (by decide) (by decide) rfl (fun ls hl => ?_)
                                refine lv_goto (tgt := 21) hx hb dX6_become_37 (by decide) ?_
                                refine lv_iload_n hx hb dX6_become_21 rfl (lv_at hl 0 rfl) ?_
                                refine lv_bipush (v := 40) hx hb dX6_become_22 (by decide) ?_
                                refine lv_icmp_ge (tgt := 40) hx hb dX6_become_24 (by decide) (fun c4162 => ?_) (fun c4162 => ?_)
                                · exact absurd c4162 (by decide)
                                · refine lv_aload_n hx hb dX6_become_27 rfl (lv_at hl 1 rfl) ?_
                                  refine va_get (D := D) (ci := 6) (v := .ref h1) (C := RX6) (T := TX6) (N := 3) hx hb hts hin6 hown hK hP 0 rfl rfl 0 (by decide) (hts (.fieldLink RX6 9 "MissedPoints$Sheet" "numbers" "[I") (by decide +kernel)) (fun _ h9 => h9) rfl dX6_become_28 ?_
                                  refine lv_iload_n hx hb dX6_become_31 rfl (lv_at hl 0 rfl) ?_
                                  refine lv_iconst (v := 0) hx hb dX6_become_32 (by decide) ?_
                                  refine lz_astc hx hb hK hP hD hS 1 0 rfl rfl (lz_vp (x := 15) (n := 40) (by decide) (by decide)) dX6_become_33 (fun H locs hP hD hS => ?_)
                                  refine lv_iinc (v := 16) (lv' := [(3, .int 16), (0, .ref h0), (1, .int 0), (2, .int x0)]) hx hb dX6_become_34 hl (k := 0) rfl (by decide) (by decide) rfl (fun ls hl => ?_)
                                  refine lv_goto (tgt := 21) hx hb dX6_become_37 (by decide) ?_
                                  refine lv_iload_n hx hb dX6_become_21 rfl (lv_at hl 0 rfl) ?_
                                  refine lv_bipush (v := 40) hx hb dX6_become_22 (by decide) ?_
                                  refine lv_icmp_ge (tgt := 40) hx hb dX6_become_24 (by decide) (fun c4163 => ?_) (fun c4163 => ?_)
                                  · exact absurd c4163 (by decide)
                                  · refine lv_aload_n hx hb dX6_become_27 rfl (lv_at hl 1 rfl) ?_
                                    refine va_get (D := D) (ci := 6) (v := .ref h1) (C := RX6) (T := TX6) (N := 3) hx hb hts hin6 hown hK hP 0 rfl rfl 0 (by decide) (hts (.fieldLink RX6 9 "MissedPoints$Sheet" "numbers" "[I") (by decide +kernel)) (fun _ h9 => h9) rfl dX6_become_28 ?_
                                    refine lv_iload_n hx hb dX6_become_31 rfl (lv_at hl 0 rfl) ?_
                                    refine lv_iconst (v := 0) hx hb dX6_become_32 (by decide) ?_
                                    refine lz_astc hx hb hK hP hD hS 1 0 rfl rfl (lz_vp (x := 16) (n := 40) (by decide) (by decide)) dX6_become_33 (fun H locs hP hD hS => ?_)
                                    refine lv_iinc (v := 17) (lv' := [(3, .int 17), (0, .ref h0), (1, .int 0), (2, .int x0)]) hx hb dX6_become_34 hl (k := 0) rfl (by decide) (by decide) rfl (fun ls hl => ?_)
                                    refine lv_goto (tgt := 21) hx hb dX6_become_37 (by decide) ?_
                                    refine lv_iload_n hx hb dX6_become_21 rfl (lv_at hl 0 rfl) ?_
                                    refine lv_bipush (v := 40) hx hb dX6_become_22 (by decide) ?_
                                    refine lv_icmp_ge (tgt := 40) hx hb dX6_become_24 (by decide) (fun c4164 => ?_) (fun c4164 => ?_)
                                    · exact absurd c4164 (by decide)
                                    · refine lv_aload_n hx hb dX6_become_27 rfl (lv_at hl 1 rfl) ?_
                                      refine va_get (D := D) (ci := 6) (v := .ref h1) (C := RX6) (T := TX6) (N := 3) hx hb hts hin6 hown hK hP 0 rfl rfl 0 (by decide) (hts (.fieldLink RX6 9 "MissedPoints$Sheet" "numbers" "[I") (by decide +kernel)) (fun _ h9 => h9) rfl dX6_become_28 ?_
                                      refine lv_iload_n hx hb dX6_become_31 rfl (lv_at hl 0 rfl) ?_
                                      refine lv_iconst (v := 0) hx hb dX6_become_32 (by decide) ?_
                                      refine lz_astc hx hb hK hP hD hS 1 0 rfl rfl (lz_vp (x := 17) (n := 40) (by decide) (by decide)) dX6_become_33 (fun H locs hP hD hS => ?_)
                                      refine lv_iinc (v := 18) (lv' := [(3, .int 18), (0, .ref h0), (1, .int 0), (2, .int x0)]) hx hb dX6_become_34 hl (k := 0) rfl (by decide) (by decide) rfl (fun ls hl => ?_)
                                      refine lv_goto (tgt := 21) hx hb dX6_become_37 (by decide) ?_
                                      refine lv_iload_n hx hb dX6_become_21 rfl (lv_at hl 0 rfl) ?_
                                      refine lv_bipush (v := 40) hx hb dX6_become_22 (by decide) ?_
                                      refine lv_icmp_ge (tgt := 40) hx hb dX6_become_24 (by decide) (fun c4165 => ?_) (fun c4165 => ?_)
                                      · exact absurd c4165 (by decide)
                                      · refine lv_aload_n hx hb dX6_become_27 rfl (lv_at hl 1 rfl) ?_
                                        refine va_get (D := D) (ci := 6) (v := .ref h1) (C := RX6) (T := TX6) (N := 3) hx hb hts hin6 hown hK hP 0 rfl rfl 0 (by decide) (hts (.fieldLink RX6 9 "MissedPoints$Sheet" "numbers" "[I") (by decide +kernel)) (fun _ h9 => h9) rfl dX6_become_28 ?_
                                        refine lv_iload_n hx hb dX6_become_31 rfl (lv_at hl 0 rfl) ?_
                                        refine lv_iconst (v := 0) hx hb dX6_become_32 (by decide) ?_
                                        refine lz_astc hx hb hK hP hD hS 1 0 rfl rfl (lz_vp (x := 18) (n := 40) (by decide) (by decide)) dX6_become_33 (fun H locs hP hD hS => ?_)
                                        refine lv_iinc (v := 19) (lv' := [(3, .int 19), (0, .ref h0), (1, .int 0), (2, .int x0)]) hx hb dX6_become_34 hl (k := 0) rfl (by decide) (by decide) rfl (fun ls hl => ?_)
                                        refine lv_goto (tgt := 21) hx hb dX6_become_37 (by decide) ?_
                                        refine lv_iload_n hx hb dX6_become_21 rfl (lv_at hl 0 rfl) ?_
                                        refine lv_bipush (v := 40) hx hb dX6_become_22 (by decide) ?_
                                        refine lv_icmp_ge (tgt := 40) hx hb dX6_become_24 (by decide) (fun c4166 => ?_) (fun c4166 => ?_)
                                        · exact absurd c4166 (by decide)
                                        · refine lv_aload_n hx hb dX6_become_27 rfl (lv_at hl 1 rfl) ?_
                                          refine va_get (D := D) (ci := 6) (v := .ref h1) (C := RX6) (T := TX6) (N := 3) hx hb hts hin6 hown hK hP 0 rfl rfl 0 (by decide) (hts (.fieldLink RX6 9 "MissedPoints$Sheet" "numbers" "[I") (by decide +kernel)) (fun _ h9 => h9) rfl dX6_become_28 ?_
                                          refine lv_iload_n hx hb dX6_become_31 rfl (lv_at hl 0 rfl) ?_
                                          refine lv_iconst (v := 0) hx hb dX6_become_32 (by decide) ?_
                                          refine lz_astc hx hb hK hP hD hS 1 0 rfl rfl (lz_vp (x := 19) (n := 40) (by decide) (by decide)) dX6_become_33 (fun H locs hP hD hS => ?_)
                                          refine lv_iinc (v := 20) (lv' := [(3, .int 20), (0, .ref h0), (1, .int 0), (2, .int x0)]) hx hb dX6_become_34 hl (k := 0) rfl (by decide) (by decide) rfl (fun ls hl => ?_)
                                          refine lv_goto (tgt := 21) hx hb dX6_become_37 (by decide) ?_
                                          refine lv_iload_n hx hb dX6_become_21 rfl (lv_at hl 0 rfl) ?_
                                          refine lv_bipush (v := 40) hx hb dX6_become_22 (by decide) ?_
                                          refine lv_icmp_ge (tgt := 40) hx hb dX6_become_24 (by decide) (fun c4167 => ?_) (fun c4167 => ?_)
                                          · exact absurd c4167 (by decide)
                                          · refine lv_aload_n hx hb dX6_become_27 rfl (lv_at hl 1 rfl) ?_
                                            refine va_get (D := D) (ci := 6) (v := .ref h1) (C := RX6) (T := TX6) (N := 3) hx hb hts hin6 hown hK hP 0 rfl rfl 0 (by decide) (hts (.fieldLink RX6 9 "MissedPoints$Sheet" "numbers" "[I") (by decide +kernel)) (fun _ h9 => h9) rfl dX6_become_28 ?_
                                            refine lv_iload_n hx hb dX6_become_31 rfl (lv_at hl 0 rfl) ?_
                                            refine lv_iconst (v := 0) hx hb dX6_become_32 (by decide) ?_
                                            refine lz_astc hx hb hK hP hD hS 1 0 rfl rfl (lz_vp (x := 20) (n := 40) (by decide) (by decide)) dX6_become_33 (fun H locs hP hD hS => ?_)
                                            refine lv_iinc (v := 21) (lv' := [(3, .int 21), (0, .ref h0), (1, .int 0), (2, .int x0)]) hx hb dX6_become_34 hl (k := 0) rfl (by decide) (by decide) rfl (fun ls hl => ?_)
                                            refine lv_goto (tgt := 21) hx hb dX6_become_37 (by decide) ?_
                                            refine lv_iload_n hx hb dX6_become_21 rfl (lv_at hl 0 rfl) ?_
                                            refine lv_bipush (v := 40) hx hb dX6_become_22 (by decide) ?_
                                            refine lv_icmp_ge (tgt := 40) hx hb dX6_become_24 (by decide) (fun c4168 => ?_) (fun c4168 => ?_)
                                            · exact absurd c4168 (by decide)
                                            · refine lv_aload_n hx hb dX6_become_27 rfl (lv_at hl 1 rfl) ?_
                                              refine va_get (D := D) (ci := 6) (v := .ref h1) (C := RX6) (T := TX6) (N := 3) hx hb hts hin6 hown hK hP 0 rfl rfl 0 (by decide) (hts (.fieldLink RX6 9 "MissedPoints$Sheet" "numbers" "[I") (by decide +kernel)) (fun _ h9 => h9) rfl dX6_become_28 ?_
                                              refine lv_iload_n hx hb dX6_become_31 rfl (lv_at hl 0 rfl) ?_
                                              refine lv_iconst (v := 0) hx hb dX6_become_32 (by decide) ?_
                                              refine lz_astc hx hb hK hP hD hS 1 0 rfl rfl (lz_vp (x := 21) (n := 40) (by decide) (by decide)) dX6_become_33 (fun H locs hP hD hS => ?_)
                                              refine lv_iinc (v := 22) (lv' := [(3, .int 22), (0, .ref h0), (1, .int 0), (2, .int x0)]) hx hb dX6_become_34 hl (k := 0) rfl (by decide) (by decide) rfl (fun ls hl => ?_)
                                              refine lv_goto (tgt := 21) hx hb dX6_become_37 (by decide) ?_
                                              refine lv_iload_n hx hb dX6_become_21 rfl (lv_at hl 0 rfl) ?_
                                              refine lv_bipush (v := 40) hx hb dX6_become_22 (by decide) ?_
                                              refine lv_icmp_ge (tgt := 40) hx hb dX6_become_24 (by decide) (fun c4169 => ?_) (fun c4169 => ?_)
                                              · exact absurd c4169 (by decide)
                                              · refine lv_aload_n hx hb dX6_become_27 rfl (lv_at hl 1 rfl) ?_
                                                refine va_get (D := D) (ci := 6) (v := .ref h1) (C := RX6) (T := TX6) (N := 3) hx hb hts hin6 hown hK hP 0 rfl rfl 0 (by decide) (hts (.fieldLink RX6 9 "MissedPoints$Sheet" "numbers" "[I") (by decide +kernel)) (fun _ h9 => h9) rfl dX6_become_28 ?_
                                                refine lv_iload_n hx hb dX6_become_31 rfl (lv_at hl 0 rfl) ?_
                                                refine lv_iconst (v := 0) hx hb dX6_become_32 (by decide) ?_
                                                refine lz_astc hx hb hK hP hD hS 1 0 rfl rfl (lz_vp (x := 22) (n := 40) (by decide) (by decide)) dX6_become_33 (fun H locs hP hD hS => ?_)
                                                refine lv_iinc (v := 23) (lv' := [(3, .int 23), (0, .ref h0), (1, .int 0), (2, .int x0)]) hx hb dX6_become_34 hl (k := 0) rfl (by decide) (by decide) rfl (fun ls hl => ?_)
                                                refine lv_goto (tgt := 21) hx hb dX6_become_37 (by decide) ?_
                                                refine lv_iload_n hx hb dX6_become_21 rfl (lv_at hl 0 rfl) ?_
                                                refine lv_bipush (v := 40) hx hb dX6_become_22 (by decide) ?_
                                                refine lv_icmp_ge (tgt := 40) hx hb dX6_become_24 (by decide) (fun c4170 => ?_) (fun c4170 => ?_)
                                                · exact absurd c4170 (by decide)
                                                · refine lv_aload_n hx hb dX6_become_27 rfl (lv_at hl 1 rfl) ?_
                                                  refine va_get (D := D) (ci := 6) (v := .ref h1) (C := RX6) (T := TX6) (N := 3) hx hb hts hin6 hown hK hP 0 rfl rfl 0 (by decide) (hts (.fieldLink RX6 9 "MissedPoints$Sheet" "numbers" "[I") (by decide +kernel)) (fun _ h9 => h9) rfl dX6_become_28 ?_
                                                  refine lv_iload_n hx hb dX6_become_31 rfl (lv_at hl 0 rfl) ?_
                                                  refine lv_iconst (v := 0) hx hb dX6_become_32 (by decide) ?_
                                                  refine lz_astc hx hb hK hP hD hS 1 0 rfl rfl (lz_vp (x := 23) (n := 40) (by decide) (by decide)) dX6_become_33 (fun H locs hP hD hS => ?_)
                                                  refine lv_iinc (v := 24) (lv' := [(3, .int 24), (0, .ref h0), (1, .int 0), (2, .int x0)]) hx hb dX6_become_34 hl (k := 0) rfl (by decide) (by decide) rfl (fun ls hl => ?_)
                                                  refine lv_goto (tgt := 21) hx hb dX6_become_37 (by decide) ?_
                                                  refine lv_iload_n hx hb dX6_become_21 rfl (lv_at hl 0 rfl) ?_
                                                  refine lv_bipush (v := 40) hx hb dX6_become_22 (by decide) ?_
                                                  refine lv_icmp_ge (tgt := 40) hx hb dX6_become_24 (by decide) (fun c4171 => ?_) (fun c4171 => ?_)
                                                  · exact absurd c4171 (by decide)
                                                  · refine lv_aload_n hx hb dX6_become_27 rfl (lv_at hl 1 rfl) ?_
                                                    refine va_get (D := D) (ci := 6) (v := .ref h1) (C := RX6) (T := TX6) (N := 3) hx hb hts hin6 hown hK hP 0 rfl rfl 0 (by decide) (hts (.fieldLink RX6 9 "MissedPoints$Sheet" "numbers" "[I") (by decide +kernel)) (fun _ h9 => h9) rfl dX6_become_28 ?_
                                                    refine lv_iload_n hx hb dX6_become_31 rfl (lv_at hl 0 rfl) ?_
                                                    refine lv_iconst (v := 0) hx hb dX6_become_32 (by decide) ?_
                                                    refine lz_astc hx hb hK hP hD hS 1 0 rfl rfl (lz_vp (x := 24) (n := 40) (by decide) (by decide)) dX6_become_33 (fun H locs hP hD hS => ?_)
                                                    refine lv_iinc (v := 25) (lv' := [(3, .int 25), (0, .ref h0), (1, .int 0), (2, .int x0)]) hx hb dX6_become_34 hl (k := 0) rfl (by decide) (by decide) rfl (fun ls hl => ?_)
                                                    refine lv_goto (tgt := 21) hx hb dX6_become_37 (by decide) ?_
                                                    refine lv_iload_n hx hb dX6_become_21 rfl (lv_at hl 0 rfl) ?_
                                                    refine lv_bipush (v := 40) hx hb dX6_become_22 (by decide) ?_
                                                    refine lv_icmp_ge (tgt := 40) hx hb dX6_become_24 (by decide) (fun c4172 => ?_) (fun c4172 => ?_)
                                                    · exact absurd c4172 (by decide)
                                                    · refine lv_aload_n hx hb dX6_become_27 rfl (lv_at hl 1 rfl) ?_
                                                      refine va_get (D := D) (ci := 6) (v := .ref h1) (C := RX6) (T := TX6) (N := 3) hx hb hts hin6 hown hK hP 0 rfl rfl 0 (by decide) (hts (.fieldLink RX6 9 "MissedPoints$Sheet" "numbers" "[I") (by decide +kernel)) (fun _ h9 => h9) rfl dX6_become_28 ?_
                                                      refine lv_iload_n hx hb dX6_become_31 rfl (lv_at hl 0 rfl) ?_
                                                      refine lv_iconst (v := 0) hx hb dX6_become_32 (by decide) ?_
                                                      refine lz_astc hx hb hK hP hD hS 1 0 rfl rfl (lz_vp (x := 25) (n := 40) (by decide) (by decide)) dX6_become_33 (fun H locs hP hD hS => ?_)
                                                      refine lv_iinc (v := 26) (lv' := [(3, .int 26), (0, .ref h0), (1, .int 0), (2, .int x0)]) hx hb dX6_become_34 hl (k := 0) rfl (by decide) (by decide) rfl (fun ls hl => ?_)
                                                      refine lv_goto (tgt := 21) hx hb dX6_become_37 (by decide) ?_
                                                      refine lv_iload_n hx hb dX6_become_21 rfl (lv_at hl 0 rfl) ?_
                                                      refine lv_bipush (v := 40) hx hb dX6_become_22 (by decide) ?_
                                                      refine lv_icmp_ge (tgt := 40) hx hb dX6_become_24 (by decide) (fun c4173 => ?_) (fun c4173 => ?_)
                                                      · exact absurd c4173 (by decide)
                                                      · refine lv_aload_n hx hb dX6_become_27 rfl (lv_at hl 1 rfl) ?_
                                                        refine va_get (D := D) (ci := 6) (v := .ref h1) (C := RX6) (T := TX6) (N := 3) hx hb hts hin6 hown hK hP 0 rfl rfl 0 (by decide) (hts (.fieldLink RX6 9 "MissedPoints$Sheet" "numbers" "[I") (by decide +kernel)) (fun _ h9 => h9) rfl dX6_become_28 ?_
                                                        refine lv_iload_n hx hb dX6_become_31 rfl (lv_at hl 0 rfl) ?_
                                                        refine lv_iconst (v := 0) hx hb dX6_become_32 (by decide) ?_
                                                        refine lz_astc hx hb hK hP hD hS 1 0 rfl rfl (lz_vp (x := 26) (n := 40) (by decide) (by decide)) dX6_become_33 (fun H locs hP hD hS => ?_)
                                                        refine lv_iinc (v := 27) (lv' := [(3, .int 27), (0, .ref h0), (1, .int 0), (2, .int x0)]) hx hb dX6_become_34 hl (k := 0) rfl (by decide) (by decide) rfl (fun ls hl => ?_)
                                                        refine lv_goto (tgt := 21) hx hb dX6_become_37 (by decide) ?_
                                                        refine lv_iload_n hx hb dX6_become_21 rfl (lv_at hl 0 rfl) ?_
                                                        refine lv_bipush (v := 40) hx hb dX6_become_22 (by decide) ?_
                                                        refine lv_icmp_ge (tgt := 40) hx hb dX6_become_24 (by decide) (fun c4174 => ?_) (fun c4174 => ?_)
                                                        · exact absurd c4174 (by decide)
                                                        · refine lv_aload_n hx hb dX6_become_27 rfl (lv_at hl 1 rfl) ?_
                                                          refine va_get (D := D) (ci := 6) (v := .ref h1) (C := RX6) (T := TX6) (N := 3) hx hb hts hin6 hown hK hP 0 rfl rfl 0 (by decide) (hts (.fieldLink RX6 9 "MissedPoints$Sheet" "numbers" "[I") (by decide +kernel)) (fun _ h9 => h9) rfl dX6_become_28 ?_
                                                          refine lv_iload_n hx hb dX6_become_31 rfl (lv_at hl 0 rfl) ?_
                                                          refine lv_iconst (v := 0) hx hb dX6_become_32 (by decide) ?_
                                                          refine lz_astc hx hb hK hP hD hS 1 0 rfl rfl (lz_vp (x := 27) (n := 40) (by decide) (by decide)) dX6_become_33 (fun H locs hP hD hS => ?_)
                                                          refine lv_iinc (v := 28) (lv' := [(3, .int 28), (0, .ref h0), (1, .int 0), (2, .int x0)]) hx hb dX6_become_34 hl (k := 0) rfl (by decide) (by decide) rfl (fun ls hl => ?_)
                                                          refine lv_goto (tgt := 21) hx hb dX6_become_37 (by decide) ?_
                                                          refine lv_iload_n hx hb dX6_become_21 rfl (lv_at hl 0 rfl) ?_
                                                          refine lv_bipush (v := 40) hx hb dX6_become_22 (by decide) ?_
                                                          refine lv_icmp_ge (tgt := 40) hx hb dX6_become_24 (by decide) (fun c4175 => ?_) (fun c4175 => ?_)
                                                          · exact absurd c4175 (by decide)
                                                          · refine lv_aload_n hx hb dX6_become_27 rfl (lv_at hl 1 rfl) ?_
                                                            refine va_get (D := D) (ci := 6) (v := .ref h1) (C := RX6) (T := TX6) (N := 3) hx hb hts hin6 hown hK hP 0 rfl rfl 0 (by decide) (hts (.fieldLink RX6 9 "MissedPoints$Sheet" "numbers" "[I") (by decide +kernel)) (fun _ h9 => h9) rfl dX6_become_28 ?_
                                                            refine lv_iload_n hx hb dX6_become_31 rfl (lv_at hl 0 rfl) ?_
                                                            refine lv_iconst (v := 0) hx hb dX6_become_32 (by decide) ?_
                                                            refine lz_astc hx hb hK hP hD hS 1 0 rfl rfl (lz_vp (x := 28) (n := 40) (by decide) (by decide)) dX6_become_33 (fun H locs hP hD hS => ?_)
                                                            refine lv_iinc (v := 29) (lv' := [(3, .int 29), (0, .ref h0), (1, .int 0), (2, .int x0)]) hx hb dX6_become_34 hl (k := 0) rfl (by decide) (by decide) rfl (fun ls hl => ?_)
                                                            refine lv_goto (tgt := 21) hx hb dX6_become_37 (by decide) ?_
                                                            refine lv_iload_n hx hb dX6_become_21 rfl (lv_at hl 0 rfl) ?_
                                                            refine lv_bipush (v := 40) hx hb dX6_become_22 (by decide) ?_
                                                            refine lv_icmp_ge (tgt := 40) hx hb dX6_become_24 (by decide) (fun c4176 => ?_) (fun c4176 => ?_)
                                                            · exact absurd c4176 (by decide)
                                                            · refine lv_aload_n hx hb dX6_become_27 rfl (lv_at hl 1 rfl) ?_
                                                              refine va_get (D := D) (ci := 6) (v := .ref h1) (C := RX6) (T := TX6) (N := 3) hx hb hts hin6 hown hK hP 0 rfl rfl 0 (by decide) (hts (.fieldLink RX6 9 "MissedPoints$Sheet" "numbers" "[I") (by decide +kernel)) (fun _ h9 => h9) rfl dX6_become_28 ?_
                                                              refine lv_iload_n hx hb dX6_become_31 rfl (lv_at hl 0 rfl) ?_
                                                              refine lv_iconst (v := 0) hx hb dX6_become_32 (by decide) ?_
                                                              refine lz_astc hx hb hK hP hD hS 1 0 rfl rfl (lz_vp (x := 29) (n := 40) (by decide) (by decide)) dX6_become_33 (fun H locs hP hD hS => ?_)
                                                              refine lv_iinc (v := 30) (lv' := [(3, .int 30), (0, .ref h0), (1, .int 0), (2, .int x0)]) hx hb dX6_become_34 hl (k := 0) rfl (by decide) (by decide) rfl (fun ls hl => ?_)
                                                              refine lv_goto (tgt := 21) hx hb dX6_become_37 (by decide) ?_
                                                              refine lv_iload_n hx hb dX6_become_21 rfl (lv_at hl 0 rfl) ?_
                                                              refine lv_bipush (v := 40) hx hb dX6_become_22 (by decide) ?_
                                                              refine lv_icmp_ge (tgt := 40) hx hb dX6_become_24 (by decide) (fun c4177 => ?_) (fun c4177 => ?_)
                                                              · exact absurd c4177 (by decide)
                                                              · refine lv_aload_n hx hb dX6_become_27 rfl (lv_at hl 1 rfl) ?_
                                                                refine va_get (D := D) (ci := 6) (v := .ref h1) (C := RX6) (T := TX6) (N := 3) hx hb hts hin6 hown hK hP 0 rfl rfl 0 (by decide) (hts (.fieldLink RX6 9 "MissedPoints$Sheet" "numbers" "[I") (by decide +kernel)) (fun _ h9 => h9) rfl dX6_become_28 ?_
                                                                refine lv_iload_n hx hb dX6_become_31 rfl (lv_at hl 0 rfl) ?_
                                                                refine lv_iconst (v := 0) hx hb dX6_become_32 (by decide) ?_
                                                                refine lz_astc hx hb hK hP hD hS 1 0 rfl rfl (lz_vp (x := 30) (n := 40) (by decide) (by decide)) dX6_become_33 (fun H locs hP hD hS => ?_)
                                                                refine lv_iinc (v := 31) (lv' := [(3, .int 31), (0, .ref h0), (1, .int 0), (2, .int x0)]) hx hb dX6_become_34 hl (k := 0) rfl (by decide) (by decide) rfl (fun ls hl => ?_)
                                                                refine lv_goto (tgt := 21) hx hb dX6_become_37 (by decide) ?_
                                                                refine lv_iload_n hx hb dX6_become_21 rfl (lv_at hl 0 rfl) ?_
                                                                refine lv_bipush (v := 40) hx hb dX6_become_22 (by decide) ?_
                                                                refine lv_icmp_ge (tgt := 40) hx hb dX6_become_24 (by decide) (fun c4178 => ?_) (fun c4178 => ?_)
                                                                · exact absurd c4178 (by decide)
                                                                · refine lv_aload_n hx hb dX6_become_27 rfl (lv_at hl 1 rfl) ?_
                                                                  refine va_get (D := D) (ci := 6) (v := .ref h1) (C := RX6) (T := TX6) (N := 3) hx hb hts hin6 hown hK hP 0 rfl rfl 0 (by decide) (hts (.fieldLink RX6 9 "MissedPoints$Sheet" "numbers" "[I") (by decide +kernel)) (fun _ h9 => h9) rfl dX6_become_28 ?_
                                                                  refine lv_iload_n hx hb dX6_become_31 rfl (lv_at hl 0 rfl) ?_
                                                                  refine lv_iconst (v := 0) hx hb dX6_become_32 (by decide) ?_
                                                                  refine lz_astc hx hb hK hP hD hS 1 0 rfl rfl (lz_vp (x := 31) (n := 40) (by decide) (by decide)) dX6_become_33 (fun H locs hP hD hS => ?_)
                                                                  refine lv_iinc (v := 32) (lv' := [(3, .int 32), (0, .ref h0), (1, .int 0), (2, .int x0)]) hx hb dX6_become_34 hl (k := 0) rfl (by decide) (by decide) rfl (fun ls hl => ?_)
                                                                  refine lv_goto (tgt := 21) hx hb dX6_become_37 (by decide) ?_
                                                                  refine lv_iload_n hx hb dX6_become_21 rfl (lv_at hl 0 rfl) ?_
                                                                  refine lv_bipush (v := 40) hx hb dX6_become_22 (by decide) ?_
                                                                  refine lv_icmp_ge (tgt := 40) hx hb dX6_become_24 (by decide) (fun c4179 => ?_) (fun c4179 => ?_)
                                                                  · exact absurd c4179 (by decide)
                                                                  · refine lv_aload_n hx hb dX6_become_27 rfl (lv_at hl 1 rfl) ?_
                                                                    refine va_get (D := D) (ci := 6) (v := .ref h1) (C := RX6) (T := TX6) (N := 3) hx hb hts hin6 hown hK hP 0 rfl rfl 0 (by decide) (hts (.fieldLink RX6 9 "MissedPoints$Sheet" "numbers" "[I") (by decide +kernel)) (fun _ h9 => h9) rfl dX6_become_28 ?_
                                                                    refine lv_iload_n hx hb dX6_become_31 rfl (lv_at hl 0 rfl) ?_
                                                                    refine lv_iconst (v := 0) hx hb dX6_become_32 (by decide) ?_
                                                                    refine lz_astc hx hb hK hP hD hS 1 0 rfl rfl (lz_vp (x := 32) (n := 40) (by decide) (by decide)) dX6_become_33 (fun H locs hP hD hS => ?_)
                                                                    refine lv_iinc (v := 33) (lv' := [(3, .int 33), (0, .ref h0), (1, .int 0), (2, .int x0)]) hx hb dX6_become_34 hl (k := 0) rfl (by decide) (by decide) rfl (fun ls hl => ?_)
                                                                    refine lv_goto (tgt := 21) hx hb dX6_become_37 (by decide) ?_
                                                                    refine lv_iload_n hx hb dX6_become_21 rfl (lv_at hl 0 rfl) ?_
                                                                    refine lv_bipush (v := 40) hx hb dX6_become_22 (by decide) ?_
                                                                    refine lv_icmp_ge (tgt := 40) hx hb dX6_become_24 (by decide) (fun c4180 => ?_) (fun c4180 => ?_)
                                                                    · exact absurd c4180 (by decide)
                                                                    · refine lv_aload_n hx hb dX6_become_27 rfl (lv_at hl 1 rfl) ?_
                                                                      refine va_get (D := D) (ci := 6) (v := .ref h1) (C := RX6) (T := TX6) (N := 3) hx hb hts hin6 hown hK hP 0 rfl rfl 0 (by decide) (hts (.fieldLink RX6 9 "MissedPoints$Sheet" "numbers" "[I") (by decide +kernel)) (fun _ h9 => h9) rfl dX6_become_28 ?_
                                                                      refine lv_iload_n hx hb dX6_become_31 rfl (lv_at hl 0 rfl) ?_
                                                                      refine lv_iconst (v := 0) hx hb dX6_become_32 (by decide) ?_
                                                                      refine lz_astc hx hb hK hP hD hS 1 0 rfl rfl (lz_vp (x := 33) (n := 40) (by decide) (by decide)) dX6_become_33 (fun H locs hP hD hS => ?_)
                                                                      refine lv_iinc (v := 34) (lv' := [(3, .int 34), (0, .ref h0), (1, .int 0), (2, .int x0)]) hx hb dX6_become_34 hl (k := 0) rfl (by decide) (by decide) rfl (fun ls hl => ?_)
                                                                      refine lv_goto (tgt := 21) hx hb dX6_become_37 (by decide) ?_
                                                                      refine lv_iload_n hx hb dX6_become_21 rfl (lv_at hl 0 rfl) ?_
                                                                      refine lv_bipush (v := 40) hx hb dX6_become_22 (by decide) ?_
                                                                      refine lv_icmp_ge (tgt := 40) hx hb dX6_become_24 (by decide) (fun c4181 => ?_) (fun c4181 => ?_)
                                                                      · exact absurd c4181 (by decide)
                                                                      · refine lv_aload_n hx hb dX6_become_27 rfl (lv_at hl 1 rfl) ?_
                                                                        refine va_get (D := D) (ci := 6) (v := .ref h1) (C := RX6) (T := TX6) (N := 3) hx hb hts hin6 hown hK hP 0 rfl rfl 0 (by decide) (hts (.fieldLink RX6 9 "MissedPoints$Sheet" "numbers" "[I") (by decide +kernel)) (fun _ h9 => h9) rfl dX6_become_28 ?_
                                                                        refine lv_iload_n hx hb dX6_become_31 rfl (lv_at hl 0 rfl) ?_
                                                                        refine lv_iconst (v := 0) hx hb dX6_become_32 (by decide) ?_
                                                                        refine lz_astc hx hb hK hP hD hS 1 0 rfl rfl (lz_vp (x := 34) (n := 40) (by decide) (by decide)) dX6_become_33 (fun H locs hP hD hS => ?_)
                                                                        refine lv_iinc (v := 35) (lv' := [(3, .int 35), (0, .ref h0), (1, .int 0), (2, .int x0)]) hx hb dX6_become_34 hl (k := 0) rfl (by decide) (by decide) rfl (fun ls hl => ?_)
                                                                        refine lv_goto (tgt := 21) hx hb dX6_become_37 (by decide) ?_
                                                                        refine lv_iload_n hx hb dX6_become_21 rfl (lv_at hl 0 rfl) ?_
                                                                        refine lv_bipush (v := 40) hx hb dX6_become_22 (by decide) ?_
                                                                        refine lv_icmp_ge (tgt := 40) hx hb dX6_become_24 (by decide) (fun c4182 => ?_) (fun c4182 => ?_)
                                                                        · exact absurd c4182 (by decide)
                                                                        · refine lv_aload_n hx hb dX6_become_27 rfl (lv_at hl 1 rfl) ?_
                                                                          refine va_get (D := D) (ci := 6) (v := .ref h1) (C := RX6) (T := TX6) (N := 3) hx hb hts hin6 hown hK hP 0 rfl rfl 0 (by decide) (hts (.fieldLink RX6 9 "MissedPoints$Sheet" "numbers" "[I") (by decide +kernel)) (fun _ h9 => h9) rfl dX6_become_28 ?_
                                                                          refine lv_iload_n hx hb dX6_become_31 rfl (lv_at hl 0 rfl) ?_
                                                                          refine lv_iconst (v := 0) hx hb dX6_become_32 (by decide) ?_
                                                                          refine lz_astc hx hb hK hP hD hS 1 0 rfl rfl (lz_vp (x := 35) (n := 40) (by decide) (by decide)) dX6_become_33 (fun H locs hP hD hS => ?_)
                                                                          refine lv_iinc (v := 36) (lv' := [(3, .int 36), (0, .ref h0), (1, .int 0), (2, .int x0)]) hx hb dX6_become_34 hl (k := 0) rfl (by decide) (by decide) rfl (fun ls hl => ?_)
                                                                          refine lv_goto (tgt := 21) hx hb dX6_become_37 (by decide) ?_
                                                                          refine lv_iload_n hx hb dX6_become_21 rfl (lv_at hl 0 rfl) ?_
                                                                          refine lv_bipush (v := 40) hx hb dX6_become_22 (by decide) ?_
                                                                          refine lv_icmp_ge (tgt := 40) hx hb dX6_become_24 (by decide) (fun c4183 => ?_) (fun c4183 => ?_)
                                                                          · exact absurd c4183 (by decide)
                                                                          · refine lv_aload_n hx hb dX6_become_27 rfl (lv_at hl 1 rfl) ?_
                                                                            refine va_get (D := D) (ci := 6) (v := .ref h1) (C := RX6) (T := TX6) (N := 3) hx hb hts hin6 hown hK hP 0 rfl rfl 0 (by decide) (hts (.fieldLink RX6 9 "MissedPoints$Sheet" "numbers" "[I") (by decide +kernel)) (fun _ h9 => h9) rfl dX6_become_28 ?_
                                                                            refine lv_iload_n hx hb dX6_become_31 rfl (lv_at hl 0 rfl) ?_
                                                                            refine lv_iconst (v := 0) hx hb dX6_become_32 (by decide) ?_
                                                                            refine lz_astc hx hb hK hP hD hS 1 0 rfl rfl (lz_vp (x := 36) (n := 40) (by decide) (by decide)) dX6_become_33 (fun H locs hP hD hS => ?_)
                                                                            refine lv_iinc (v := 37) (lv' := [(3, .int 37), (0, .ref h0), (1, .int 0), (2, .int x0)]) hx hb dX6_become_34 hl (k := 0) rfl (by decide) (by decide) rfl (fun ls hl => ?_)
                                                                            refine lv_goto (tgt := 21) hx hb dX6_become_37 (by decide) ?_
                                                                            refine lv_iload_n hx hb dX6_become_21 rfl (lv_at hl 0 rfl) ?_
                                                                            refine lv_bipush (v := 40) hx hb dX6_become_22 (by decide) ?_
                                                                            refine lv_icmp_ge (tgt := 40) hx hb dX6_become_24 (by decide) (fun c4184 => ?_) (fun c4184 => ?_)
                                                                            · exact absurd c4184 (by decide)
                                                                            · refine lv_aload_n hx hb dX6_become_27 rfl (lv_at hl 1 rfl) ?_
                                                                              refine va_get (D := D) (ci := 6) (v := .ref h1) (C := RX6) (T := TX6) (N := 3) hx hb hts hin6 hown hK hP 0 rfl rfl 0 (by decide) (hts (.fieldLink RX6 9 "MissedPoints$Sheet" "numbers" "[I") (by decide +kernel)) (fun _ h9 => h9) rfl dX6_become_28 ?_
                                                                              refine lv_iload_n hx hb dX6_become_31 rfl (lv_at hl 0 rfl) ?_
                                                                              refine lv_iconst (v := 0) hx hb dX6_become_32 (by decide) ?_
                                                                              refine lz_astc hx hb hK hP hD hS 1 0 rfl rfl (lz_vp (x := 37) (n := 40) (by decide) (by decide)) dX6_become_33 (fun H locs hP hD hS => ?_)
                                                                              refine lv_iinc (v := 38) (lv' := [(3, .int 38), (0, .ref h0), (1, .int 0), (2, .int x0)]) hx hb dX6_become_34 hl (k := 0) rfl (by decide) (by decide) rfl (fun ls hl => ?_)
                                                                              refine lv_goto (tgt := 21) hx hb dX6_become_37 (by decide) ?_
                                                                              refine lv_iload_n hx hb dX6_become_21 rfl (lv_at hl 0 rfl) ?_
                                                                              refine lv_bipush (v := 40) hx hb dX6_become_22 (by decide) ?_
                                                                              refine lv_icmp_ge (tgt := 40) hx hb dX6_become_24 (by decide) (fun c4185 => ?_) (fun c4185 => ?_)
                                                                              · exact absurd c4185 (by decide)
                                                                              · refine lv_aload_n hx hb dX6_become_27 rfl (lv_at hl 1 rfl) ?_
                                                                                refine va_get (D := D) (ci := 6) (v := .ref h1) (C := RX6) (T := TX6) (N := 3) hx hb hts hin6 hown hK hP 0 rfl rfl 0 (by decide) (hts (.fieldLink RX6 9 "MissedPoints$Sheet" "numbers" "[I") (by decide +kernel)) (fun _ h9 => h9) rfl dX6_become_28 ?_
                                                                                refine lv_iload_n hx hb dX6_become_31 rfl (lv_at hl 0 rfl) ?_
                                                                                refine lv_iconst (v := 0) hx hb dX6_become_32 (by decide) ?_
                                                                                refine lz_astc hx hb hK hP hD hS 1 0 rfl rfl (lz_vp (x := 38) (n := 40) (by decide) (by decide)) dX6_become_33 (fun H locs hP hD hS => ?_)
                                                                                refine lv_iinc (v := 39) (lv' := [(3, .int 39), (0, .ref h0), (1, .int 0), (2, .int x0)]) hx hb dX6_become_34 hl (k := 0) rfl (by decide) (by decide) rfl (fun ls hl => ?_)
                                                                                refine lv_goto (tgt := 21) hx hb dX6_become_37 (by decide) ?_
                                                                                refine lv_iload_n hx hb dX6_become_21 rfl (lv_at hl 0 rfl) ?_
                                                                                refine lv_bipush (v := 40) hx hb dX6_become_22 (by decide) ?_
                                                                                refine lv_icmp_ge (tgt := 40) hx hb dX6_become_24 (by decide) (fun c4186 => ?_) (fun c4186 => ?_)
                                                                                · exact absurd c4186 (by decide)
                                                                                · refine lv_aload_n hx hb dX6_become_27 rfl (lv_at hl 1 rfl) ?_
                                                                                  refine va_get (D := D) (ci := 6) (v := .ref h1) (C := RX6) (T := TX6) (N := 3) hx hb hts hin6 hown hK hP 0 rfl rfl 0 (by decide) (hts (.fieldLink RX6 9 "MissedPoints$Sheet" "numbers" "[I") (by decide +kernel)) (fun _ h9 => h9) rfl dX6_become_28 ?_
                                                                                  refine lv_iload_n hx hb dX6_become_31 rfl (lv_at hl 0 rfl) ?_
                                                                                  refine lv_iconst (v := 0) hx hb dX6_become_32 (by decide) ?_
                                                                                  refine lz_astc hx hb hK hP hD hS 1 0 rfl rfl (lz_vp (x := 39) (n := 40) (by decide) (by decide)) dX6_become_33 (fun H locs hP hD hS => ?_)
                                                                                  refine lv_iinc (v := 40) (lv' := [(3, .int 40), (0, .ref h0), (1, .int 0), (2, .int x0)]) hx hb dX6_become_34 hl (k := 0) rfl (by decide) (by decide) rfl (fun ls hl => ?_)
                                                                                  refine lv_goto (tgt := 21) hx hb dX6_become_37 (by decide) ?_
                                                                                  refine lv_iload_n hx hb dX6_become_21 rfl (lv_at hl 0 rfl) ?_
                                                                                  refine lv_bipush (v := 40) hx hb dX6_become_22 (by decide) ?_
                                                                                  refine lv_icmp_ge (tgt := 40) hx hb dX6_become_24 (by decide) (fun c4187 => ?_) (fun c4187 => ?_)
                                                                                  · have hP9 := hP.sub (ws' := [(h0, .inr (6, [.ref h1, .int 0, .int (if (0 : Int32) < (if (40 : Int32) < x0 then (40 : Int32) else x0) then (if (40 : Int32) < x0 then (40 : Int32) else x0) else (0 : Int32))])), (h1, .inl (cI, 40, .inl (fun _ => 0)))]) [0, 1] rfl
                                                                                    have hD9 := hD.sub (ws' := [(h0, .inr (6, [.ref h1, .int 0, .int (if (0 : Int32) < (if (40 : Int32) < x0 then (40 : Int32) else x0) then (if (40 : Int32) < x0 then (40 : Int32) else x0) else (0 : Int32))])), (h1, .inl (cI, 40, .inl (fun _ => 0)))]) [0, 1] (by decide) rfl
                                                                                    subst hAe
                                                                                    exact W.vret hx hb hr (fun t ht hW => ⟨⟨(), rfl, trivial, by rw [ht]; exact hP9, hD9⟩, hS.F ht⟩) hS.2.2 dX6_become_40
                                                                                  · exact absurd c4187 (by decide)
set_option maxHeartbeats 4000000 in
set_option maxRecDepth 100000 in
theorem c_X6_become_3 (l : Launch) (D : va_G) (cI cS : ClassId) (sz : Nat) (h0 h1 : Nat) (x0 : Int32) : Met l yX6_become wsX6_become ({ frames := 1, cells := 0, slots := 0, locals := 40 }) (PQ D cI cS [(h0, .inr (6, [.ref h1, .int (-1), .int 0])), (h1, .inl (cI, 40, .inl (fun _ => 0)))] sz [.ref h0, .int 1, .int x0]) (QV D [(h0, .inr (6, [.ref h1, .int (-1), .int 0])), (h1, .inl (cI, 40, .inl (fun _ => 0)))] [(h0, .inr (6, [.ref h1, .int 1, .int (if (0 : Int32) < (if (40 : Int32) < x0 then (40 : Int32) else x0) then (if (40 : Int32) < x0 then (40 : Int32) else x0) else (0 : Int32))])), (h1, .inl (cI, 40, .inl (fun _ => 0)))] sz) 0 0 (va_A [(h0, .inr (6, [.ref h1, .int (-1), .int 0])), (h1, .inl (cI, 40, .inl (fun _ => 0)))] sz) := by
  refine Met.ofW (cc := cX6_become) (maxL := 4) (ret := none) (by decide) rfl ?_
  intro p e s m args below meth c s₁ B hml hv
  obtain ⟨rfl, hsz, hP, hKK, hD0⟩ := hv
  have hx := B.exec
  have hb := B.bytes
  have hr := B.returns
  have hts := atoms_spec (ws := wsX6_become) B.pre
  have hown : s.vm.findClass RX6 = some m.cls := findClass_of_methodNamed B.named
  have hlocks := B.notSynchronized
  have hK := hKK.1
  have hN := hKK.2
  have hin6 : ∀ w ∈ wsX60, w ∈ wsX6_become := by decide +kernel
  subst hsz
  have hD := hD0.self (sz := s.heap.size)
  obtain ⟨A, hAe⟩ : ∃ A, A = va_A [(h0, .inr (6, [.ref h1, .int (-1), .int 0])), (h1, .inl (cI, 40, .inl (fun _ => 0)))] s.heap.size := ⟨_, rfl⟩
  rw [← hAe] at hD
  have hA : ∀ q : Nat, s.heap.size ≤ q → A q := fun q h => by rw [hAe]; exact Or.inr h
  have hS : va_S A s.heap s.heap [] := va_S.rf
  have hl := lv_entry ([.ref h0, .int 1, .int x0]) (n := 4) (Nat.le_of_ble_eq_true rfl)
  rw [lg_entry_eq]
  generalize (lg_sl ([.ref h0, .int 1, .int x0]) ++ List.replicate (4 - (lg_sl ([.ref h0, .int 1, .int x0])).length) Slot.unset).toArray = ls at hl ⊢
  have hl : lv_has ls 4 [(0, .ref h0), (1, .int 1), (2, .int x0)] := hl
  refine lv_aload_n hx hb dX6_become_0 rfl (lv_at hl 0 rfl) ?_
  refine lv_iload_n hx hb dX6_become_1 rfl (lv_at hl 1 rfl) ?_
  refine va_put (D := D) (ci := 6) (v := .int 1) (ty := .int) (C := RX6) (T := TX6) (N := 3) hx hb hts hin6 tyX6 tyX6_ok nmX6 hown hK hP hD hS 0 rfl rfl 1 (by decide) (hts (.fieldLink RX6 15 "MissedPoints$Sheet" "sort" "I") (by decide +kernel)) (fun _ h9 => h9) rfl (by decide +kernel) rfl rfl (Nat.le_of_ble_eq_true rfl) dX6_become_2 (fun H locs hP hD hS => ?_)
  have hP : va_P D cls [(h0, .inr (6, [.ref h1, .int 1, .int 0])), (h1, .inl (cI, 40, .inl (fun _ => 0)))] H := hP
  have hD : va_D A [(h0, .inr (6, [.ref h1, .int 1, .int 0])), (h1, .inl (cI, 40, .inl (fun _ => 0)))] := hD
  refine lv_aload_n hx hb dX6_become_5 rfl (lv_at hl 0 rfl) ?_
  refine lv_iconst (v := 0) hx hb dX6_become_6 (by decide) ?_
  refine lv_iload_n hx hb dX6_become_7 rfl (lv_at hl 2 rfl) ?_
  refine lv_bipush (v := 40) hx hb dX6_become_8 (by decide) ?_
  refine va_mmin hx hb (by rw [hml]; exact hl.1.symm) hown (hts (.methodLink RX6 19 Lib.Math.min.name) (by decide +kernel)) (hts (.static Lib.Math.min.name) (by decide +kernel)) (hts (.initialized "java/lang/Math") (by decide +kernel)) (hts (.code Lib.Math.min.name Lib.Math.min.code 2 (some .int)) (by decide +kernel)) (Nat.le_of_ble_eq_true rfl) (Nat.le_of_ble_eq_true rfl) (Nat.le_of_ble_eq_true rfl) (Nat.le_of_ble_eq_true rfl) dX6_become_10 ?_
  refine va_mmax hx hb (by rw [hml]; exact hl.1.symm) hown (hts (.methodLink RX6 25 Lib.Math.max.name) (by decide +kernel)) (hts (.static Lib.Math.max.name) (by decide +kernel)) (hts (.initialized "java/lang/Math") (by decide +kernel)) (hts (.code Lib.Math.max.name Lib.Math.max.code 2 (some .int)) (by decide +kernel)) (Nat.le_of_ble_eq_true rfl) (Nat.le_of_ble_eq_true rfl) (Nat.le_of_ble_eq_true rfl) (Nat.le_of_ble_eq_true rfl) dX6_become_13 ?_
  refine va_put (D := D) (ci := 6) (v := .int (if (0 : Int32) < (if (40 : Int32) < x0 then (40 : Int32) else x0) then (if (40 : Int32) < x0 then (40 : Int32) else x0) else (0 : Int32))) (ty := .int) (C := RX6) (T := TX6) (N := 3) hx hb hts hin6 tyX6 tyX6_ok nmX6 hown hK hP hD hS 0 rfl rfl 2 (by decide) (hts (.fieldLink RX6 28 "MissedPoints$Sheet" "size" "I") (by decide +kernel)) (fun _ h9 => h9) rfl (by decide +kernel) rfl rfl (Nat.le_of_ble_eq_true rfl) dX6_become_16 (fun H locs hP hD hS => ?_)
  have hP : va_P D cls [(h0, .inr (6, [.ref h1, .int 1, .int (if (0 : Int32) < (if (40 : Int32) < x0 then (40 : Int32) else x0) then (if (40 : Int32) < x0 then (40 : Int32) else x0) else (0 : Int32))])), (h1, .inl (cI, 40, .inl (fun _ => 0)))] H := hP
  have hD : va_D A [(h0, .inr (6, [.ref h1, .int 1, .int (if (0 : Int32) < (if (40 : Int32) < x0 then (40 : Int32) else x0) then (if (40 : Int32) < x0 then (40 : Int32) else x0) else (0 : Int32))])), (h1, .inl (cI, 40, .inl (fun _ => 0)))] := hD
  refine lv_iconst (v := 0) hx hb dX6_become_19 (by decide) ?_
  refine lv_istore_n (lv' := [(3, .int 0), (0, .ref h0), (1, .int 1), (2, .int x0)]) hx hb dX6_become_20 rfl hl (by decide) rfl (fun ls hl => ?_)
  refine lv_iload_n hx hb dX6_become_21 rfl (lv_at hl 0 rfl) ?_
  refine lv_bipush (v := 40) hx hb dX6_become_22 (by decide) ?_
  refine lv_icmp_ge (tgt := 40) hx hb dX6_become_24 (by decide) (fun c4240 => ?_) (fun c4240 => ?_)
  · exact absurd c4240 (by decide)
  · refine lv_aload_n hx hb dX6_become_27 rfl (lv_at hl 1 rfl) ?_
    refine va_get (D := D) (ci := 6) (v := .ref h1) (C := RX6) (T := TX6) (N := 3) hx hb hts hin6 hown hK hP 0 rfl rfl 0 (by decide) (hts (.fieldLink RX6 9 "MissedPoints$Sheet" "numbers" "[I") (by decide +kernel)) (fun _ h9 => h9) rfl dX6_become_28 ?_
    refine lv_iload_n hx hb dX6_become_31 rfl (lv_at hl 0 rfl) ?_
    refine lv_iconst (v := 0) hx hb dX6_become_32 (by decide) ?_
    refine lz_astc hx hb hK hP hD hS 1 0 rfl rfl (lz_vp (x := 0) (n := 40) (by decide) (by decide)) dX6_become_33 (fun H locs hP hD hS => ?_)
    refine lv_iinc (v := 1) (lv' := [(3, .int 1), (0, .ref h0), (1, .int 1), (2, .int x0)]) hx hb dX6_become_34 hl (k := 0) rfl (by decide) (by decide) rfl (fun ls hl => ?_)
    refine lv_goto (tgt := 21) hx hb dX6_become_37 (by decide) ?_
    refine lv_iload_n hx hb dX6_become_21 rfl (lv_at hl 0 rfl) ?_
    refine lv_bipush (v := 40) hx hb dX6_become_22 (by decide) ?_
    refine lv_icmp_ge (tgt := 40) hx hb dX6_become_24 (by decide) (fun c4241 => ?_) (fun c4241 => ?_)
    · exact absurd c4241 (by decide)
    · refine lv_aload_n hx hb dX6_become_27 rfl (lv_at hl 1 rfl) ?_
      refine va_get (D := D) (ci := 6) (v := .ref h1) (C := RX6) (T := TX6) (N := 3) hx hb hts hin6 hown hK hP 0 rfl rfl 0 (by decide) (hts (.fieldLink RX6 9 "MissedPoints$Sheet" "numbers" "[I") (by decide +kernel)) (fun _ h9 => h9) rfl dX6_become_28 ?_
      refine lv_iload_n hx hb dX6_become_31 rfl (lv_at hl 0 rfl) ?_
      refine lv_iconst (v := 0) hx hb dX6_become_32 (by decide) ?_
      refine lz_astc hx hb hK hP hD hS 1 0 rfl rfl (lz_vp (x := 1) (n := 40) (by decide) (by decide)) dX6_become_33 (fun H locs hP hD hS => ?_)
      refine lv_iinc (v := 2) (lv' := [(3, .int 2), (0, .ref h0), (1, .int 1), (2, .int x0)]) hx hb dX6_become_34 hl (k := 0) rfl (by decide) (by decide) rfl (fun ls hl => ?_)
      refine lv_goto (tgt := 21) hx hb dX6_become_37 (by decide) ?_
      refine lv_iload_n hx hb dX6_become_21 rfl (lv_at hl 0 rfl) ?_
      refine lv_bipush (v := 40) hx hb dX6_become_22 (by decide) ?_
      refine lv_icmp_ge (tgt := 40) hx hb dX6_become_24 (by decide) (fun c4242 => ?_) (fun c4242 => ?_)
      · exact absurd c4242 (by decide)
      · refine lv_aload_n hx hb dX6_become_27 rfl (lv_at hl 1 rfl) ?_
        refine va_get (D := D) (ci := 6) (v := .ref h1) (C := RX6) (T := TX6) (N := 3) hx hb hts hin6 hown hK hP 0 rfl rfl 0 (by decide) (hts (.fieldLink RX6 9 "MissedPoints$Sheet" "numbers" "[I") (by decide +kernel)) (fun _ h9 => h9) rfl dX6_become_28 ?_
        refine lv_iload_n hx hb dX6_become_31 rfl (lv_at hl 0 rfl) ?_
        refine lv_iconst (v := 0) hx hb dX6_become_32 (by decide) ?_
        refine lz_astc hx hb hK hP hD hS 1 0 rfl rfl (lz_vp (x := 2) (n := 40) (by decide) (by decide)) dX6_become_33 (fun H locs hP hD hS => ?_)
        refine lv_iinc (v := 3) (lv' := [(3, .int 3), (0, .ref h0), (1, .int 1), (2, .int x0)]) hx hb dX6_become_34 hl (k := 0) rfl (by decide) (by decide) rfl (fun ls hl => ?_)
        refine lv_goto (tgt := 21) hx hb dX6_become_37 (by decide) ?_
        refine lv_iload_n hx hb dX6_become_21 rfl (lv_at hl 0 rfl) ?_
        refine lv_bipush (v := 40) hx hb dX6_become_22 (by decide) ?_
        refine lv_icmp_ge (tgt := 40) hx hb dX6_become_24 (by decide) (fun c4243 => ?_) (fun c4243 => ?_)
        · exact absurd c4243 (by decide)
        · refine lv_aload_n hx hb dX6_become_27 rfl (lv_at hl 1 rfl) ?_
          refine va_get (D := D) (ci := 6) (v := .ref h1) (C := RX6) (T := TX6) (N := 3) hx hb hts hin6 hown hK hP 0 rfl rfl 0 (by decide) (hts (.fieldLink RX6 9 "MissedPoints$Sheet" "numbers" "[I") (by decide +kernel)) (fun _ h9 => h9) rfl dX6_become_28 ?_
          refine lv_iload_n hx hb dX6_become_31 rfl (lv_at hl 0 rfl) ?_
          refine lv_iconst (v := 0) hx hb dX6_become_32 (by decide) ?_
          refine lz_astc hx hb hK hP hD hS 1 0 rfl rfl (lz_vp (x := 3) (n := 40) (by decide) (by decide)) dX6_become_33 (fun H locs hP hD hS => ?_)
          refine lv_iinc (v := 4) (lv' := [(3, .int 4), (0, .ref h0), (1, .int 1), (2, .int x0)]) hx hb dX6_become_34 hl (k := 0) rfl (by decide) (by decide) rfl (fun ls hl => ?_)
          refine lv_goto (tgt := 21) hx hb dX6_become_37 (by decide) ?_
          refine lv_iload_n hx hb dX6_become_21 rfl (lv_at hl 0 rfl) ?_
          refine lv_bipush (v := 40) hx hb dX6_become_22 (by decide) ?_
          refine lv_icmp_ge (tgt := 40) hx hb dX6_become_24 (by decide) (fun c4244 => ?_) (fun c4244 => ?_)
          · exact absurd c4244 (by decide)
          · refine lv_aload_n hx hb dX6_become_27 rfl (lv_at hl 1 rfl) ?_
            refine va_get (D := D) (ci := 6) (v := .ref h1) (C := RX6) (T := TX6) (N := 3) hx hb hts hin6 hown hK hP 0 rfl rfl 0 (by decide) (hts (.fieldLink RX6 9 "MissedPoints$Sheet" "numbers" "[I") (by decide +kernel)) (fun _ h9 => h9) rfl dX6_become_28 ?_
            refine lv_iload_n hx hb dX6_become_31 rfl (lv_at hl 0 rfl) ?_
            refine lv_iconst (v := 0) hx hb dX6_become_32 (by decide) ?_
            refine lz_astc hx hb hK hP hD hS 1 0 rfl rfl (lz_vp (x := 4) (n := 40) (by decide) (by decide)) dX6_become_33 (fun H locs hP hD hS => ?_)
            refine lv_iinc (v := 5) (lv' := [(3, .int 5), (0, .ref h0), (1, .int 1), (2, .int x0)]) hx hb dX6_become_34 hl (k := 0) rfl (by decide) (by decide) rfl (fun ls hl => ?_)
            refine lv_goto (tgt := 21) hx hb dX6_become_37 (by decide) ?_
            refine lv_iload_n hx hb dX6_become_21 rfl (lv_at hl 0 rfl) ?_
            refine lv_bipush (v := 40) hx hb dX6_become_22 (by decide) ?_
            refine lv_icmp_ge (tgt := 40) hx hb dX6_become_24 (by decide) (fun c4245 => ?_) (fun c4245 => ?_)
            · exact absurd c4245 (by decide)
            · refine lv_aload_n hx hb dX6_become_27 rfl (lv_at hl 1 rfl) ?_
              refine va_get (D := D) (ci := 6) (v := .ref h1) (C := RX6) (T := TX6) (N := 3) hx hb hts hin6 hown hK hP 0 rfl rfl 0 (by decide) (hts (.fieldLink RX6 9 "MissedPoints$Sheet" "numbers" "[I") (by decide +kernel)) (fun _ h9 => h9) rfl dX6_become_28 ?_
              refine lv_iload_n hx hb dX6_become_31 rfl (lv_at hl 0 rfl) ?_
              refine lv_iconst (v := 0) hx hb dX6_become_32 (by decide) ?_
              refine lz_astc hx hb hK hP hD hS 1 0 rfl rfl (lz_vp (x := 5) (n := 40) (by decide) (by decide)) dX6_become_33 (fun H locs hP hD hS => ?_)
              refine lv_iinc (v := 6) (lv' := [(3, .int 6), (0, .ref h0), (1, .int 1), (2, .int x0)]) hx hb dX6_become_34 hl (k := 0) rfl (by decide) (by decide) rfl (fun ls hl => ?_)
              refine lv_goto (tgt := 21) hx hb dX6_become_37 (by decide) ?_
              refine lv_iload_n hx hb dX6_become_21 rfl (lv_at hl 0 rfl) ?_
              refine lv_bipush (v := 40) hx hb dX6_become_22 (by decide) ?_
              refine lv_icmp_ge (tgt := 40) hx hb dX6_become_24 (by decide) (fun c4246 => ?_) (fun c4246 => ?_)
              · exact absurd c4246 (by decide)
              · refine lv_aload_n hx hb dX6_become_27 rfl (lv_at hl 1 rfl) ?_
                refine va_get (D := D) (ci := 6) (v := .ref h1) (C := RX6) (T := TX6) (N := 3) hx hb hts hin6 hown hK hP 0 rfl rfl 0 (by decide) (hts (.fieldLink RX6 9 "MissedPoints$Sheet" "numbers" "[I") (by decide +kernel)) (fun _ h9 => h9) rfl dX6_become_28 ?_
                refine lv_iload_n hx hb dX6_become_31 rfl (lv_at hl 0 rfl) ?_
                refine lv_iconst (v := 0) hx hb dX6_become_32 (by decide) ?_
                refine lz_astc hx hb hK hP hD hS 1 0 rfl rfl (lz_vp (x := 6) (n := 40) (by decide) (by decide)) dX6_become_33 (fun H locs hP hD hS => ?_)
                refine lv_iinc (v := 7) (lv' := [(3, .int 7), (0, .ref h0), (1, .int 1), (2, .int x0)]) hx hb dX6_become_34 hl (k := 0) rfl (by decide) (by decide) rfl (fun ls hl => ?_)
                refine lv_goto (tgt := 21) hx hb dX6_become_37 (by decide) ?_
                refine lv_iload_n hx hb dX6_become_21 rfl (lv_at hl 0 rfl) ?_
                refine lv_bipush (v := 40) hx hb dX6_become_22 (by decide) ?_
                refine lv_icmp_ge (tgt := 40) hx hb dX6_become_24 (by decide) (fun c4247 => ?_) (fun c4247 => ?_)
                · exact absurd c4247 (by decide)
                · refine lv_aload_n hx hb dX6_become_27 rfl (lv_at hl 1 rfl) ?_
                  refine va_get (D := D) (ci := 6) (v := .ref h1) (C := RX6) (T := TX6) (N := 3) hx hb hts hin6 hown hK hP 0 rfl rfl 0 (by decide) (hts (.fieldLink RX6 9 "MissedPoints$Sheet" "numbers" "[I") (by decide +kernel)) (fun _ h9 => h9) rfl dX6_become_28 ?_
                  refine lv_iload_n hx hb dX6_become_31 rfl (lv_at hl 0 rfl) ?_
                  refine lv_iconst (v := 0) hx hb dX6_become_32 (by decide) ?_
                  refine lz_astc hx hb hK hP hD hS 1 0 rfl rfl (lz_vp (x := 7) (n := 40) (by decide) (by decide)) dX6_become_33 (fun H locs hP hD hS => ?_)
                  refine lv_iinc (v := 8) (lv' := [(3, .int 8), (0, .ref h0), (1, .int 1), (2, .int x0)]) hx hb dX6_become_34 hl (k := 0) rfl (by decide) (by decide) rfl (fun ls hl => ?_)
                  refine lv_goto (tgt := 21) hx hb dX6_become_37 (by decide) ?_
                  refine lv_iload_n hx hb dX6_become_21 rfl (lv_at hl 0 rfl) ?_
                  refine lv_bipush (v := 40) hx hb dX6_become_22 (by decide) ?_
                  refine lv_icmp_ge (tgt := 40) hx hb dX6_become_24 (by decide) (fun c4248 => ?_) (fun c4248 => ?_)
                  · exact absurd c4248 (by decide)
                  · refine lv_aload_n hx hb dX6_become_27 rfl (lv_at hl 1 rfl) ?_
                    refine va_get (D := D) (ci := 6) (v := .ref h1) (C := RX6) (T := TX6) (N := 3) hx hb hts hin6 hown hK hP 0 rfl rfl 0 (by decide) (hts (.fieldLink RX6 9 "MissedPoints$Sheet" "numbers" "[I") (by decide +kernel)) (fun _ h9 => h9) rfl dX6_become_28 ?_
                    refine lv_iload_n hx hb dX6_become_31 rfl (lv_at hl 0 rfl) ?_
                    refine lv_iconst (v := 0) hx hb dX6_become_32 (by decide) ?_
                    refine lz_astc hx hb hK hP hD hS 1 0 rfl rfl (lz_vp (x := 8) (n := 40) (by decide) (by decide)) dX6_become_33 (fun H locs hP hD hS => ?_)
                    refine lv_iinc (v := 9) (lv' := [(3, .int 9), (0, .ref h0), (1, .int 1), (2, .int x0)]) hx hb dX6_become_34 hl (k := 0) rfl (by decide) (by decide) rfl (fun ls hl => ?_)
                    refine lv_goto (tgt := 21) hx hb dX6_become_37 (by decide) ?_
                    refine lv_iload_n hx hb dX6_become_21 rfl (lv_at hl 0 rfl) ?_
                    refine lv_bipush (v := 40) hx hb dX6_become_22 (by decide) ?_
                    refine lv_icmp_ge (tgt := 40) hx hb dX6_become_24 (by decide) (fun c4249 => ?_) (fun c4249 => ?_)
                    · exact absurd c4249 (by decide)
                    · refine lv_aload_n hx hb dX6_become_27 rfl (lv_at hl 1 rfl) ?_
                      refine va_get (D := D) (ci := 6) (v := .ref h1) (C := RX6) (T := TX6) (N := 3) hx hb hts hin6 hown hK hP 0 rfl rfl 0 (by decide) (hts (.fieldLink RX6 9 "MissedPoints$Sheet" "numbers" "[I") (by decide +kernel)) (fun _ h9 => h9) rfl dX6_become_28 ?_
                      refine lv_iload_n hx hb dX6_become_31 rfl (lv_at hl 0 rfl) ?_
                      refine lv_iconst (v := 0) hx hb dX6_become_32 (by decide) ?_
                      refine lz_astc hx hb hK hP hD hS 1 0 rfl rfl (lz_vp (x := 9) (n := 40) (by decide) (by decide)) dX6_become_33 (fun H locs hP hD hS => ?_)
                      refine lv_iinc (v := 10) (lv' := [(3, .int 10), (0, .ref h0), (1, .int 1), (2, .int x0)]) hx hb dX6_become_34 hl (k := 0) rfl (by decide) (by decide) rfl (fun ls hl => ?_)
                      refine lv_goto (tgt := 21) hx hb dX6_become_37 (by decide) ?_
                      refine lv_iload_n hx hb dX6_become_21 rfl (lv_at hl 0 rfl) ?_
                      refine lv_bipush (v := 40) hx hb dX6_become_22 (by decide) ?_
                      refine lv_icmp_ge (tgt := 40) hx hb dX6_become_24 (by decide) (fun c4250 => ?_) (fun c4250 => ?_)
                      · exact absurd c4250 (by decide)
                      · refine lv_aload_n hx hb dX6_become_27 rfl (lv_at hl 1 rfl) ?_
                        refine va_get (D := D) (ci := 6) (v := .ref h1) (C := RX6) (T := TX6) (N := 3) hx hb hts hin6 hown hK hP 0 rfl rfl 0 (by decide) (hts (.fieldLink RX6 9 "MissedPoints$Sheet" "numbers" "[I") (by decide +kernel)) (fun _ h9 => h9) rfl dX6_become_28 ?_
                        refine lv_iload_n hx hb dX6_become_31 rfl (lv_at hl 0 rfl) ?_
                        refine lv_iconst (v := 0) hx hb dX6_become_32 (by decide) ?_
                        refine lz_astc hx hb hK hP hD hS 1 0 rfl rfl (lz_vp (x := 10) (n := 40) (by decide) (by decide)) dX6_become_33 (fun H locs hP hD hS => ?_)
                        refine lv_iinc (v := 11) (lv' := [(3, .int 11), (0, .ref h0), (1, .int 1), (2, .int x0)]) hx hb dX6_become_34 hl (k := 0) rfl (by decide) (by decide) rfl (fun ls hl => ?_)
                        refine lv_goto (tgt := 21) hx hb dX6_become_37 (by decide) ?_
                        refine lv_iload_n hx hb dX6_become_21 rfl (lv_at hl 0 rfl) ?_
                        refine lv_bipush (v := 40) hx hb dX6_become_22 (by decide) ?_
                        refine lv_icmp_ge (tgt := 40) hx hb dX6_become_24 (by decide) (fun c4251 => ?_) (fun c4251 => ?_)
                        · exact absurd c4251 (by decide)
                        · refine lv_aload_n hx hb dX6_become_27 rfl (lv_at hl 1 rfl) ?_
                          refine va_get (D := D) (ci := 6) (v := .ref h1) (C := RX6) (T := TX6) (N := 3) hx hb hts hin6 hown hK hP 0 rfl rfl 0 (by decide) (hts (.fieldLink RX6 9 "MissedPoints$Sheet" "numbers" "[I") (by decide +kernel)) (fun _ h9 => h9) rfl dX6_become_28 ?_
                          refine lv_iload_n hx hb dX6_become_31 rfl (lv_at hl 0 rfl) ?_
                          refine lv_iconst (v := 0) hx hb dX6_become_32 (by decide) ?_
                          refine lz_astc hx hb hK hP hD hS 1 0 rfl rfl (lz_vp (x := 11) (n := 40) (by decide) (by decide)) dX6_become_33 (fun H locs hP hD hS => ?_)
                          refine lv_iinc (v := 12) (lv' := [(3, .int 12), (0, .ref h0), (1, .int 1), (2, .int x0)]) hx hb dX6_become_34 hl (k := 0) rfl (by decide) (by decide) rfl (fun ls hl => ?_)
                          refine lv_goto (tgt := 21) hx hb dX6_become_37 (by decide) ?_
                          refine lv_iload_n hx hb dX6_become_21 rfl (lv_at hl 0 rfl) ?_
                          refine lv_bipush (v := 40) hx hb dX6_become_22 (by decide) ?_
                          refine lv_icmp_ge (tgt := 40) hx hb dX6_become_24 (by decide) (fun c4252 => ?_) (fun c4252 => ?_)
                          · exact absurd c4252 (by decide)
                          · refine lv_aload_n hx hb dX6_become_27 rfl (lv_at hl 1 rfl) ?_
                            refine va_get (D := D) (ci := 6) (v := .ref h1) (C := RX6) (T := TX6) (N := 3) hx hb hts hin6 hown hK hP 0 rfl rfl 0 (by decide) (hts (.fieldLink RX6 9 "MissedPoints$Sheet" "numbers" "[I") (by decide +kernel)) (fun _ h9 => h9) rfl dX6_become_28 ?_
                            refine lv_iload_n hx hb dX6_become_31 rfl (lv_at hl 0 rfl) ?_
                            refine lv_iconst (v := 0) hx hb dX6_become_32 (by decide) ?_
                            refine lz_astc hx hb hK hP hD hS 1 0 rfl rfl (lz_vp (x := 12) (n := 40) (by decide) (by decide)) dX6_become_33 (fun H locs hP hD hS => ?_)
                            refine lv_iinc (v := 13) (lv' := [(3, .int 13), (0, .ref h0), (1, .int 1), (2, .int x0)]) hx hb dX6_become_34 hl (k := 0) rfl (by decide) (by decide) rfl (fun ls hl => ?_)
                            refine lv_goto (tgt := 21) hx hb dX6_become_37 (by decide) ?_
                            refine lv_iload_n hx hb dX6_become_21 rfl (lv_at hl 0 rfl) ?_
                            refine lv_bipush (v := 40) hx hb dX6_become_22 (by decide) ?_
                            refine lv_icmp_ge (tgt := 40) hx hb dX6_become_24 (by decide) (fun c4253 => ?_) (fun c4253 => ?_)
                            · exact absurd c4253 (by decide)
                            · refine lv_aload_n hx hb dX6_become_27 rfl (lv_at hl 1 rfl) ?_
                              refine va_get (D := D) (ci := 6) (v := .ref h1) (C := RX6) (T := TX6) (N := 3) hx hb hts hin6 hown hK hP 0 rfl rfl 0 (by decide) (hts (.fieldLink RX6 9 "MissedPoints$Sheet" "numbers" "[I") (by decide +kernel)) (fun _ h9 => h9) rfl dX6_become_28 ?_
                              refine lv_iload_n hx hb dX6_become_31 rfl (lv_at hl 0 rfl) ?_
                              refine lv_iconst (v := 0) hx hb dX6_become_32 (by decide) ?_
                              refine lz_astc hx hb hK hP hD hS 1 0 rfl rfl (lz_vp (x := 13) (n := 40) (by decide) (by decide)) dX6_become_33 (fun H locs hP hD hS => ?_)
                              refine lv_iinc (v := 14) (lv' := [(3, .int 14), (0, .ref h0), (1, .int 1), (2, .int x0)]) hx hb dX6_become_34 hl (k := 0) rfl (by decide) (by decide) rfl (fun ls hl => ?_)
                              refine lv_goto (tgt := 21) hx hb dX6_become_37 (by decide) ?_
                              refine lv_iload_n hx hb dX6_become_21 rfl (lv_at hl 0 rfl) ?_
                              refine lv_bipush (v := 40) hx hb dX6_become_22 (by decide) ?_
                              refine lv_icmp_ge (tgt := 40) hx hb dX6_become_24 (by decide) (fun c4254 => ?_) (fun c4254 => ?_)
                              · exact absurd c4254 (by decide)
                              · refine lv_aload_n hx hb dX6_become_27 rfl (lv_at hl 1 rfl) ?_
                                refine va_get (D := D) (ci := 6) (v := .ref h1) (C := RX6) (T := TX6) (N := 3) hx hb hts hin6 hown hK hP 0 rfl rfl 0 (by decide) (hts (.fieldLink RX6 9 "MissedPoints$Sheet" "numbers" "[I") (by decide +kernel)) (fun _ h9 => h9) rfl dX6_become_28 ?_
                                refine lv_iload_n hx hb dX6_become_31 rfl (lv_at hl 0 rfl) ?_
                                refine lv_iconst (v := 0) hx hb dX6_become_32 (by decide) ?_
                                refine lz_astc hx hb hK hP hD hS 1 0 rfl rfl (lz_vp (x := 14) (n := 40) (by decide) (by decide)) dX6_become_33 (fun H locs hP hD hS => ?_)
                                refine lv_iinc (v := 15) (lv' := [(3, .int 15), (0, .ref h0), (1, .int 1), (2, .int x0)]) hx hb dX6_become_34 hl (k := 0) rfl (by decide) (by decide) rfl (fun ls hl => ?_)
                                refine lv_goto (tgt := 21) hx hb dX6_become_37 (by decide) ?_
                                refine lv_iload_n hx hb dX6_become_21 rfl (lv_at hl 0 rfl) ?_
                                refine lv_bipush (v := 40) hx hb dX6_become_22 (by decide) ?_
                                refine lv_icmp_ge (tgt := 40) hx hb dX6_become_24 (by decide) (fun c4255 => ?_) (fun c4255 => ?_)
                                · exact absurd c4255 (by decide)
                                · refine lv_aload_n hx hb dX6_become_27 rfl (lv_at hl 1 rfl) ?_
                                  refine va_get (D := D) (ci := 6) (v := .ref h1) (C := RX6) (T := TX6) (N := 3) hx hb hts hin6 hown hK hP 0 rfl rfl 0 (by decide) (hts (.fieldLink RX6 9 "MissedPoints$Sheet" "numbers" "[I") (by decide +kernel)) (fun _ h9 => h9) rfl dX6_become_28 ?_
                                  refine lv_iload_n hx hb dX6_become_31 rfl (lv_at hl 0 rfl) ?_
                                  refine lv_iconst (v := 0) hx hb dX6_become_32 (by decide) ?_
                                  refine lz_astc hx hb hK hP hD hS 1 0 rfl rfl (lz_vp (x := 15) (n := 40) (by decide) (by decide)) dX6_become_33 (fun H locs hP hD hS => ?_)
                                  refine lv_iinc (v := 16) (lv' := [(3, .int 16), (0, .ref h0), (1, .int 1), (2, .int x0)]) hx hb dX6_become_34 hl (k := 0) rfl (by decide) (by decide) rfl (fun ls hl => ?_)
                                  refine lv_goto (tgt := 21) hx hb dX6_become_37 (by decide) ?_
                                  refine lv_iload_n hx hb dX6_become_21 rfl (lv_at hl 0 rfl) ?_
                                  refine lv_bipush (v := 40) hx hb dX6_become_22 (by decide) ?_
                                  refine lv_icmp_ge (tgt := 40) hx hb dX6_become_24 (by decide) (fun c4256 => ?_) (fun c4256 => ?_)
                                  · exact absurd c4256 (by decide)
                                  · refine lv_aload_n hx hb dX6_become_27 rfl (lv_at hl 1 rfl) ?_
                                    refine va_get (D := D) (ci := 6) (v := .ref h1) (C := RX6) (T := TX6) (N := 3) hx hb hts hin6 hown hK hP 0 rfl rfl 0 (by decide) (hts (.fieldLink RX6 9 "MissedPoints$Sheet" "numbers" "[I") (by decide +kernel)) (fun _ h9 => h9) rfl dX6_become_28 ?_
                                    refine lv_iload_n hx hb dX6_become_31 rfl (lv_at hl 0 rfl) ?_
                                    refine lv_iconst (v := 0) hx hb dX6_become_32 (by decide) ?_
                                    refine lz_astc hx hb hK hP hD hS 1 0 rfl rfl (lz_vp (x := 16) (n := 40) (by decide) (by decide)) dX6_become_33 (fun H locs hP hD hS => ?_)
                                    refine lv_iinc (v := 17) (lv' := [(3, .int 17), (0, .ref h0), (1, .int 1), (2, .int x0)]) hx hb dX6_become_34 hl (k := 0) rfl (by decide) (by decide) rfl (fun ls hl => ?_)
                                    refine lv_goto (tgt := 21) hx hb dX6_become_37 (by decide) ?_
                                    refine lv_iload_n hx hb dX6_become_21 rfl (lv_at hl 0 rfl) ?_
                                    refine lv_bipush (v := 40) hx hb dX6_become_22 (by decide) ?_
                                    refine lv_icmp_ge (tgt := 40) hx hb dX6_become_24 (by decide) (fun c4257 => ?_) (fun c4257 => ?_)
                                    · exact absurd c4257 (by decide)
                                    · refine lv_aload_n hx hb dX6_become_27 rfl (lv_at hl 1 rfl) ?_
                                      refine va_get (D := D) (ci := 6) (v := .ref h1) (C := RX6) (T := TX6) (N := 3) hx hb hts hin6 hown hK hP 0 rfl rfl 0 (by decide) (hts (.fieldLink RX6 9 "MissedPoints$Sheet" "numbers" "[I") (by decide +kernel)) (fun _ h9 => h9) rfl dX6_become_28 ?_
                                      refine lv_iload_n hx hb dX6_become_31 rfl (lv_at hl 0 rfl) ?_
                                      refine lv_iconst (v := 0) hx hb dX6_become_32 (by decide) ?_
                                      refine lz_astc hx hb hK hP hD hS 1 0 rfl rfl (lz_vp (x := 17) (n := 40) (by decide) (by decide)) dX6_become_33 (fun H locs hP hD hS => ?_)
                                      refine lv_iinc (v := 18) (lv' := [(3, .int 18), (0, .ref h0), (1, .int 1), (2, .int x0)]) hx hb dX6_become_34 hl (k := 0) rfl (by decide) (by decide) rfl (fun ls hl => ?_)
                                      refine lv_goto (tgt := 21) hx hb dX6_become_37 (by decide) ?_
                                      refine lv_iload_n hx hb dX6_become_21 rfl (lv_at hl 0 rfl) ?_
                                      refine lv_bipush (v := 40) hx hb dX6_become_22 (by decide) ?_
                                      refine lv_icmp_ge (tgt := 40) hx hb dX6_become_24 (by decide) (fun c4258 => ?_) (fun c4258 => ?_)
                                      · exact absurd c4258 (by decide)
                                      · refine lv_aload_n hx hb dX6_become_27 rfl (lv_at hl 1 rfl) ?_
                                        refine va_get (D := D) (ci := 6) (v := .ref h1) (C := RX6) (T := TX6) (N := 3) hx hb hts hin6 hown hK hP 0 rfl rfl 0 (by decide) (hts (.fieldLink RX6 9 "MissedPoints$Sheet" "numbers" "[I") (by decide +kernel)) (fun _ h9 => h9) rfl dX6_become_28 ?_
                                        refine lv_iload_n hx hb dX6_become_31 rfl (lv_at hl 0 rfl) ?_
                                        refine lv_iconst (v := 0) hx hb dX6_become_32 (by decide) ?_
                                        refine lz_astc hx hb hK hP hD hS 1 0 rfl rfl (lz_vp (x := 18) (n := 40) (by decide) (by decide)) dX6_become_33 (fun H locs hP hD hS => ?_)
                                        refine lv_iinc (v := 19) (lv' := [(3, .int 19), (0, .ref h0), (1, .int 1), (2, .int x0)]) hx hb dX6_become_34 hl (k := 0) rfl (by decide) (by decide) rfl (fun ls hl => ?_)
                                        refine lv_goto (tgt := 21) hx hb dX6_become_37 (by decide) ?_
                                        refine lv_iload_n hx hb dX6_become_21 rfl (lv_at hl 0 rfl) ?_
                                        refine lv_bipush (v := 40) hx hb dX6_become_22 (by decide) ?_
                                        refine lv_icmp_ge (tgt := 40) hx hb dX6_become_24 (by decide) (fun c4259 => ?_) (fun c4259 => ?_)
                                        · exact absurd c4259 (by decide)
                                        · refine lv_aload_n hx hb dX6_become_27 rfl (lv_at hl 1 rfl) ?_
                                          refine va_get (D := D) (ci := 6) (v := .ref h1) (C := RX6) (T := TX6) (N := 3) hx hb hts hin6 hown hK hP 0 rfl rfl 0 (by decide) (hts (.fieldLink RX6 9 "MissedPoints$Sheet" "numbers" "[I") (by decide +kernel)) (fun _ h9 => h9) rfl dX6_become_28 ?_
                                          refine lv_iload_n hx hb dX6_become_31 rfl (lv_at hl 0 rfl) ?_
                                          refine lv_iconst (v := 0) hx hb dX6_become_32 (by decide) ?_
                                          refine lz_astc hx hb hK hP hD hS 1 0 rfl rfl (lz_vp (x := 19) (n := 40) (by decide) (by decide)) dX6_become_33 (fun H locs hP hD hS => ?_)
                                          refine lv_iinc (v := 20) (lv' := [(3, .int 20), (0, .ref h0), (1, .int 1), (2, .int x0)]) hx hb dX6_become_34 hl (k := 0) rfl (by decide) (by decide) rfl (fun ls hl => ?_)
                                          refine lv_goto (tgt := 21) hx hb dX6_become_37 (by decide) ?_
                                          refine lv_iload_n hx hb dX6_become_21 rfl (lv_at hl 0 rfl) ?_
                                          refine lv_bipush (v := 40) hx hb dX6_become_22 (by decide) ?_
                                          refine lv_icmp_ge (tgt := 40) hx hb dX6_become_24 (by decide) (fun c4260 => ?_) (fun c4260 => ?_)
                                          · exact absurd c4260 (by decide)
                                          · refine lv_aload_n hx hb dX6_become_27 rfl (lv_at hl 1 rfl) ?_
                                            refine va_get (D := D) (ci := 6) (v := .ref h1) (C := RX6) (T := TX6) (N := 3) hx hb hts hin6 hown hK hP 0 rfl rfl 0 (by decide) (hts (.fieldLink RX6 9 "MissedPoints$Sheet" "numbers" "[I") (by decide +kernel)) (fun _ h9 => h9) rfl dX6_become_28 ?_
                                            refine lv_iload_n hx hb dX6_become_31 rfl (lv_at hl 0 rfl) ?_
                                            refine lv_iconst (v := 0) hx hb dX6_become_32 (by decide) ?_
                                            refine lz_astc hx hb hK hP hD hS 1 0 rfl rfl (lz_vp (x := 20) (n := 40) (by decide) (by decide)) dX6_become_33 (fun H locs hP hD hS => ?_)
                                            refine lv_iinc (v := 21) (lv' := [(3, .int 21), (0, .ref h0), (1, .int 1), (2, .int x0)]) hx hb dX6_become_34 hl (k := 0) rfl (by decide) (by decide) rfl (fun ls hl => ?_)
                                            refine lv_goto (tgt := 21) hx hb dX6_become_37 (by decide) ?_
                                            refine lv_iload_n hx hb dX6_become_21 rfl (lv_at hl 0 rfl) ?_
                                            refine lv_bipush (v := 40) hx hb dX6_become_22 (by decide) ?_
                                            refine lv_icmp_ge (tgt := 40) hx hb dX6_become_24 (by decide) (fun c4261 => ?_) (fun c4261 => ?_)
                                            · exact absurd c4261 (by decide)
                                            · refine lv_aload_n hx hb dX6_become_27 rfl (lv_at hl 1 rfl) ?_
                                              refine va_get (D := D) (ci := 6) (v := .ref h1) (C := RX6) (T := TX6) (N := 3) hx hb hts hin6 hown hK hP 0 rfl rfl 0 (by decide) (hts (.fieldLink RX6 9 "MissedPoints$Sheet" "numbers" "[I") (by decide +kernel)) (fun _ h9 => h9) rfl dX6_become_28 ?_
                                              refine lv_iload_n hx hb dX6_become_31 rfl (lv_at hl 0 rfl) ?_
                                              refine lv_iconst (v := 0) hx hb dX6_become_32 (by decide) ?_
                                              refine lz_astc hx hb hK hP hD hS 1 0 rfl rfl (lz_vp (x := 21) (n := 40) (by decide) (by decide)) dX6_become_33 (fun H locs hP hD hS => ?_)
                                              refine lv_iinc (v := 22) (lv' := [(3, .int 22), (0, .ref h0), (1, .int 1), (2, .int x0)]) hx hb dX6_become_34 hl (k := 0) rfl (by decide) (by decide) rfl (fun ls hl => ?_)
                                              refine lv_goto (tgt := 21) hx hb dX6_become_37 (by decide) ?_
                                              refine lv_iload_n hx hb dX6_become_21 rfl (lv_at hl 0 rfl) ?_
                                              refine lv_bipush (v := 40) hx hb dX6_become_22 (by decide) ?_
                                              refine lv_icmp_ge (tgt := 40) hx hb dX6_become_24 (by decide) (fun c4262 => ?_) (fun c4262 => ?_)
                                              · exact absurd c4262 (by decide)
                                              · refine lv_aload_n hx hb dX6_become_27 rfl (lv_at hl 1 rfl) ?_
                                                refine va_get (D := D) (ci := 6) (v := .ref h1) (C := RX6) (T := TX6) (N := 3) hx hb hts hin6 hown hK hP 0 rfl rfl 0 (by decide) (hts (.fieldLink RX6 9 "MissedPoints$Sheet" "numbers" "[I") (by decide +kernel)) (fun _ h9 => h9) rfl dX6_become_28 ?_
                                                refine lv_iload_n hx hb dX6_become_31 rfl (lv_at hl 0 rfl) ?_
                                                refine lv_iconst (v := 0) hx hb dX6_become_32 (by decide) ?_
                                                refine lz_astc hx hb hK hP hD hS 1 0 rfl rfl (lz_vp (x := 22) (n := 40) (by decide) (by decide)) dX6_become_33 (fun H locs hP hD hS => ?_)
                                                refine lv_iinc (v := 23) (lv' := [(3, .int 23), (0, .ref h0), (1, .int 1), (2, .int x0)]) hx hb dX6_become_34 hl (k := 0) rfl (by decide) (by decide) rfl (fun ls hl => ?_)
                                                refine lv_goto (tgt := 21) hx hb dX6_become_37 (by decide) ?_
                                                refine lv_iload_n hx hb dX6_become_21 rfl (lv_at hl 0 rfl) ?_
                                                refine lv_bipush (v := 40) hx hb dX6_become_22 (by decide) ?_
                                                refine lv_icmp_ge (tgt := 40) hx hb dX6_become_24 (by decide) (fun c4263 => ?_) (fun c4263 => ?_)
                                                · exact absurd c4263 (by decide)
                                                · refine lv_aload_n hx hb dX6_become_27 rfl (lv_at hl 1 rfl) ?_
                                                  refine va_get (D := D) (ci := 6) (v := .ref h1) (C := RX6) (T := TX6) (N := 3) hx hb hts hin6 hown hK hP 0 rfl rfl 0 (by decide) (hts (.fieldLink RX6 9 "MissedPoints$Sheet" "numbers" "[I") (by decide +kernel)) (fun _ h9 => h9) rfl dX6_become_28 ?_
                                                  refine lv_iload_n hx hb dX6_become_31 rfl (lv_at hl 0 rfl) ?_
                                                  refine lv_iconst (v := 0) hx hb dX6_become_32 (by decide) ?_
                                                  refine lz_astc hx hb hK hP hD hS 1 0 rfl rfl (lz_vp (x := 23) (n := 40) (by decide) (by decide)) dX6_become_33 (fun H locs hP hD hS => ?_)
                                                  refine lv_iinc (v := 24) (lv' := [(3, .int 24), (0, .ref h0), (1, .int 1), (2, .int x0)]) hx hb dX6_become_34 hl (k := 0) rfl (by decide) (by decide) rfl (fun ls hl => ?_)
                                                  refine lv_goto (tgt := 21) hx hb dX6_become_37 (by decide) ?_
                                                  refine lv_iload_n hx hb dX6_become_21 rfl (lv_at hl 0 rfl) ?_
                                                  refine lv_bipush (v := 40) hx hb dX6_become_22 (by decide) ?_
                                                  refine lv_icmp_ge (tgt := 40) hx hb dX6_become_24 (by decide) (fun c4264 => ?_) (fun c4264 => ?_)
                                                  · exact absurd c4264 (by decide)
                                                  · refine lv_aload_n hx hb dX6_become_27 rfl (lv_at hl 1 rfl) ?_
                                                    refine va_get (D := D) (ci := 6) (v := .ref h1) (C := RX6) (T := TX6) (N := 3) hx hb hts hin6 hown hK hP 0 rfl rfl 0 (by decide) (hts (.fieldLink RX6 9 "MissedPoints$Sheet" "numbers" "[I") (by decide +kernel)) (fun _ h9 => h9) rfl dX6_become_28 ?_
                                                    refine lv_iload_n hx hb dX6_become_31 rfl (lv_at hl 0 rfl) ?_
                                                    refine lv_iconst (v := 0) hx hb dX6_become_32 (by decide) ?_
                                                    refine lz_astc hx hb hK hP hD hS 1 0 rfl rfl (lz_vp (x := 24) (n := 40) (by decide) (by decide)) dX6_become_33 (fun H locs hP hD hS => ?_)
                                                    refine lv_iinc (v := 25) (lv' := [(3, .int 25), (0, .ref h0), (1, .int 1), (2, .int x0)]) hx hb dX6_become_34 hl (k := 0) rfl (by decide) (by decide) rfl (fun ls hl => ?_)
                                                    refine lv_goto (tgt := 21) hx hb dX6_become_37 (by decide) ?_
                                                    refine lv_iload_n hx hb dX6_become_21 rfl (lv_at hl 0 rfl) ?_
                                                    refine lv_bipush (v := 40) hx hb dX6_become_22 (by decide) ?_
                                                    refine lv_icmp_ge (tgt := 40) hx hb dX6_become_24 (by decide) (fun c4265 => ?_) (fun c4265 => ?_)
                                                    · exact absurd c4265 (by decide)
                                                    · refine lv_aload_n hx hb dX6_become_27 rfl (lv_at hl 1 rfl) ?_
                                                      refine va_get (D := D) (ci := 6) (v := .ref h1) (C := RX6) (T := TX6) (N := 3) hx hb hts hin6 hown hK hP 0 rfl rfl 0 (by decide) (hts (.fieldLink RX6 9 "MissedPoints$Sheet" "numbers" "[I") (by decide +kernel)) (fun _ h9 => h9) rfl dX6_become_28 ?_
                                                      refine lv_iload_n hx hb dX6_become_31 rfl (lv_at hl 0 rfl) ?_
                                                      refine lv_iconst (v := 0) hx hb dX6_become_32 (by decide) ?_
                                                      refine lz_astc hx hb hK hP hD hS 1 0 rfl rfl (lz_vp (x := 25) (n := 40) (by decide) (by decide)) dX6_become_33 (fun H locs hP hD hS => ?_)
                                                      refine lv_iinc (v := 26) (lv' := [(3, .int 26), (0, .ref h0), (1, .int 1), (2, .int x0)]) hx hb dX6_become_34 hl (k := 0) rfl (by decide) (by decide) rfl (fun ls hl => ?_)
                                                      refine lv_goto (tgt := 21) hx hb dX6_become_37 (by decide) ?_
                                                      refine lv_iload_n hx hb dX6_become_21 rfl (lv_at hl 0 rfl) ?_
                                                      refine lv_bipush (v := 40) hx hb dX6_become_22 (by decide) ?_
                                                      refine lv_icmp_ge (tgt := 40) hx hb dX6_become_24 (by decide) (fun c4266 => ?_) (fun c4266 => ?_)
                                                      · exact absurd c4266 (by decide)
                                                      · refine lv_aload_n hx hb dX6_become_27 rfl (lv_at hl 1 rfl) ?_
                                                        refine va_get (D := D) (ci := 6) (v := .ref h1) (C := RX6) (T := TX6) (N := 3) hx hb hts hin6 hown hK hP 0 rfl rfl 0 (by decide) (hts (.fieldLink RX6 9 "MissedPoints$Sheet" "numbers" "[I") (by decide +kernel)) (fun _ h9 => h9) rfl dX6_become_28 ?_
                                                        refine lv_iload_n hx hb dX6_become_31 rfl (lv_at hl 0 rfl) ?_
                                                        refine lv_iconst (v := 0) hx hb dX6_become_32 (by decide) ?_
                                                        refine lz_astc hx hb hK hP hD hS 1 0 rfl rfl (lz_vp (x := 26) (n := 40) (by decide) (by decide)) dX6_become_33 (fun H locs hP hD hS => ?_)
                                                        refine lv_iinc (v := 27) (lv' := [(3, .int 27), (0, .ref h0), (1, .int 1), (2, .int x0)]) hx hb dX6_become_34 hl (k := 0) rfl (by decide) (by decide) rfl (fun ls hl => ?_)
                                                        refine lv_goto (tgt := 21) hx hb dX6_become_37 (by decide) ?_
                                                        refine lv_iload_n hx hb dX6_become_21 rfl (lv_at hl 0 rfl) ?_
                                                        refine lv_bipush (v := 40) hx hb dX6_become_22 (by decide) ?_
                                                        refine lv_icmp_ge (tgt := 40) hx hb dX6_become_24 (by decide) (fun c4267 => ?_) (fun c4267 => ?_)
                                                        · exact absurd c4267 (by decide)
                                                        · refine lv_aload_n hx hb dX6_become_27 rfl (lv_at hl 1 rfl) ?_
                                                          refine va_get (D := D) (ci := 6) (v := .ref h1) (C := RX6) (T := TX6) (N := 3) hx hb hts hin6 hown hK hP 0 rfl rfl 0 (by decide) (hts (.fieldLink RX6 9 "MissedPoints$Sheet" "numbers" "[I") (by decide +kernel)) (fun _ h9 => h9) rfl dX6_become_28 ?_
                                                          refine lv_iload_n hx hb dX6_become_31 rfl (lv_at hl 0 rfl) ?_
                                                          refine lv_iconst (v := 0) hx hb dX6_become_32 (by decide) ?_
                                                          refine lz_astc hx hb hK hP hD hS 1 0 rfl rfl (lz_vp (x := 27) (n := 40) (by decide) (by decide)) dX6_become_33 (fun H locs hP hD hS => ?_)
                                                          refine lv_iinc (v := 28) (lv' := [(3, .int 28), (0, .ref h0), (1, .int 1), (2, .int x0)]) hx hb dX6_become_34 hl (k := 0) rfl (by decide) (by decide) rfl (fun ls hl => ?_)
                                                          refine lv_goto (tgt := 21) hx hb dX6_become_37 (by decide) ?_
                                                          refine lv_iload_n hx hb dX6_become_21 rfl (lv_at hl 0 rfl) ?_
                                                          refine lv_bipush (v := 40) hx hb dX6_become_22 (by decide) ?_
                                                          refine lv_icmp_ge (tgt := 40) hx hb dX6_become_24 (by decide) (fun c4268 => ?_) (fun c4268 => ?_)
                                                          · exact absurd c4268 (by decide)
                                                          · refine lv_aload_n hx hb dX6_become_27 rfl (lv_at hl 1 rfl) ?_
                                                            refine va_get (D := D) (ci := 6) (v := .ref h1) (C := RX6) (T := TX6) (N := 3) hx hb hts hin6 hown hK hP 0 rfl rfl 0 (by decide) (hts (.fieldLink RX6 9 "MissedPoints$Sheet" "numbers" "[I") (by decide +kernel)) (fun _ h9 => h9) rfl dX6_become_28 ?_
                                                            refine lv_iload_n hx hb dX6_become_31 rfl (lv_at hl 0 rfl) ?_
                                                            refine lv_iconst (v := 0) hx hb dX6_become_32 (by decide) ?_
                                                            refine lz_astc hx hb hK hP hD hS 1 0 rfl rfl (lz_vp (x := 28) (n := 40) (by decide) (by decide)) dX6_become_33 (fun H locs hP hD hS => ?_)
                                                            refine lv_iinc (v := 29) (lv' := [(3, .int 29), (0, .ref h0), (1, .int 1), (2, .int x0)]) hx hb dX6_become_34 hl (k := 0) rfl (by decide) (by decide) rfl (fun ls hl => ?_)
                                                            refine lv_goto (tgt := 21) hx hb dX6_become_37 (by decide) ?_
                                                            refine lv_iload_n hx hb dX6_become_21 rfl (lv_at hl 0 rfl) ?_
                                                            refine lv_bipush (v := 40) hx hb dX6_become_22 (by decide) ?_
                                                            refine lv_icmp_ge (tgt := 40) hx hb dX6_become_24 (by decide) (fun c4269 => ?_) (fun c4269 => ?_)
                                                            · exact absurd c4269 (by decide)
                                                            · refine lv_aload_n hx hb dX6_become_27 rfl (lv_at hl 1 rfl) ?_
                                                              refine va_get (D := D) (ci := 6) (v := .ref h1) (C := RX6) (T := TX6) (N := 3) hx hb hts hin6 hown hK hP 0 rfl rfl 0 (by decide) (hts (.fieldLink RX6 9 "MissedPoints$Sheet" "numbers" "[I") (by decide +kernel)) (fun _ h9 => h9) rfl dX6_become_28 ?_
                                                              refine lv_iload_n hx hb dX6_become_31 rfl (lv_at hl 0 rfl) ?_
                                                              refine lv_iconst (v := 0) hx hb dX6_become_32 (by decide) ?_
                                                              refine lz_astc hx hb hK hP hD hS 1 0 rfl rfl (lz_vp (x := 29) (n := 40) (by decide) (by decide)) dX6_become_33 (fun H locs hP hD hS => ?_)
                                                              refine lv_iinc (v := 30) (lv' := [(3, .int 30), (0, .ref h0), (1, .int 1), (2, .int x0)]) hx hb dX6_become_34 hl (k := 0) rfl (by decide) (by decide) rfl (fun ls hl => ?_)
                                                              refine lv_goto (tgt := 21) hx hb dX6_become_37 (by decide) ?_
                                                              refine lv_iload_n hx hb dX6_become_21 rfl (lv_at hl 0 rfl) ?_
                                                              refine lv_bipush (v := 40) hx hb dX6_become_22 (by decide) ?_
                                                              refine lv_icmp_ge (tgt := 40) hx hb dX6_become_24 (by decide) (fun c4270 => ?_) (fun c4270 => ?_)
                                                              · exact absurd c4270 (by decide)
                                                              · refine lv_aload_n hx hb dX6_become_27 rfl (lv_at hl 1 rfl) ?_
                                                                refine va_get (D := D) (ci := 6) (v := .ref h1) (C := RX6) (T := TX6) (N := 3) hx hb hts hin6 hown hK hP 0 rfl rfl 0 (by decide) (hts (.fieldLink RX6 9 "MissedPoints$Sheet" "numbers" "[I") (by decide +kernel)) (fun _ h9 => h9) rfl dX6_become_28 ?_
                                                                refine lv_iload_n hx hb dX6_become_31 rfl (lv_at hl 0 rfl) ?_
                                                                refine lv_iconst (v := 0) hx hb dX6_become_32 (by decide) ?_
                                                                refine lz_astc hx hb hK hP hD hS 1 0 rfl rfl (lz_vp (x := 30) (n := 40) (by decide) (by decide)) dX6_become_33 (fun H locs hP hD hS => ?_)
                                                                refine lv_iinc (v := 31) (lv' := [(3, .int 31), (0, .ref h0), (1, .int 1), (2, .int x0)]) hx hb dX6_become_34 hl (k := 0) rfl (by decide) (by decide) rfl (fun ls hl => ?_)
                                                                refine lv_goto (tgt := 21) hx hb dX6_become_37 (by decide) ?_
                                                                refine lv_iload_n hx hb dX6_become_21 rfl (lv_at hl 0 rfl) ?_
                                                                refine lv_bipush (v := 40) hx hb dX6_become_22 (by decide) ?_
                                                                refine lv_icmp_ge (tgt := 40) hx hb dX6_become_24 (by decide) (fun c4271 => ?_) (fun c4271 => ?_)
                                                                · exact absurd c4271 (by decide)
                                                                · refine lv_aload_n hx hb dX6_become_27 rfl (lv_at hl 1 rfl) ?_
                                                                  refine va_get (D := D) (ci := 6) (v := .ref h1) (C := RX6) (T := TX6) (N := 3) hx hb hts hin6 hown hK hP 0 rfl rfl 0 (by decide) (hts (.fieldLink RX6 9 "MissedPoints$Sheet" "numbers" "[I") (by decide +kernel)) (fun _ h9 => h9) rfl dX6_become_28 ?_
                                                                  refine lv_iload_n hx hb dX6_become_31 rfl (lv_at hl 0 rfl) ?_
                                                                  refine lv_iconst (v := 0) hx hb dX6_become_32 (by decide) ?_
                                                                  refine lz_astc hx hb hK hP hD hS 1 0 rfl rfl (lz_vp (x := 31) (n := 40) (by decide) (by decide)) dX6_become_33 (fun H locs hP hD hS => ?_)
                                                                  refine lv_iinc (v := 32) (lv' := [(3, .int 32), (0, .ref h0), (1, .int 1), (2, .int x0)]) hx hb dX6_become_34 hl (k := 0) rfl (by decide) (by decide) rfl (fun ls hl => ?_)
                                                                  refine lv_goto (tgt := 21) hx hb dX6_become_37 (by decide) ?_
                                                                  refine lv_iload_n hx hb dX6_become_21 rfl (lv_at hl 0 rfl) ?_
                                                                  refine lv_bipush (v := 40) hx hb dX6_become_22 (by decide) ?_
                                                                  refine lv_icmp_ge (tgt := 40) hx hb dX6_become_24 (by decide) (fun c4272 => ?_) (fun c4272 => ?_)
                                                                  · exact absurd c4272 (by decide)
                                                                  · refine lv_aload_n hx hb dX6_become_27 rfl (lv_at hl 1 rfl) ?_
                                                                    refine va_get (D := D) (ci := 6) (v := .ref h1) (C := RX6) (T := TX6) (N := 3) hx hb hts hin6 hown hK hP 0 rfl rfl 0 (by decide) (hts (.fieldLink RX6 9 "MissedPoints$Sheet" "numbers" "[I") (by decide +kernel)) (fun _ h9 => h9) rfl dX6_become_28 ?_
                                                                    refine lv_iload_n hx hb dX6_become_31 rfl (lv_at hl 0 rfl) ?_
                                                                    refine lv_iconst (v := 0) hx hb dX6_become_32 (by decide) ?_
                                                                    refine lz_astc hx hb hK hP hD hS 1 0 rfl rfl (lz_vp (x := 32) (n := 40) (by decide) (by decide)) dX6_become_33 (fun H locs hP hD hS => ?_)
                                                                    refine lv_iinc (v := 33) (lv' := [(3, .int 33), (0, .ref h0), (1, .int 1), (2, .int x0)]) hx hb dX6_become_34 hl (k := 0) rfl (by decide) (by decide) rfl (fun ls hl => ?_)
                                                                    refine lv_goto (tgt := 21) hx hb dX6_become_37 (by decide) ?_
                                                                    refine lv_iload_n hx hb dX6_become_21 rfl (lv_at hl 0 rfl) ?_
                                                                    refine lv_bipush (v := 40) hx hb dX6_become_22 (by decide) ?_
                                                                    refine lv_icmp_ge (tgt := 40) hx hb dX6_become_24 (by decide) (fun c4273 => ?_) (fun c4273 => ?_)
                                                                    · exact absurd c4273 (by decide)
                                                                    · refine lv_aload_n hx hb dX6_become_27 rfl (lv_at hl 1 rfl) ?_
                                                                      refine va_get (D := D) (ci := 6) (v := .ref h1) (C := RX6) (T := TX6) (N := 3) hx hb hts hin6 hown hK hP 0 rfl rfl 0 (by decide) (hts (.fieldLink RX6 9 "MissedPoints$Sheet" "numbers" "[I") (by decide +kernel)) (fun _ h9 => h9) rfl dX6_become_28 ?_
                                                                      refine lv_iload_n hx hb dX6_become_31 rfl (lv_at hl 0 rfl) ?_
                                                                      refine lv_iconst (v := 0) hx hb dX6_become_32 (by decide) ?_
                                                                      refine lz_astc hx hb hK hP hD hS 1 0 rfl rfl (lz_vp (x := 33) (n := 40) (by decide) (by decide)) dX6_become_33 (fun H locs hP hD hS => ?_)
                                                                      refine lv_iinc (v := 34) (lv' := [(3, .int 34), (0, .ref h0), (1, .int 1), (2, .int x0)]) hx hb dX6_become_34 hl (k := 0) rfl (by decide) (by decide) rfl (fun ls hl => ?_)
                                                                      refine lv_goto (tgt := 21) hx hb dX6_become_37 (by decide) ?_
                                                                      refine lv_iload_n hx hb dX6_become_21 rfl (lv_at hl 0 rfl) ?_
                                                                      refine lv_bipush (v := 40) hx hb dX6_become_22 (by decide) ?_
                                                                      refine lv_icmp_ge (tgt := 40) hx hb dX6_become_24 (by decide) (fun c4274 => ?_) (fun c4274 => ?_)
                                                                      · exact absurd c4274 (by decide)
                                                                      · refine lv_aload_n hx hb dX6_become_27 rfl (lv_at hl 1 rfl) ?_
                                                                        refine va_get (D := D) (ci := 6) (v := .ref h1) (C := RX6) (T := TX6) (N := 3) hx hb hts hin6 hown hK hP 0 rfl rfl 0 (by decide) (hts (.fieldLink RX6 9 "MissedPoints$Sheet" "numbers" "[I") (by decide +kernel)) (fun _ h9 => h9) rfl dX6_become_28 ?_
                                                                        refine lv_iload_n hx hb dX6_become_31 rfl (lv_at hl 0 rfl) ?_
                                                                        refine lv_iconst (v := 0) hx hb dX6_become_32 (by decide) ?_
                                                                        refine lz_astc hx hb hK hP hD hS 1 0 rfl rfl (lz_vp (x := 34) (n := 40) (by decide) (by decide)) dX6_become_33 (fun H locs hP hD hS => ?_)
                                                                        refine lv_iinc (v := 35) (lv' := [(3, .int 35), (0, .ref h0), (1, .int 1), (2, .int x0)]) hx hb dX6_become_34 hl (k := 0) rfl (by decide) (by decide) rfl (fun ls hl => ?_)
                                                                        refine lv_goto (tgt := 21) hx hb dX6_become_37 (by decide) ?_
                                                                        refine lv_iload_n hx hb dX6_become_21 rfl (lv_at hl 0 rfl) ?_
                                                                        refine lv_bipush (v := 40) hx hb dX6_become_22 (by decide) ?_
                                                                        refine lv_icmp_ge (tgt := 40) hx hb dX6_become_24 (by decide) (fun c4275 => ?_) (fun c4275 => ?_)
                                                                        · exact absurd c4275 (by decide)
                                                                        · refine lv_aload_n hx hb dX6_become_27 rfl (lv_at hl 1 rfl) ?_
                                                                          refine va_get (D := D) (ci := 6) (v := .ref h1) (C := RX6) (T := TX6) (N := 3) hx hb hts hin6 hown hK hP 0 rfl rfl 0 (by decide) (hts (.fieldLink RX6 9 "MissedPoints$Sheet" "numbers" "[I") (by decide +kernel)) (fun _ h9 => h9) rfl dX6_become_28 ?_
                                                                          refine lv_iload_n hx hb dX6_become_31 rfl (lv_at hl 0 rfl) ?_
                                                                          refine lv_iconst (v := 0) hx hb dX6_become_32 (by decide) ?_
                                                                          refine lz_astc hx hb hK hP hD hS 1 0 rfl rfl (lz_vp (x := 35) (n := 40) (by decide) (by decide)) dX6_become_33 (fun H locs hP hD hS => ?_)
                                                                          refine lv_iinc (v := 36) (lv' := [(3, .int 36), (0, .ref h0), (1, .int 1), (2, .int x0)]) hx hb dX6_become_34 hl (k := 0) rfl (by decide) (by decide) rfl (fun ls hl => ?_)
                                                                          refine lv_goto (tgt := 21) hx hb dX6_become_37 (by decide) ?_
                                                                          refine lv_iload_n hx hb dX6_become_21 rfl (lv_at hl 0 rfl) ?_
                                                                          refine lv_bipush (v := 40) hx hb dX6_become_22 (by decide) ?_
                                                                          refine lv_icmp_ge (tgt := 40) hx hb dX6_become_24 (by decide) (fun c4276 => ?_) (fun c4276 => ?_)
                                                                          · exact absurd c4276 (by decide)
                                                                          · refine lv_aload_n hx hb dX6_become_27 rfl (lv_at hl 1 rfl) ?_
                                                                            refine va_get (D := D) (ci := 6) (v := .ref h1) (C := RX6) (T := TX6) (N := 3) hx hb hts hin6 hown hK hP 0 rfl rfl 0 (by decide) (hts (.fieldLink RX6 9 "MissedPoints$Sheet" "numbers" "[I") (by decide +kernel)) (fun _ h9 => h9) rfl dX6_become_28 ?_
                                                                            refine lv_iload_n hx hb dX6_become_31 rfl (lv_at hl 0 rfl) ?_
                                                                            refine lv_iconst (v := 0) hx hb dX6_become_32 (by decide) ?_
                                                                            refine lz_astc hx hb hK hP hD hS 1 0 rfl rfl (lz_vp (x := 36) (n := 40) (by decide) (by decide)) dX6_become_33 (fun H locs hP hD hS => ?_)
                                                                            refine lv_iinc (v := 37) (lv' := [(3, .int 37), (0, .ref h0), (1, .int 1), (2, .int x0)]) hx hb dX6_become_34 hl (k := 0) rfl (by decide) (by decide) rfl (fun ls hl => ?_)
                                                                            refine lv_goto (tgt := 21) hx hb dX6_become_37 (by decide) ?_
                                                                            refine lv_iload_n hx hb dX6_become_21 rfl (lv_at hl 0 rfl) ?_
                                                                            refine lv_bipush (v := 40) hx hb dX6_become_22 (by decide) ?_
                                                                            refine lv_icmp_ge (tgt := 40) hx hb dX6_become_24 (by decide) (fun c4277 => ?_) (fun c4277 => ?_)
                                                                            · exact absurd c4277 (by decide)
                                                                            · refine lv_aload_n hx hb dX6_become_27 rfl (lv_at hl 1 rfl) ?_
                                                                              refine va_get (D := D) (ci := 6) (v := .ref h1) (C := RX6) (T := TX6) (N := 3) hx hb hts hin6 hown hK hP 0 rfl rfl 0 (by decide) (hts (.fieldLink RX6 9 "MissedPoints$Sheet" "numbers" "[I") (by decide +kernel)) (fun _ h9 => h9) rfl dX6_become_28 ?_
                                                                              refine lv_iload_n hx hb dX6_become_31 rfl (lv_at hl 0 rfl) ?_
                                                                              refine lv_iconst (v := 0) hx hb dX6_become_32 (by decide) ?_
                                                                              refine lz_astc hx hb hK hP hD hS 1 0 rfl rfl (lz_vp (x := 37) (n := 40) (by decide) (by decide)) dX6_become_33 (fun H locs hP hD hS => ?_)
                                                                              refine lv_iinc (v := 38) (lv' := [(3, .int 38), (0, .ref h0), (1, .int 1), (2, .int x0)]) hx hb dX6_become_34 hl (k := 0) rfl (by decide) (by decide) rfl (fun ls hl => ?_)
                                                                              refine lv_goto (tgt := 21) hx hb dX6_become_37 (by decide) ?_
                                                                              refine lv_iload_n hx hb dX6_become_21 rfl (lv_at hl 0 rfl) ?_
                                                                              refine lv_bipush (v := 40) hx hb dX6_become_22 (by decide) ?_
                                                                              refine lv_icmp_ge (tgt := 40) hx hb dX6_become_24 (by decide) (fun c4278 => ?_) (fun c4278 => ?_)
                                                                              · exact absurd c4278 (by decide)
                                                                              · refine lv_aload_n hx hb dX6_become_27 rfl (lv_at hl 1 rfl) ?_
                                                                                refine va_get (D := D) (ci := 6) (v := .ref h1) (C := RX6) (T := TX6) (N := 3) hx hb hts hin6 hown hK hP 0 rfl rfl 0 (by decide) (hts (.fieldLink RX6 9 "MissedPoints$Sheet" "numbers" "[I") (by decide +kernel)) (fun _ h9 => h9) rfl dX6_become_28 ?_
                                                                                refine lv_iload_n hx hb dX6_become_31 rfl (lv_at hl 0 rfl) ?_
                                                                                refine lv_iconst (v := 0) hx hb dX6_become_32 (by decide) ?_
                                                                                refine lz_astc hx hb hK hP hD hS 1 0 rfl rfl (lz_vp (x := 38) (n := 40) (by decide) (by decide)) dX6_become_33 (fun H locs hP hD hS => ?_)
                                                                                refine lv_iinc (v := 39) (lv' := [(3, .int 39), (0, .ref h0), (1, .int 1), (2, .int x0)]) hx hb dX6_become_34 hl (k := 0) rfl (by decide) (by decide) rfl (fun ls hl => ?_)
                                                                                refine lv_goto (tgt := 21) hx hb dX6_become_37 (by decide) ?_
                                                                                refine lv_iload_n hx hb dX6_become_21 rfl (lv_at hl 0 rfl) ?_
                                                                                refine lv_bipush (v := 40) hx hb dX6_become_22 (by decide) ?_
                                                                                refine lv_icmp_ge (tgt := 40) hx hb dX6_become_24 (by decide) (fun c4279 => ?_) (fun c4279 => ?_)
                                                                                · exact absurd c4279 (by decide)
                                                                                · refine lv_aload_n hx hb dX6_become_27 rfl (lv_at hl 1 rfl) ?_
                                                                                  refine va_get (D := D) (ci := 6) (v := .ref h1) (C := RX6) (T := TX6) (N := 3) hx hb hts hin6 hown hK hP 0 rfl rfl 0 (by decide) (hts (.fieldLink RX6 9 "MissedPoints$Sheet" "numbers" "[I") (by decide +kernel)) (fun _ h9 => h9) rfl dX6_become_28 ?_
                                                                                  refine lv_iload_n hx hb dX6_become_31 rfl (lv_at hl 0 rfl) ?_
                                                                                  refine lv_iconst (v := 0) hx hb dX6_become_32 (by decide) ?_
                                                                                  refine lz_astc hx hb hK hP hD hS 1 0 rfl rfl (lz_vp (x := 39) (n := 40) (by decide) (by decide)) dX6_become_33 (fun H locs hP hD hS => ?_)
                                                                                  refine lv_iinc (v := 40) (lv' := [(3, .int 40), (0, .ref h0), (1, .int 1), (2, .int x0)]) hx hb dX6_become_34 hl (k := 0) rfl (by decide) (by decide) rfl (fun ls hl => ?_)
                                                                                  refine lv_goto (tgt := 21) hx hb dX6_become_37 (by decide) ?_
                                                                                  refine lv_iload_n hx hb dX6_become_21 rfl (lv_at hl 0 rfl) ?_
                                                                                  refine lv_bipush (v := 40) hx hb dX6_become_22 (by decide) ?_
                                                                                  refine lv_icmp_ge (tgt := 40) hx hb dX6_become_24 (by decide) (fun c4280 => ?_) (fun c4280 => ?_)
                                                                                  · have hP9 := hP.sub (ws' := [(h0, .inr (6, [.ref h1, .int 1, .int (if (0 : Int32) < (if (40 : Int32) < x0 then (40 : Int32) else x0) then (if (40 : Int32) < x0 then (40 : Int32) else x0) else (0 : Int32))])), (h1, .inl (cI, 40, .inl (fun _ => 0)))]) [0, 1] rfl
                                                                                    have hD9 := hD.sub (ws' := [(h0, .inr (6, [.ref h1, .int 1, .int (if (0 : Int32) < (if (40 : Int32) < x0 then (40 : Int32) else x0) then (if (40 : Int32) < x0 then (40 : Int32) else x0) else (0 : Int32))])), (h1, .inl (cI, 40, .inl (fun _ => 0)))]) [0, 1] (by decide) rfl
                                                                                    subst hAe
                                                                                    exact W.vret hx hb hr (fun t ht hW => ⟨⟨(), rfl, trivial, by rw [ht]; exact hP9, hD9⟩, hS.F ht⟩) hS.2.2 dX6_become_40
                                                                                  · exact absurd c4280 (by decide)
set_option maxHeartbeats 4000000 in
set_option maxRecDepth 100000 in
theorem c_X6_become_4 (l : Launch) (D : va_G) (cI cS : ClassId) (sz : Nat) (h0 h1 : Nat) : Met l yX6_become wsX6_become ({ frames := 1, cells := 0, slots := 0, locals := 40 }) (PQ D cI cS [(h0, .inr (6, [.ref h1, .int (-1), .int 0])), (h1, .inl (cI, 40, .inl (fun _ => 0)))] sz [.ref h0, .int (-1), .int 0]) (QV D [(h0, .inr (6, [.ref h1, .int (-1), .int 0])), (h1, .inl (cI, 40, .inl (fun _ => 0)))] [(h0, .inr (6, [.ref h1, .int (-1), .int 0])), (h1, .inl (cI, 40, .inl (fun _ => 0)))] sz) 0 0 (va_A [(h0, .inr (6, [.ref h1, .int (-1), .int 0])), (h1, .inl (cI, 40, .inl (fun _ => 0)))] sz) := by
  refine Met.ofW (cc := cX6_become) (maxL := 4) (ret := none) (by decide) rfl ?_
  intro p e s m args below meth c s₁ B hml hv
  obtain ⟨rfl, hsz, hP, hKK, hD0⟩ := hv
  have hx := B.exec
  have hb := B.bytes
  have hr := B.returns
  have hts := atoms_spec (ws := wsX6_become) B.pre
  have hown : s.vm.findClass RX6 = some m.cls := findClass_of_methodNamed B.named
  have hlocks := B.notSynchronized
  have hK := hKK.1
  have hN := hKK.2
  have hin6 : ∀ w ∈ wsX60, w ∈ wsX6_become := by decide +kernel
  subst hsz
  have hD := hD0.self (sz := s.heap.size)
  obtain ⟨A, hAe⟩ : ∃ A, A = va_A [(h0, .inr (6, [.ref h1, .int (-1), .int 0])), (h1, .inl (cI, 40, .inl (fun _ => 0)))] s.heap.size := ⟨_, rfl⟩
  rw [← hAe] at hD
  have hA : ∀ q : Nat, s.heap.size ≤ q → A q := fun q h => by rw [hAe]; exact Or.inr h
  have hS : va_S A s.heap s.heap [] := va_S.rf
  have hl := lv_entry ([.ref h0, .int (-1), .int 0]) (n := 4) (Nat.le_of_ble_eq_true rfl)
  rw [lg_entry_eq]
  generalize (lg_sl ([.ref h0, .int (-1), .int 0]) ++ List.replicate (4 - (lg_sl ([.ref h0, .int (-1), .int 0])).length) Slot.unset).toArray = ls at hl ⊢
  have hl : lv_has ls 4 [(0, .ref h0), (1, .int (-1)), (2, .int 0)] := hl
  refine lv_aload_n hx hb dX6_become_0 rfl (lv_at hl 0 rfl) ?_
  refine lv_iload_n hx hb dX6_become_1 rfl (lv_at hl 1 rfl) ?_
  refine va_put (D := D) (ci := 6) (v := .int (-1)) (ty := .int) (C := RX6) (T := TX6) (N := 3) hx hb hts hin6 tyX6 tyX6_ok nmX6 hown hK hP hD hS 0 rfl rfl 1 (by decide) (hts (.fieldLink RX6 15 "MissedPoints$Sheet" "sort" "I") (by decide +kernel)) (fun _ h9 => h9) rfl (by decide +kernel) rfl rfl (Nat.le_of_ble_eq_true rfl) dX6_become_2 (fun H locs hP hD hS => ?_)
  have hP : va_P D cls [(h0, .inr (6, [.ref h1, .int (-1), .int 0])), (h1, .inl (cI, 40, .inl (fun _ => 0)))] H := hP
  have hD : va_D A [(h0, .inr (6, [.ref h1, .int (-1), .int 0])), (h1, .inl (cI, 40, .inl (fun _ => 0)))] := hD
  refine lv_aload_n hx hb dX6_become_5 rfl (lv_at hl 0 rfl) ?_
  refine lv_iconst (v := 0) hx hb dX6_become_6 (by decide) ?_
  refine lv_iload_n hx hb dX6_become_7 rfl (lv_at hl 2 rfl) ?_
  refine lv_bipush (v := 40) hx hb dX6_become_8 (by decide) ?_
  refine va_mmin hx hb (by rw [hml]; exact hl.1.symm) hown (hts (.methodLink RX6 19 Lib.Math.min.name) (by decide +kernel)) (hts (.static Lib.Math.min.name) (by decide +kernel)) (hts (.initialized "java/lang/Math") (by decide +kernel)) (hts (.code Lib.Math.min.name Lib.Math.min.code 2 (some .int)) (by decide +kernel)) (Nat.le_of_ble_eq_true rfl) (Nat.le_of_ble_eq_true rfl) (Nat.le_of_ble_eq_true rfl) (Nat.le_of_ble_eq_true rfl) dX6_become_10 ?_
  refine lz_top (y := 0) (by decide) ?_
  refine va_mmax hx hb (by rw [hml]; exact hl.1.symm) hown (hts (.methodLink RX6 25 Lib.Math.max.name) (by decide +kernel)) (hts (.static Lib.Math.max.name) (by decide +kernel)) (hts (.initialized "java/lang/Math") (by decide +kernel)) (hts (.code Lib.Math.max.name Lib.Math.max.code 2 (some .int)) (by decide +kernel)) (Nat.le_of_ble_eq_true rfl) (Nat.le_of_ble_eq_true rfl) (Nat.le_of_ble_eq_true rfl) (Nat.le_of_ble_eq_true rfl) dX6_become_13 ?_
  refine lz_top (y := 0) (by decide) ?_
  refine va_put (D := D) (ci := 6) (v := .int 0) (ty := .int) (C := RX6) (T := TX6) (N := 3) hx hb hts hin6 tyX6 tyX6_ok nmX6 hown hK hP hD hS 0 rfl rfl 2 (by decide) (hts (.fieldLink RX6 28 "MissedPoints$Sheet" "size" "I") (by decide +kernel)) (fun _ h9 => h9) rfl (by decide +kernel) rfl rfl (Nat.le_of_ble_eq_true rfl) dX6_become_16 (fun H locs hP hD hS => ?_)
  have hP : va_P D cls [(h0, .inr (6, [.ref h1, .int (-1), .int 0])), (h1, .inl (cI, 40, .inl (fun _ => 0)))] H := hP
  have hD : va_D A [(h0, .inr (6, [.ref h1, .int (-1), .int 0])), (h1, .inl (cI, 40, .inl (fun _ => 0)))] := hD
  refine lv_iconst (v := 0) hx hb dX6_become_19 (by decide) ?_
  refine lv_istore_n (lv' := [(3, .int 0), (0, .ref h0), (1, .int (-1)), (2, .int 0)]) hx hb dX6_become_20 rfl hl (by decide) rfl (fun ls hl => ?_)
  refine lv_iload_n hx hb dX6_become_21 rfl (lv_at hl 0 rfl) ?_
  refine lv_bipush (v := 40) hx hb dX6_become_22 (by decide) ?_
  refine lv_icmp_ge (tgt := 40) hx hb dX6_become_24 (by decide) (fun c4330 => ?_) (fun c4330 => ?_)
  · exact absurd c4330 (by decide)
  · refine lv_aload_n hx hb dX6_become_27 rfl (lv_at hl 1 rfl) ?_
    refine va_get (D := D) (ci := 6) (v := .ref h1) (C := RX6) (T := TX6) (N := 3) hx hb hts hin6 hown hK hP 0 rfl rfl 0 (by decide) (hts (.fieldLink RX6 9 "MissedPoints$Sheet" "numbers" "[I") (by decide +kernel)) (fun _ h9 => h9) rfl dX6_become_28 ?_
    refine lv_iload_n hx hb dX6_become_31 rfl (lv_at hl 0 rfl) ?_
    refine lv_iconst (v := 0) hx hb dX6_become_32 (by decide) ?_
    refine lz_astc hx hb hK hP hD hS 1 0 rfl rfl (lz_vp (x := 0) (n := 40) (by decide) (by decide)) dX6_become_33 (fun H locs hP hD hS => ?_)
    refine lv_iinc (v := 1) (lv' := [(3, .int 1), (0, .ref h0), (1, .int (-1)), (2, .int 0)]) hx hb dX6_become_34 hl (k := 0) rfl (by decide) (by decide) rfl (fun ls hl => ?_)
    refine lv_goto (tgt := 21) hx hb dX6_become_37 (by decide) ?_
    refine lv_iload_n hx hb dX6_become_21 rfl (lv_at hl 0 rfl) ?_
    refine lv_bipush (v := 40) hx hb dX6_become_22 (by decide) ?_
    refine lv_icmp_ge (tgt := 40) hx hb dX6_become_24 (by decide) (fun c4331 => ?_) (fun c4331 => ?_)
    · exact absurd c4331 (by decide)
    · refine lv_aload_n hx hb dX6_become_27 rfl (lv_at hl 1 rfl) ?_
      refine va_get (D := D) (ci := 6) (v := .ref h1) (C := RX6) (T := TX6) (N := 3) hx hb hts hin6 hown hK hP 0 rfl rfl 0 (by decide) (hts (.fieldLink RX6 9 "MissedPoints$Sheet" "numbers" "[I") (by decide +kernel)) (fun _ h9 => h9) rfl dX6_become_28 ?_
      refine lv_iload_n hx hb dX6_become_31 rfl (lv_at hl 0 rfl) ?_
      refine lv_iconst (v := 0) hx hb dX6_become_32 (by decide) ?_
      refine lz_astc hx hb hK hP hD hS 1 0 rfl rfl (lz_vp (x := 1) (n := 40) (by decide) (by decide)) dX6_become_33 (fun H locs hP hD hS => ?_)
      refine lv_iinc (v := 2) (lv' := [(3, .int 2), (0, .ref h0), (1, .int (-1)), (2, .int 0)]) hx hb dX6_become_34 hl (k := 0) rfl (by decide) (by decide) rfl (fun ls hl => ?_)
      refine lv_goto (tgt := 21) hx hb dX6_become_37 (by decide) ?_
      refine lv_iload_n hx hb dX6_become_21 rfl (lv_at hl 0 rfl) ?_
      refine lv_bipush (v := 40) hx hb dX6_become_22 (by decide) ?_
      refine lv_icmp_ge (tgt := 40) hx hb dX6_become_24 (by decide) (fun c4332 => ?_) (fun c4332 => ?_)
      · exact absurd c4332 (by decide)
      · refine lv_aload_n hx hb dX6_become_27 rfl (lv_at hl 1 rfl) ?_
        refine va_get (D := D) (ci := 6) (v := .ref h1) (C := RX6) (T := TX6) (N := 3) hx hb hts hin6 hown hK hP 0 rfl rfl 0 (by decide) (hts (.fieldLink RX6 9 "MissedPoints$Sheet" "numbers" "[I") (by decide +kernel)) (fun _ h9 => h9) rfl dX6_become_28 ?_
        refine lv_iload_n hx hb dX6_become_31 rfl (lv_at hl 0 rfl) ?_
        refine lv_iconst (v := 0) hx hb dX6_become_32 (by decide) ?_
        refine lz_astc hx hb hK hP hD hS 1 0 rfl rfl (lz_vp (x := 2) (n := 40) (by decide) (by decide)) dX6_become_33 (fun H locs hP hD hS => ?_)
        refine lv_iinc (v := 3) (lv' := [(3, .int 3), (0, .ref h0), (1, .int (-1)), (2, .int 0)]) hx hb dX6_become_34 hl (k := 0) rfl (by decide) (by decide) rfl (fun ls hl => ?_)
        refine lv_goto (tgt := 21) hx hb dX6_become_37 (by decide) ?_
        refine lv_iload_n hx hb dX6_become_21 rfl (lv_at hl 0 rfl) ?_
        refine lv_bipush (v := 40) hx hb dX6_become_22 (by decide) ?_
        refine lv_icmp_ge (tgt := 40) hx hb dX6_become_24 (by decide) (fun c4333 => ?_) (fun c4333 => ?_)
        · exact absurd c4333 (by decide)
        · refine lv_aload_n hx hb dX6_become_27 rfl (lv_at hl 1 rfl) ?_
          refine va_get (D := D) (ci := 6) (v := .ref h1) (C := RX6) (T := TX6) (N := 3) hx hb hts hin6 hown hK hP 0 rfl rfl 0 (by decide) (hts (.fieldLink RX6 9 "MissedPoints$Sheet" "numbers" "[I") (by decide +kernel)) (fun _ h9 => h9) rfl dX6_become_28 ?_
          refine lv_iload_n hx hb dX6_become_31 rfl (lv_at hl 0 rfl) ?_
          refine lv_iconst (v := 0) hx hb dX6_become_32 (by decide) ?_
          refine lz_astc hx hb hK hP hD hS 1 0 rfl rfl (lz_vp (x := 3) (n := 40) (by decide) (by decide)) dX6_become_33 (fun H locs hP hD hS => ?_)
          refine lv_iinc (v := 4) (lv' := [(3, .int 4), (0, .ref h0), (1, .int (-1)), (2, .int 0)]) hx hb dX6_become_34 hl (k := 0) rfl (by decide) (by decide) rfl (fun ls hl => ?_)
          refine lv_goto (tgt := 21) hx hb dX6_become_37 (by decide) ?_
          refine lv_iload_n hx hb dX6_become_21 rfl (lv_at hl 0 rfl) ?_
          refine lv_bipush (v := 40) hx hb dX6_become_22 (by decide) ?_
          refine lv_icmp_ge (tgt := 40) hx hb dX6_become_24 (by decide) (fun c4334 => ?_) (fun c4334 => ?_)
          · exact absurd c4334 (by decide)
          · refine lv_aload_n hx hb dX6_become_27 rfl (lv_at hl 1 rfl) ?_
            refine va_get (D := D) (ci := 6) (v := .ref h1) (C := RX6) (T := TX6) (N := 3) hx hb hts hin6 hown hK hP 0 rfl rfl 0 (by decide) (hts (.fieldLink RX6 9 "MissedPoints$Sheet" "numbers" "[I") (by decide +kernel)) (fun _ h9 => h9) rfl dX6_become_28 ?_
            refine lv_iload_n hx hb dX6_become_31 rfl (lv_at hl 0 rfl) ?_
            refine lv_iconst (v := 0) hx hb dX6_become_32 (by decide) ?_
            refine lz_astc hx hb hK hP hD hS 1 0 rfl rfl (lz_vp (x := 4) (n := 40) (by decide) (by decide)) dX6_become_33 (fun H locs hP hD hS => ?_)
            refine lv_iinc (v := 5) (lv' := [(3, .int 5), (0, .ref h0), (1, .int (-1)), (2, .int 0)]) hx hb dX6_become_34 hl (k := 0) rfl (by decide) (by decide) rfl (fun ls hl => ?_)
            refine lv_goto (tgt := 21) hx hb dX6_become_37 (by decide) ?_
            refine lv_iload_n hx hb dX6_become_21 rfl (lv_at hl 0 rfl) ?_
            refine lv_bipush (v := 40) hx hb dX6_become_22 (by decide) ?_
            refine lv_icmp_ge (tgt := 40) hx hb dX6_become_24 (by decide) (fun c4335 => ?_) (fun c4335 => ?_)
            · exact absurd c4335 (by decide)
            · refine lv_aload_n hx hb dX6_become_27 rfl (lv_at hl 1 rfl) ?_
              refine va_get (D := D) (ci := 6) (v := .ref h1) (C := RX6) (T := TX6) (N := 3) hx hb hts hin6 hown hK hP 0 rfl rfl 0 (by decide) (hts (.fieldLink RX6 9 "MissedPoints$Sheet" "numbers" "[I") (by decide +kernel)) (fun _ h9 => h9) rfl dX6_become_28 ?_
              refine lv_iload_n hx hb dX6_become_31 rfl (lv_at hl 0 rfl) ?_
              refine lv_iconst (v := 0) hx hb dX6_become_32 (by decide) ?_
              refine lz_astc hx hb hK hP hD hS 1 0 rfl rfl (lz_vp (x := 5) (n := 40) (by decide) (by decide)) dX6_become_33 (fun H locs hP hD hS => ?_)
              refine lv_iinc (v := 6) (lv' := [(3, .int 6), (0, .ref h0), (1, .int (-1)), (2, .int 0)]) hx hb dX6_become_34 hl (k := 0) rfl (by decide) (by decide) rfl (fun ls hl => ?_)
              refine lv_goto (tgt := 21) hx hb dX6_become_37 (by decide) ?_
              refine lv_iload_n hx hb dX6_become_21 rfl (lv_at hl 0 rfl) ?_
              refine lv_bipush (v := 40) hx hb dX6_become_22 (by decide) ?_
              refine lv_icmp_ge (tgt := 40) hx hb dX6_become_24 (by decide) (fun c4336 => ?_) (fun c4336 => ?_)
              · exact absurd c4336 (by decide)
              · refine lv_aload_n hx hb dX6_become_27 rfl (lv_at hl 1 rfl) ?_
                refine va_get (D := D) (ci := 6) (v := .ref h1) (C := RX6) (T := TX6) (N := 3) hx hb hts hin6 hown hK hP 0 rfl rfl 0 (by decide) (hts (.fieldLink RX6 9 "MissedPoints$Sheet" "numbers" "[I") (by decide +kernel)) (fun _ h9 => h9) rfl dX6_become_28 ?_
                refine lv_iload_n hx hb dX6_become_31 rfl (lv_at hl 0 rfl) ?_
                refine lv_iconst (v := 0) hx hb dX6_become_32 (by decide) ?_
                refine lz_astc hx hb hK hP hD hS 1 0 rfl rfl (lz_vp (x := 6) (n := 40) (by decide) (by decide)) dX6_become_33 (fun H locs hP hD hS => ?_)
                refine lv_iinc (v := 7) (lv' := [(3, .int 7), (0, .ref h0), (1, .int (-1)), (2, .int 0)]) hx hb dX6_become_34 hl (k := 0) rfl (by decide) (by decide) rfl (fun ls hl => ?_)
                refine lv_goto (tgt := 21) hx hb dX6_become_37 (by decide) ?_
                refine lv_iload_n hx hb dX6_become_21 rfl (lv_at hl 0 rfl) ?_
                refine lv_bipush (v := 40) hx hb dX6_become_22 (by decide) ?_
                refine lv_icmp_ge (tgt := 40) hx hb dX6_become_24 (by decide) (fun c4337 => ?_) (fun c4337 => ?_)
                · exact absurd c4337 (by decide)
                · refine lv_aload_n hx hb dX6_become_27 rfl (lv_at hl 1 rfl) ?_
                  refine va_get (D := D) (ci := 6) (v := .ref h1) (C := RX6) (T := TX6) (N := 3) hx hb hts hin6 hown hK hP 0 rfl rfl 0 (by decide) (hts (.fieldLink RX6 9 "MissedPoints$Sheet" "numbers" "[I") (by decide +kernel)) (fun _ h9 => h9) rfl dX6_become_28 ?_
                  refine lv_iload_n hx hb dX6_become_31 rfl (lv_at hl 0 rfl) ?_
                  refine lv_iconst (v := 0) hx hb dX6_become_32 (by decide) ?_
                  refine lz_astc hx hb hK hP hD hS 1 0 rfl rfl (lz_vp (x := 7) (n := 40) (by decide) (by decide)) dX6_become_33 (fun H locs hP hD hS => ?_)
                  refine lv_iinc (v := 8) (lv' := [(3, .int 8), (0, .ref h0), (1, .int (-1)), (2, .int 0)]) hx hb dX6_become_34 hl (k := 0) rfl (by decide) (by decide) rfl (fun ls hl => ?_)
                  refine lv_goto (tgt := 21) hx hb dX6_become_37 (by decide) ?_
                  refine lv_iload_n hx hb dX6_become_21 rfl (lv_at hl 0 rfl) ?_
                  refine lv_bipush (v := 40) hx hb dX6_become_22 (by decide) ?_
                  refine lv_icmp_ge (tgt := 40) hx hb dX6_become_24 (by decide) (fun c4338 => ?_) (fun c4338 => ?_)
                  · exact absurd c4338 (by decide)
                  · refine lv_aload_n hx hb dX6_become_27 rfl (lv_at hl 1 rfl) ?_
                    refine va_get (D := D) (ci := 6) (v := .ref h1) (C := RX6) (T := TX6) (N := 3) hx hb hts hin6 hown hK hP 0 rfl rfl 0 (by decide) (hts (.fieldLink RX6 9 "MissedPoints$Sheet" "numbers" "[I") (by decide +kernel)) (fun _ h9 => h9) rfl dX6_become_28 ?_
                    refine lv_iload_n hx hb dX6_become_31 rfl (lv_at hl 0 rfl) ?_
                    refine lv_iconst (v := 0) hx hb dX6_become_32 (by decide) ?_
                    refine lz_astc hx hb hK hP hD hS 1 0 rfl rfl (lz_vp (x := 8) (n := 40) (by decide) (by decide)) dX6_become_33 (fun H locs hP hD hS => ?_)
                    refine lv_iinc (v := 9) (lv' := [(3, .int 9), (0, .ref h0), (1, .int (-1)), (2, .int 0)]) hx hb dX6_become_34 hl (k := 0) rfl (by decide) (by decide) rfl (fun ls hl => ?_)
                    refine lv_goto (tgt := 21) hx hb dX6_become_37 (by decide) ?_
                    refine lv_iload_n hx hb dX6_become_21 rfl (lv_at hl 0 rfl) ?_
                    refine lv_bipush (v := 40) hx hb dX6_become_22 (by decide) ?_
                    refine lv_icmp_ge (tgt := 40) hx hb dX6_become_24 (by decide) (fun c4339 => ?_) (fun c4339 => ?_)
                    · exact absurd c4339 (by decide)
                    · refine lv_aload_n hx hb dX6_become_27 rfl (lv_at hl 1 rfl) ?_
                      refine va_get (D := D) (ci := 6) (v := .ref h1) (C := RX6) (T := TX6) (N := 3) hx hb hts hin6 hown hK hP 0 rfl rfl 0 (by decide) (hts (.fieldLink RX6 9 "MissedPoints$Sheet" "numbers" "[I") (by decide +kernel)) (fun _ h9 => h9) rfl dX6_become_28 ?_
                      refine lv_iload_n hx hb dX6_become_31 rfl (lv_at hl 0 rfl) ?_
                      refine lv_iconst (v := 0) hx hb dX6_become_32 (by decide) ?_
                      refine lz_astc hx hb hK hP hD hS 1 0 rfl rfl (lz_vp (x := 9) (n := 40) (by decide) (by decide)) dX6_become_33 (fun H locs hP hD hS => ?_)
                      refine lv_iinc (v := 10) (lv' := [(3, .int 10), (0, .ref h0), (1, .int (-1)), (2, .int 0)]) hx hb dX6_become_34 hl (k := 0) rfl (by decide) (by decide) rfl (fun ls hl => ?_)
                      refine lv_goto (tgt := 21) hx hb dX6_become_37 (by decide) ?_
                      refine lv_iload_n hx hb dX6_become_21 rfl (lv_at hl 0 rfl) ?_
                      refine lv_bipush (v := 40) hx hb dX6_become_22 (by decide) ?_
                      refine lv_icmp_ge (tgt := 40) hx hb dX6_become_24 (by decide) (fun c4340 => ?_) (fun c4340 => ?_)
                      · exact absurd c4340 (by decide)
                      · refine lv_aload_n hx hb dX6_become_27 rfl (lv_at hl 1 rfl) ?_
                        refine va_get (D := D) (ci := 6) (v := .ref h1) (C := RX6) (T := TX6) (N := 3) hx hb hts hin6 hown hK hP 0 rfl rfl 0 (by decide) (hts (.fieldLink RX6 9 "MissedPoints$Sheet" "numbers" "[I") (by decide +kernel)) (fun _ h9 => h9) rfl dX6_become_28 ?_
                        refine lv_iload_n hx hb dX6_become_31 rfl (lv_at hl 0 rfl) ?_
                        refine lv_iconst (v := 0) hx hb dX6_become_32 (by decide) ?_
                        refine lz_astc hx hb hK hP hD hS 1 0 rfl rfl (lz_vp (x := 10) (n := 40) (by decide) (by decide)) dX6_become_33 (fun H locs hP hD hS => ?_)
                        refine lv_iinc (v := 11) (lv' := [(3, .int 11), (0, .ref h0), (1, .int (-1)), (2, .int 0)]) hx hb dX6_become_34 hl (k := 0) rfl (by decide) (by decide) rfl (fun ls hl => ?_)
                        refine lv_goto (tgt := 21) hx hb dX6_become_37 (by decide) ?_
                        refine lv_iload_n hx hb dX6_become_21 rfl (lv_at hl 0 rfl) ?_
                        refine lv_bipush (v := 40) hx hb dX6_become_22 (by decide) ?_
                        refine lv_icmp_ge (tgt := 40) hx hb dX6_become_24 (by decide) (fun c4341 => ?_) (fun c4341 => ?_)
                        · exact absurd c4341 (by decide)
                        · refine lv_aload_n hx hb dX6_become_27 rfl (lv_at hl 1 rfl) ?_
                          refine va_get (D := D) (ci := 6) (v := .ref h1) (C := RX6) (T := TX6) (N := 3) hx hb hts hin6 hown hK hP 0 rfl rfl 0 (by decide) (hts (.fieldLink RX6 9 "MissedPoints$Sheet" "numbers" "[I") (by decide +kernel)) (fun _ h9 => h9) rfl dX6_become_28 ?_
                          refine lv_iload_n hx hb dX6_become_31 rfl (lv_at hl 0 rfl) ?_
                          refine lv_iconst (v := 0) hx hb dX6_become_32 (by decide) ?_
                          refine lz_astc hx hb hK hP hD hS 1 0 rfl rfl (lz_vp (x := 11) (n := 40) (by decide) (by decide)) dX6_become_33 (fun H locs hP hD hS => ?_)
                          refine lv_iinc (v := 12) (lv' := [(3, .int 12), (0, .ref h0), (1, .int (-1)), (2, .int 0)]) hx hb dX6_become_34 hl (k := 0) rfl (by decide) (by decide) rfl (fun ls hl => ?_)
                          refine lv_goto (tgt := 21) hx hb dX6_become_37 (by decide) ?_
                          refine lv_iload_n hx hb dX6_become_21 rfl (lv_at hl 0 rfl) ?_
                          refine lv_bipush (v := 40) hx hb dX6_become_22 (by decide) ?_
                          refine lv_icmp_ge (tgt := 40) hx hb dX6_become_24 (by decide) (fun c4342 => ?_) (fun c4342 => ?_)
                          · exact absurd c4342 (by decide)
                          · refine lv_aload_n hx hb dX6_become_27 rfl (lv_at hl 1 rfl) ?_
                            refine va_get (D := D) (ci := 6) (v := .ref h1) (C := RX6) (T := TX6) (N := 3) hx hb hts hin6 hown hK hP 0 rfl rfl 0 (by decide) (hts (.fieldLink RX6 9 "MissedPoints$Sheet" "numbers" "[I") (by decide +kernel)) (fun _ h9 => h9) rfl dX6_become_28 ?_
                            refine lv_iload_n hx hb dX6_become_31 rfl (lv_at hl 0 rfl) ?_
                            refine lv_iconst (v := 0) hx hb dX6_become_32 (by decide) ?_
                            refine lz_astc hx hb hK hP hD hS 1 0 rfl rfl (lz_vp (x := 12) (n := 40) (by decide) (by decide)) dX6_become_33 (fun H locs hP hD hS => ?_)
                            refine lv_iinc (v := 13) (lv' := [(3, .int 13), (0, .ref h0), (1, .int (-1)), (2, .int 0)]) hx hb dX6_become_34 hl (k := 0) rfl (by decide) (by decide) rfl (fun ls hl => ?_)
                            refine lv_goto (tgt := 21) hx hb dX6_become_37 (by decide) ?_
                            refine lv_iload_n hx hb dX6_become_21 rfl (lv_at hl 0 rfl) ?_
                            refine lv_bipush (v := 40) hx hb dX6_become_22 (by decide) ?_
                            refine lv_icmp_ge (tgt := 40) hx hb dX6_become_24 (by decide) (fun c4343 => ?_) (fun c4343 => ?_)
                            · exact absurd c4343 (by decide)
                            · refine lv_aload_n hx hb dX6_become_27 rfl (lv_at hl 1 rfl) ?_
                              refine va_get (D := D) (ci := 6) (v := .ref h1) (C := RX6) (T := TX6) (N := 3) hx hb hts hin6 hown hK hP 0 rfl rfl 0 (by decide) (hts (.fieldLink RX6 9 "MissedPoints$Sheet" "numbers" "[I") (by decide +kernel)) (fun _ h9 => h9) rfl dX6_become_28 ?_
                              refine lv_iload_n hx hb dX6_become_31 rfl (lv_at hl 0 rfl) ?_
                              refine lv_iconst (v := 0) hx hb dX6_become_32 (by decide) ?_
                              refine lz_astc hx hb hK hP hD hS 1 0 rfl rfl (lz_vp (x := 13) (n := 40) (by decide) (by decide)) dX6_become_33 (fun H locs hP hD hS => ?_)
                              refine lv_iinc (v := 14) (lv' := [(3, .int 14), (0, .ref h0), (1, .int (-1)), (2, .int 0)]) hx hb dX6_become_34 hl (k := 0) rfl (by decide) (by decide) rfl (fun ls hl => ?_)
                              refine lv_goto (tgt := 21) hx hb dX6_become_37 (by decide) ?_
                              refine lv_iload_n hx hb dX6_become_21 rfl (lv_at hl 0 rfl) ?_
                              refine lv_bipush (v := 40) hx hb dX6_become_22 (by decide) ?_
                              refine lv_icmp_ge (tgt := 40) hx hb dX6_become_24 (by decide) (fun c4344 => ?_) (fun c4344 => ?_)
                              · exact absurd c4344 (by decide)
                              · refine lv_aload_n hx hb dX6_become_27 rfl (lv_at hl 1 rfl) ?_
                                refine va_get (D := D) (ci := 6) (v := .ref h1) (C := RX6) (T := TX6) (N := 3) hx hb hts hin6 hown hK hP 0 rfl rfl 0 (by decide) (hts (.fieldLink RX6 9 "MissedPoints$Sheet" "numbers" "[I") (by decide +kernel)) (fun _ h9 => h9) rfl dX6_become_28 ?_
                                refine lv_iload_n hx hb dX6_become_31 rfl (lv_at hl 0 rfl) ?_
                                refine lv_iconst (v := 0) hx hb dX6_become_32 (by decide) ?_
                                refine lz_astc hx hb hK hP hD hS 1 0 rfl rfl (lz_vp (x := 14) (n := 40) (by decide) (by decide)) dX6_become_33 (fun H locs hP hD hS => ?_)
                                refine lv_iinc (v := 15) (lv' := [(3, .int 15), (0, .ref h0), (1, .int (-1)), (2, .int 0)]) hx hb dX6_become_34 hl (k := 0) rfl (by decide) (by decide) rfl (fun ls hl => ?_)
                                refine lv_goto (tgt := 21) hx hb dX6_become_37 (by decide) ?_
                                refine lv_iload_n hx hb dX6_become_21 rfl (lv_at hl 0 rfl) ?_
                                refine lv_bipush (v := 40) hx hb dX6_become_22 (by decide) ?_
                                refine lv_icmp_ge (tgt := 40) hx hb dX6_become_24 (by decide) (fun c4345 => ?_) (fun c4345 => ?_)
                                · exact absurd c4345 (by decide)
                                · refine lv_aload_n hx hb dX6_become_27 rfl (lv_at hl 1 rfl) ?_
                                  refine va_get (D := D) (ci := 6) (v := .ref h1) (C := RX6) (T := TX6) (N := 3) hx hb hts hin6 hown hK hP 0 rfl rfl 0 (by decide) (hts (.fieldLink RX6 9 "MissedPoints$Sheet" "numbers" "[I") (by decide +kernel)) (fun _ h9 => h9) rfl dX6_become_28 ?_
                                  refine lv_iload_n hx hb dX6_become_31 rfl (lv_at hl 0 rfl) ?_
                                  refine lv_iconst (v := 0) hx hb dX6_become_32 (by decide) ?_
                                  refine lz_astc hx hb hK hP hD hS 1 0 rfl rfl (lz_vp (x := 15) (n := 40) (by decide) (by decide)) dX6_become_33 (fun H locs hP hD hS => ?_)
                                  refine lv_iinc (v := 16) (lv' := [(3, .int 16), (0, .ref h0), (1, .int (-1)), (2, .int 0)]) hx hb dX6_become_34 hl (k := 0) rfl (by decide) (by decide) rfl (fun ls hl => ?_)
                                  refine lv_goto (tgt := 21) hx hb dX6_become_37 (by decide) ?_
                                  refine lv_iload_n hx hb dX6_become_21 rfl (lv_at hl 0 rfl) ?_
                                  refine lv_bipush (v := 40) hx hb dX6_become_22 (by decide) ?_
                                  refine lv_icmp_ge (tgt := 40) hx hb dX6_become_24 (by decide) (fun c4346 => ?_) (fun c4346 => ?_)
                                  · exact absurd c4346 (by decide)
                                  · refine lv_aload_n hx hb dX6_become_27 rfl (lv_at hl 1 rfl) ?_
                                    refine va_get (D := D) (ci := 6) (v := .ref h1) (C := RX6) (T := TX6) (N := 3) hx hb hts hin6 hown hK hP 0 rfl rfl 0 (by decide) (hts (.fieldLink RX6 9 "MissedPoints$Sheet" "numbers" "[I") (by decide +kernel)) (fun _ h9 => h9) rfl dX6_become_28 ?_
                                    refine lv_iload_n hx hb dX6_become_31 rfl (lv_at hl 0 rfl) ?_
                                    refine lv_iconst (v := 0) hx hb dX6_become_32 (by decide) ?_
                                    refine lz_astc hx hb hK hP hD hS 1 0 rfl rfl (lz_vp (x := 16) (n := 40) (by decide) (by decide)) dX6_become_33 (fun H locs hP hD hS => ?_)
                                    refine lv_iinc (v := 17) (lv' := [(3, .int 17), (0, .ref h0), (1, .int (-1)), (2, .int 0)]) hx hb dX6_become_34 hl (k := 0) rfl (by decide) (by decide) rfl (fun ls hl => ?_)
                                    refine lv_goto (tgt := 21) hx hb dX6_become_37 (by decide) ?_
                                    refine lv_iload_n hx hb dX6_become_21 rfl (lv_at hl 0 rfl) ?_
                                    refine lv_bipush (v := 40) hx hb dX6_become_22 (by decide) ?_
                                    refine lv_icmp_ge (tgt := 40) hx hb dX6_become_24 (by decide) (fun c4347 => ?_) (fun c4347 => ?_)
                                    · exact absurd c4347 (by decide)
                                    · refine lv_aload_n hx hb dX6_become_27 rfl (lv_at hl 1 rfl) ?_
                                      refine va_get (D := D) (ci := 6) (v := .ref h1) (C := RX6) (T := TX6) (N := 3) hx hb hts hin6 hown hK hP 0 rfl rfl 0 (by decide) (hts (.fieldLink RX6 9 "MissedPoints$Sheet" "numbers" "[I") (by decide +kernel)) (fun _ h9 => h9) rfl dX6_become_28 ?_
                                      refine lv_iload_n hx hb dX6_become_31 rfl (lv_at hl 0 rfl) ?_
                                      refine lv_iconst (v := 0) hx hb dX6_become_32 (by decide) ?_
                                      refine lz_astc hx hb hK hP hD hS 1 0 rfl rfl (lz_vp (x := 17) (n := 40) (by decide) (by decide)) dX6_become_33 (fun H locs hP hD hS => ?_)
                                      refine lv_iinc (v := 18) (lv' := [(3, .int 18), (0, .ref h0), (1, .int (-1)), (2, .int 0)]) hx hb dX6_become_34 hl (k := 0) rfl (by decide) (by decide) rfl (fun ls hl => ?_)
                                      refine lv_goto (tgt := 21) hx hb dX6_become_37 (by decide) ?_
                                      refine lv_iload_n hx hb dX6_become_21 rfl (lv_at hl 0 rfl) ?_
                                      refine lv_bipush (v := 40) hx hb dX6_become_22 (by decide) ?_
                                      refine lv_icmp_ge (tgt := 40) hx hb dX6_become_24 (by decide) (fun c4348 => ?_) (fun c4348 => ?_)
                                      · exact absurd c4348 (by decide)
                                      · refine lv_aload_n hx hb dX6_become_27 rfl (lv_at hl 1 rfl) ?_
                                        refine va_get (D := D) (ci := 6) (v := .ref h1) (C := RX6) (T := TX6) (N := 3) hx hb hts hin6 hown hK hP 0 rfl rfl 0 (by decide) (hts (.fieldLink RX6 9 "MissedPoints$Sheet" "numbers" "[I") (by decide +kernel)) (fun _ h9 => h9) rfl dX6_become_28 ?_
                                        refine lv_iload_n hx hb dX6_become_31 rfl (lv_at hl 0 rfl) ?_
                                        refine lv_iconst (v := 0) hx hb dX6_become_32 (by decide) ?_
                                        refine lz_astc hx hb hK hP hD hS 1 0 rfl rfl (lz_vp (x := 18) (n := 40) (by decide) (by decide)) dX6_become_33 (fun H locs hP hD hS => ?_)
                                        refine lv_iinc (v := 19) (lv' := [(3, .int 19), (0, .ref h0), (1, .int (-1)), (2, .int 0)]) hx hb dX6_become_34 hl (k := 0) rfl (by decide) (by decide) rfl (fun ls hl => ?_)
                                        refine lv_goto (tgt := 21) hx hb dX6_become_37 (by decide) ?_
                                        refine lv_iload_n hx hb dX6_become_21 rfl (lv_at hl 0 rfl) ?_
                                        refine lv_bipush (v := 40) hx hb dX6_become_22 (by decide) ?_
                                        refine lv_icmp_ge (tgt := 40) hx hb dX6_become_24 (by decide) (fun c4349 => ?_) (fun c4349 => ?_)
                                        · exact absurd c4349 (by decide)
                                        · refine lv_aload_n hx hb dX6_become_27 rfl (lv_at hl 1 rfl) ?_
                                          refine va_get (D := D) (ci := 6) (v := .ref h1) (C := RX6) (T := TX6) (N := 3) hx hb hts hin6 hown hK hP 0 rfl rfl 0 (by decide) (hts (.fieldLink RX6 9 "MissedPoints$Sheet" "numbers" "[I") (by decide +kernel)) (fun _ h9 => h9) rfl dX6_become_28 ?_
                                          refine lv_iload_n hx hb dX6_become_31 rfl (lv_at hl 0 rfl) ?_
                                          refine lv_iconst (v := 0) hx hb dX6_become_32 (by decide) ?_
                                          refine lz_astc hx hb hK hP hD hS 1 0 rfl rfl (lz_vp (x := 19) (n := 40) (by decide) (by decide)) dX6_become_33 (fun H locs hP hD hS => ?_)
                                          refine lv_iinc (v := 20) (lv' := [(3, .int 20), (0, .ref h0), (1, .int (-1)), (2, .int 0)]) hx hb dX6_become_34 hl (k := 0) rfl (by decide) (by decide) rfl (fun ls hl => ?_)
                                          refine lv_goto (tgt := 21) hx hb dX6_become_37 (by decide) ?_
                                          refine lv_iload_n hx hb dX6_become_21 rfl (lv_at hl 0 rfl) ?_
                                          refine lv_bipush (v := 40) hx hb dX6_become_22 (by decide) ?_
                                          refine lv_icmp_ge (tgt := 40) hx hb dX6_become_24 (by decide) (fun c4350 => ?_) (fun c4350 => ?_)
                                          · exact absurd c4350 (by decide)
                                          · refine lv_aload_n hx hb dX6_become_27 rfl (lv_at hl 1 rfl) ?_
                                            refine va_get (D := D) (ci := 6) (v := .ref h1) (C := RX6) (T := TX6) (N := 3) hx hb hts hin6 hown hK hP 0 rfl rfl 0 (by decide) (hts (.fieldLink RX6 9 "MissedPoints$Sheet" "numbers" "[I") (by decide +kernel)) (fun _ h9 => h9) rfl dX6_become_28 ?_
                                            refine lv_iload_n hx hb dX6_become_31 rfl (lv_at hl 0 rfl) ?_
                                            refine lv_iconst (v := 0) hx hb dX6_become_32 (by decide) ?_
                                            refine lz_astc hx hb hK hP hD hS 1 0 rfl rfl (lz_vp (x := 20) (n := 40) (by decide) (by decide)) dX6_become_33 (fun H locs hP hD hS => ?_)
                                            refine lv_iinc (v := 21) (lv' := [(3, .int 21), (0, .ref h0), (1, .int (-1)), (2, .int 0)]) hx hb dX6_become_34 hl (k := 0) rfl (by decide) (by decide) rfl (fun ls hl => ?_)
                                            refine lv_goto (tgt := 21) hx hb dX6_become_37 (by decide) ?_
                                            refine lv_iload_n hx hb dX6_become_21 rfl (lv_at hl 0 rfl) ?_
                                            refine lv_bipush (v := 40) hx hb dX6_become_22 (by decide) ?_
                                            refine lv_icmp_ge (tgt := 40) hx hb dX6_become_24 (by decide) (fun c4351 => ?_) (fun c4351 => ?_)
                                            · exact absurd c4351 (by decide)
                                            · refine lv_aload_n hx hb dX6_become_27 rfl (lv_at hl 1 rfl) ?_
                                              refine va_get (D := D) (ci := 6) (v := .ref h1) (C := RX6) (T := TX6) (N := 3) hx hb hts hin6 hown hK hP 0 rfl rfl 0 (by decide) (hts (.fieldLink RX6 9 "MissedPoints$Sheet" "numbers" "[I") (by decide +kernel)) (fun _ h9 => h9) rfl dX6_become_28 ?_
                                              refine lv_iload_n hx hb dX6_become_31 rfl (lv_at hl 0 rfl) ?_
                                              refine lv_iconst (v := 0) hx hb dX6_become_32 (by decide) ?_
                                              refine lz_astc hx hb hK hP hD hS 1 0 rfl rfl (lz_vp (x := 21) (n := 40) (by decide) (by decide)) dX6_become_33 (fun H locs hP hD hS => ?_)
                                              refine lv_iinc (v := 22) (lv' := [(3, .int 22), (0, .ref h0), (1, .int (-1)), (2, .int 0)]) hx hb dX6_become_34 hl (k := 0) rfl (by decide) (by decide) rfl (fun ls hl => ?_)
                                              refine lv_goto (tgt := 21) hx hb dX6_become_37 (by decide) ?_
                                              refine lv_iload_n hx hb dX6_become_21 rfl (lv_at hl 0 rfl) ?_
                                              refine lv_bipush (v := 40) hx hb dX6_become_22 (by decide) ?_
                                              refine lv_icmp_ge (tgt := 40) hx hb dX6_become_24 (by decide) (fun c4352 => ?_) (fun c4352 => ?_)
                                              · exact absurd c4352 (by decide)
                                              · refine lv_aload_n hx hb dX6_become_27 rfl (lv_at hl 1 rfl) ?_
                                                refine va_get (D := D) (ci := 6) (v := .ref h1) (C := RX6) (T := TX6) (N := 3) hx hb hts hin6 hown hK hP 0 rfl rfl 0 (by decide) (hts (.fieldLink RX6 9 "MissedPoints$Sheet" "numbers" "[I") (by decide +kernel)) (fun _ h9 => h9) rfl dX6_become_28 ?_
                                                refine lv_iload_n hx hb dX6_become_31 rfl (lv_at hl 0 rfl) ?_
                                                refine lv_iconst (v := 0) hx hb dX6_become_32 (by decide) ?_
                                                refine lz_astc hx hb hK hP hD hS 1 0 rfl rfl (lz_vp (x := 22) (n := 40) (by decide) (by decide)) dX6_become_33 (fun H locs hP hD hS => ?_)
                                                refine lv_iinc (v := 23) (lv' := [(3, .int 23), (0, .ref h0), (1, .int (-1)), (2, .int 0)]) hx hb dX6_become_34 hl (k := 0) rfl (by decide) (by decide) rfl (fun ls hl => ?_)
                                                refine lv_goto (tgt := 21) hx hb dX6_become_37 (by decide) ?_
                                                refine lv_iload_n hx hb dX6_become_21 rfl (lv_at hl 0 rfl) ?_
                                                refine lv_bipush (v := 40) hx hb dX6_become_22 (by decide) ?_
                                                refine lv_icmp_ge (tgt := 40) hx hb dX6_become_24 (by decide) (fun c4353 => ?_) (fun c4353 => ?_)
                                                · exact absurd c4353 (by decide)
                                                · refine lv_aload_n hx hb dX6_become_27 rfl (lv_at hl 1 rfl) ?_
                                                  refine va_get (D := D) (ci := 6) (v := .ref h1) (C := RX6) (T := TX6) (N := 3) hx hb hts hin6 hown hK hP 0 rfl rfl 0 (by decide) (hts (.fieldLink RX6 9 "MissedPoints$Sheet" "numbers" "[I") (by decide +kernel)) (fun _ h9 => h9) rfl dX6_become_28 ?_
                                                  refine lv_iload_n hx hb dX6_become_31 rfl (lv_at hl 0 rfl) ?_
                                                  refine lv_iconst (v := 0) hx hb dX6_become_32 (by decide) ?_
                                                  refine lz_astc hx hb hK hP hD hS 1 0 rfl rfl (lz_vp (x := 23) (n := 40) (by decide) (by decide)) dX6_become_33 (fun H locs hP hD hS => ?_)
                                                  refine lv_iinc (v := 24) (lv' := [(3, .int 24), (0, .ref h0), (1, .int (-1)), (2, .int 0)]) hx hb dX6_become_34 hl (k := 0) rfl (by decide) (by decide) rfl (fun ls hl => ?_)
                                                  refine lv_goto (tgt := 21) hx hb dX6_become_37 (by decide) ?_
                                                  refine lv_iload_n hx hb dX6_become_21 rfl (lv_at hl 0 rfl) ?_
                                                  refine lv_bipush (v := 40) hx hb dX6_become_22 (by decide) ?_
                                                  refine lv_icmp_ge (tgt := 40) hx hb dX6_become_24 (by decide) (fun c4354 => ?_) (fun c4354 => ?_)
                                                  · exact absurd c4354 (by decide)
                                                  · refine lv_aload_n hx hb dX6_become_27 rfl (lv_at hl 1 rfl) ?_
                                                    refine va_get (D := D) (ci := 6) (v := .ref h1) (C := RX6) (T := TX6) (N := 3) hx hb hts hin6 hown hK hP 0 rfl rfl 0 (by decide) (hts (.fieldLink RX6 9 "MissedPoints$Sheet" "numbers" "[I") (by decide +kernel)) (fun _ h9 => h9) rfl dX6_become_28 ?_
                                                    refine lv_iload_n hx hb dX6_become_31 rfl (lv_at hl 0 rfl) ?_
                                                    refine lv_iconst (v := 0) hx hb dX6_become_32 (by decide) ?_
                                                    refine lz_astc hx hb hK hP hD hS 1 0 rfl rfl (lz_vp (x := 24) (n := 40) (by decide) (by decide)) dX6_become_33 (fun H locs hP hD hS => ?_)
                                                    refine lv_iinc (v := 25) (lv' := [(3, .int 25), (0, .ref h0), (1, .int (-1)), (2, .int 0)]) hx hb dX6_become_34 hl (k := 0) rfl (by decide) (by decide) rfl (fun ls hl => ?_)
                                                    refine lv_goto (tgt := 21) hx hb dX6_become_37 (by decide) ?_
                                                    refine lv_iload_n hx hb dX6_become_21 rfl (lv_at hl 0 rfl) ?_
                                                    refine lv_bipush (v := 40) hx hb dX6_become_22 (by decide) ?_
                                                    refine lv_icmp_ge (tgt := 40) hx hb dX6_become_24 (by decide) (fun c4355 => ?_) (fun c4355 => ?_)
                                                    · exact absurd c4355 (by decide)
                                                    · refine lv_aload_n hx hb dX6_become_27 rfl (lv_at hl 1 rfl) ?_
                                                      refine va_get (D := D) (ci := 6) (v := .ref h1) (C := RX6) (T := TX6) (N := 3) hx hb hts hin6 hown hK hP 0 rfl rfl 0 (by decide) (hts (.fieldLink RX6 9 "MissedPoints$Sheet" "numbers" "[I") (by decide +kernel)) (fun _ h9 => h9) rfl dX6_become_28 ?_
                                                      refine lv_iload_n hx hb dX6_become_31 rfl (lv_at hl 0 rfl) ?_
                                                      refine lv_iconst (v := 0) hx hb dX6_become_32 (by decide) ?_
                                                      refine lz_astc hx hb hK hP hD hS 1 0 rfl rfl (lz_vp (x := 25) (n := 40) (by decide) (by decide)) dX6_become_33 (fun H locs hP hD hS => ?_)
                                                      refine lv_iinc (v := 26) (lv' := [(3, .int 26), (0, .ref h0), (1, .int (-1)), (2, .int 0)]) hx hb dX6_become_34 hl (k := 0) rfl (by decide) (by decide) rfl (fun ls hl => ?_)
                                                      refine lv_goto (tgt := 21) hx hb dX6_become_37 (by decide) ?_
                                                      refine lv_iload_n hx hb dX6_become_21 rfl (lv_at hl 0 rfl) ?_
                                                      refine lv_bipush (v := 40) hx hb dX6_become_22 (by decide) ?_
                                                      refine lv_icmp_ge (tgt := 40) hx hb dX6_become_24 (by decide) (fun c4356 => ?_) (fun c4356 => ?_)
                                                      · exact absurd c4356 (by decide)
                                                      · refine lv_aload_n hx hb dX6_become_27 rfl (lv_at hl 1 rfl) ?_
                                                        refine va_get (D := D) (ci := 6) (v := .ref h1) (C := RX6) (T := TX6) (N := 3) hx hb hts hin6 hown hK hP 0 rfl rfl 0 (by decide) (hts (.fieldLink RX6 9 "MissedPoints$Sheet" "numbers" "[I") (by decide +kernel)) (fun _ h9 => h9) rfl dX6_become_28 ?_
                                                        refine lv_iload_n hx hb dX6_become_31 rfl (lv_at hl 0 rfl) ?_
                                                        refine lv_iconst (v := 0) hx hb dX6_become_32 (by decide) ?_
                                                        refine lz_astc hx hb hK hP hD hS 1 0 rfl rfl (lz_vp (x := 26) (n := 40) (by decide) (by decide)) dX6_become_33 (fun H locs hP hD hS => ?_)
                                                        refine lv_iinc (v := 27) (lv' := [(3, .int 27), (0, .ref h0), (1, .int (-1)), (2, .int 0)]) hx hb dX6_become_34 hl (k := 0) rfl (by decide) (by decide) rfl (fun ls hl => ?_)
                                                        refine lv_goto (tgt := 21) hx hb dX6_become_37 (by decide) ?_
                                                        refine lv_iload_n hx hb dX6_become_21 rfl (lv_at hl 0 rfl) ?_
                                                        refine lv_bipush (v := 40) hx hb dX6_become_22 (by decide) ?_
                                                        refine lv_icmp_ge (tgt := 40) hx hb dX6_become_24 (by decide) (fun c4357 => ?_) (fun c4357 => ?_)
                                                        · exact absurd c4357 (by decide)
                                                        · refine lv_aload_n hx hb dX6_become_27 rfl (lv_at hl 1 rfl) ?_
                                                          refine va_get (D := D) (ci := 6) (v := .ref h1) (C := RX6) (T := TX6) (N := 3) hx hb hts hin6 hown hK hP 0 rfl rfl 0 (by decide) (hts (.fieldLink RX6 9 "MissedPoints$Sheet" "numbers" "[I") (by decide +kernel)) (fun _ h9 => h9) rfl dX6_become_28 ?_
                                                          refine lv_iload_n hx hb dX6_become_31 rfl (lv_at hl 0 rfl) ?_
                                                          refine lv_iconst (v := 0) hx hb dX6_become_32 (by decide) ?_
                                                          refine lz_astc hx hb hK hP hD hS 1 0 rfl rfl (lz_vp (x := 27) (n := 40) (by decide) (by decide)) dX6_become_33 (fun H locs hP hD hS => ?_)
                                                          refine lv_iinc (v := 28) (lv' := [(3, .int 28), (0, .ref h0), (1, .int (-1)), (2, .int 0)]) hx hb dX6_become_34 hl (k := 0) rfl (by decide) (by decide) rfl (fun ls hl => ?_)
                                                          refine lv_goto (tgt := 21) hx hb dX6_become_37 (by decide) ?_
                                                          refine lv_iload_n hx hb dX6_become_21 rfl (lv_at hl 0 rfl) ?_
                                                          refine lv_bipush (v := 40) hx hb dX6_become_22 (by decide) ?_
                                                          refine lv_icmp_ge (tgt := 40) hx hb dX6_become_24 (by decide) (fun c4358 => ?_) (fun c4358 => ?_)
                                                          · exact absurd c4358 (by decide)
                                                          · refine lv_aload_n hx hb dX6_become_27 rfl (lv_at hl 1 rfl) ?_
                                                            refine va_get (D := D) (ci := 6) (v := .ref h1) (C := RX6) (T := TX6) (N := 3) hx hb hts hin6 hown hK hP 0 rfl rfl 0 (by decide) (hts (.fieldLink RX6 9 "MissedPoints$Sheet" "numbers" "[I") (by decide +kernel)) (fun _ h9 => h9) rfl dX6_become_28 ?_
                                                            refine lv_iload_n hx hb dX6_become_31 rfl (lv_at hl 0 rfl) ?_
                                                            refine lv_iconst (v := 0) hx hb dX6_become_32 (by decide) ?_
                                                            refine lz_astc hx hb hK hP hD hS 1 0 rfl rfl (lz_vp (x := 28) (n := 40) (by decide) (by decide)) dX6_become_33 (fun H locs hP hD hS => ?_)
                                                            refine lv_iinc (v := 29) (lv' := [(3, .int 29), (0, .ref h0), (1, .int (-1)), (2, .int 0)]) hx hb dX6_become_34 hl (k := 0) rfl (by decide) (by decide) rfl (fun ls hl => ?_)
                                                            refine lv_goto (tgt := 21) hx hb dX6_become_37 (by decide) ?_
                                                            refine lv_iload_n hx hb dX6_become_21 rfl (lv_at hl 0 rfl) ?_
                                                            refine lv_bipush (v := 40) hx hb dX6_become_22 (by decide) ?_
                                                            refine lv_icmp_ge (tgt := 40) hx hb dX6_become_24 (by decide) (fun c4359 => ?_) (fun c4359 => ?_)
                                                            · exact absurd c4359 (by decide)
                                                            · refine lv_aload_n hx hb dX6_become_27 rfl (lv_at hl 1 rfl) ?_
                                                              refine va_get (D := D) (ci := 6) (v := .ref h1) (C := RX6) (T := TX6) (N := 3) hx hb hts hin6 hown hK hP 0 rfl rfl 0 (by decide) (hts (.fieldLink RX6 9 "MissedPoints$Sheet" "numbers" "[I") (by decide +kernel)) (fun _ h9 => h9) rfl dX6_become_28 ?_
                                                              refine lv_iload_n hx hb dX6_become_31 rfl (lv_at hl 0 rfl) ?_
                                                              refine lv_iconst (v := 0) hx hb dX6_become_32 (by decide) ?_
                                                              refine lz_astc hx hb hK hP hD hS 1 0 rfl rfl (lz_vp (x := 29) (n := 40) (by decide) (by decide)) dX6_become_33 (fun H locs hP hD hS => ?_)
                                                              refine lv_iinc (v := 30) (lv' := [(3, .int 30), (0, .ref h0), (1, .int (-1)), (2, .int 0)]) hx hb dX6_become_34 hl (k := 0) rfl (by decide) (by decide) rfl (fun ls hl => ?_)
                                                              refine lv_goto (tgt := 21) hx hb dX6_become_37 (by decide) ?_
                                                              refine lv_iload_n hx hb dX6_become_21 rfl (lv_at hl 0 rfl) ?_
                                                              refine lv_bipush (v := 40) hx hb dX6_become_22 (by decide) ?_
                                                              refine lv_icmp_ge (tgt := 40) hx hb dX6_become_24 (by decide) (fun c4360 => ?_) (fun c4360 => ?_)
                                                              · exact absurd c4360 (by decide)
                                                              · refine lv_aload_n hx hb dX6_become_27 rfl (lv_at hl 1 rfl) ?_
                                                                refine va_get (D := D) (ci := 6) (v := .ref h1) (C := RX6) (T := TX6) (N := 3) hx hb hts hin6 hown hK hP 0 rfl rfl 0 (by decide) (hts (.fieldLink RX6 9 "MissedPoints$Sheet" "numbers" "[I") (by decide +kernel)) (fun _ h9 => h9) rfl dX6_become_28 ?_
                                                                refine lv_iload_n hx hb dX6_become_31 rfl (lv_at hl 0 rfl) ?_
                                                                refine lv_iconst (v := 0) hx hb dX6_become_32 (by decide) ?_
                                                                refine lz_astc hx hb hK hP hD hS 1 0 rfl rfl (lz_vp (x := 30) (n := 40) (by decide) (by decide)) dX6_become_33 (fun H locs hP hD hS => ?_)
                                                                refine lv_iinc (v := 31) (lv' := [(3, .int 31), (0, .ref h0), (1, .int (-1)), (2, .int 0)]) hx hb dX6_become_34 hl (k := 0) rfl (by decide) (by decide) rfl (fun ls hl => ?_)
                                                                refine lv_goto (tgt := 21) hx hb dX6_become_37 (by decide) ?_
                                                                refine lv_iload_n hx hb dX6_become_21 rfl (lv_at hl 0 rfl) ?_
                                                                refine lv_bipush (v := 40) hx hb dX6_become_22 (by decide) ?_
                                                                refine lv_icmp_ge (tgt := 40) hx hb dX6_become_24 (by decide) (fun c4361 => ?_) (fun c4361 => ?_)
                                                                · exact absurd c4361 (by decide)
                                                                · refine lv_aload_n hx hb dX6_become_27 rfl (lv_at hl 1 rfl) ?_
                                                                  refine va_get (D := D) (ci := 6) (v := .ref h1) (C := RX6) (T := TX6) (N := 3) hx hb hts hin6 hown hK hP 0 rfl rfl 0 (by decide) (hts (.fieldLink RX6 9 "MissedPoints$Sheet" "numbers" "[I") (by decide +kernel)) (fun _ h9 => h9) rfl dX6_become_28 ?_
                                                                  refine lv_iload_n hx hb dX6_become_31 rfl (lv_at hl 0 rfl) ?_
                                                                  refine lv_iconst (v := 0) hx hb dX6_become_32 (by decide) ?_
                                                                  refine lz_astc hx hb hK hP hD hS 1 0 rfl rfl (lz_vp (x := 31) (n := 40) (by decide) (by decide)) dX6_become_33 (fun H locs hP hD hS => ?_)
                                                                  refine lv_iinc (v := 32) (lv' := [(3, .int 32), (0, .ref h0), (1, .int (-1)), (2, .int 0)]) hx hb dX6_become_34 hl (k := 0) rfl (by decide) (by decide) rfl (fun ls hl => ?_)
                                                                  refine lv_goto (tgt := 21) hx hb dX6_become_37 (by decide) ?_
                                                                  refine lv_iload_n hx hb dX6_become_21 rfl (lv_at hl 0 rfl) ?_
                                                                  refine lv_bipush (v := 40) hx hb dX6_become_22 (by decide) ?_
                                                                  refine lv_icmp_ge (tgt := 40) hx hb dX6_become_24 (by decide) (fun c4362 => ?_) (fun c4362 => ?_)
                                                                  · exact absurd c4362 (by decide)
                                                                  · refine lv_aload_n hx hb dX6_become_27 rfl (lv_at hl 1 rfl) ?_
                                                                    refine va_get (D := D) (ci := 6) (v := .ref h1) (C := RX6) (T := TX6) (N := 3) hx hb hts hin6 hown hK hP 0 rfl rfl 0 (by decide) (hts (.fieldLink RX6 9 "MissedPoints$Sheet" "numbers" "[I") (by decide +kernel)) (fun _ h9 => h9) rfl dX6_become_28 ?_
                                                                    refine lv_iload_n hx hb dX6_become_31 rfl (lv_at hl 0 rfl) ?_
                                                                    refine lv_iconst (v := 0) hx hb dX6_become_32 (by decide) ?_
                                                                    refine lz_astc hx hb hK hP hD hS 1 0 rfl rfl (lz_vp (x := 32) (n := 40) (by decide) (by decide)) dX6_become_33 (fun H locs hP hD hS => ?_)
                                                                    refine lv_iinc (v := 33) (lv' := [(3, .int 33), (0, .ref h0), (1, .int (-1)), (2, .int 0)]) hx hb dX6_become_34 hl (k := 0) rfl (by decide) (by decide) rfl (fun ls hl => ?_)
                                                                    refine lv_goto (tgt := 21) hx hb dX6_become_37 (by decide) ?_
                                                                    refine lv_iload_n hx hb dX6_become_21 rfl (lv_at hl 0 rfl) ?_
                                                                    refine lv_bipush (v := 40) hx hb dX6_become_22 (by decide) ?_
                                                                    refine lv_icmp_ge (tgt := 40) hx hb dX6_become_24 (by decide) (fun c4363 => ?_) (fun c4363 => ?_)
                                                                    · exact absurd c4363 (by decide)
                                                                    · refine lv_aload_n hx hb dX6_become_27 rfl (lv_at hl 1 rfl) ?_
                                                                      refine va_get (D := D) (ci := 6) (v := .ref h1) (C := RX6) (T := TX6) (N := 3) hx hb hts hin6 hown hK hP 0 rfl rfl 0 (by decide) (hts (.fieldLink RX6 9 "MissedPoints$Sheet" "numbers" "[I") (by decide +kernel)) (fun _ h9 => h9) rfl dX6_become_28 ?_
                                                                      refine lv_iload_n hx hb dX6_become_31 rfl (lv_at hl 0 rfl) ?_
                                                                      refine lv_iconst (v := 0) hx hb dX6_become_32 (by decide) ?_
                                                                      refine lz_astc hx hb hK hP hD hS 1 0 rfl rfl (lz_vp (x := 33) (n := 40) (by decide) (by decide)) dX6_become_33 (fun H locs hP hD hS => ?_)
                                                                      refine lv_iinc (v := 34) (lv' := [(3, .int 34), (0, .ref h0), (1, .int (-1)), (2, .int 0)]) hx hb dX6_become_34 hl (k := 0) rfl (by decide) (by decide) rfl (fun ls hl => ?_)
                                                                      refine lv_goto (tgt := 21) hx hb dX6_become_37 (by decide) ?_
                                                                      refine lv_iload_n hx hb dX6_become_21 rfl (lv_at hl 0 rfl) ?_
                                                                      refine lv_bipush (v := 40) hx hb dX6_become_22 (by decide) ?_
                                                                      refine lv_icmp_ge (tgt := 40) hx hb dX6_become_24 (by decide) (fun c4364 => ?_) (fun c4364 => ?_)
                                                                      · exact absurd c4364 (by decide)
                                                                      · refine lv_aload_n hx hb dX6_become_27 rfl (lv_at hl 1 rfl) ?_
                                                                        refine va_get (D := D) (ci := 6) (v := .ref h1) (C := RX6) (T := TX6) (N := 3) hx hb hts hin6 hown hK hP 0 rfl rfl 0 (by decide) (hts (.fieldLink RX6 9 "MissedPoints$Sheet" "numbers" "[I") (by decide +kernel)) (fun _ h9 => h9) rfl dX6_become_28 ?_
                                                                        refine lv_iload_n hx hb dX6_become_31 rfl (lv_at hl 0 rfl) ?_
                                                                        refine lv_iconst (v := 0) hx hb dX6_become_32 (by decide) ?_
                                                                        refine lz_astc hx hb hK hP hD hS 1 0 rfl rfl (lz_vp (x := 34) (n := 40) (by decide) (by decide)) dX6_become_33 (fun H locs hP hD hS => ?_)
                                                                        refine lv_iinc (v := 35) (lv' := [(3, .int 35), (0, .ref h0), (1, .int (-1)), (2, .int 0)]) hx hb dX6_become_34 hl (k := 0) rfl (by decide) (by decide) rfl (fun ls hl => ?_)
                                                                        refine lv_goto (tgt := 21) hx hb dX6_become_37 (by decide) ?_
                                                                        refine lv_iload_n hx hb dX6_become_21 rfl (lv_at hl 0 rfl) ?_
                                                                        refine lv_bipush (v := 40) hx hb dX6_become_22 (by decide) ?_
                                                                        refine lv_icmp_ge (tgt := 40) hx hb dX6_become_24 (by decide) (fun c4365 => ?_) (fun c4365 => ?_)
                                                                        · exact absurd c4365 (by decide)
                                                                        · refine lv_aload_n hx hb dX6_become_27 rfl (lv_at hl 1 rfl) ?_
                                                                          refine va_get (D := D) (ci := 6) (v := .ref h1) (C := RX6) (T := TX6) (N := 3) hx hb hts hin6 hown hK hP 0 rfl rfl 0 (by decide) (hts (.fieldLink RX6 9 "MissedPoints$Sheet" "numbers" "[I") (by decide +kernel)) (fun _ h9 => h9) rfl dX6_become_28 ?_
                                                                          refine lv_iload_n hx hb dX6_become_31 rfl (lv_at hl 0 rfl) ?_
                                                                          refine lv_iconst (v := 0) hx hb dX6_become_32 (by decide) ?_
                                                                          refine lz_astc hx hb hK hP hD hS 1 0 rfl rfl (lz_vp (x := 35) (n := 40) (by decide) (by decide)) dX6_become_33 (fun H locs hP hD hS => ?_)
                                                                          refine lv_iinc (v := 36) (lv' := [(3, .int 36), (0, .ref h0), (1, .int (-1)), (2, .int 0)]) hx hb dX6_become_34 hl (k := 0) rfl (by decide) (by decide) rfl (fun ls hl => ?_)
                                                                          refine lv_goto (tgt := 21) hx hb dX6_become_37 (by decide) ?_
                                                                          refine lv_iload_n hx hb dX6_become_21 rfl (lv_at hl 0 rfl) ?_
                                                                          refine lv_bipush (v := 40) hx hb dX6_become_22 (by decide) ?_
                                                                          refine lv_icmp_ge (tgt := 40) hx hb dX6_become_24 (by decide) (fun c4366 => ?_) (fun c4366 => ?_)
                                                                          · exact absurd c4366 (by decide)
                                                                          · refine lv_aload_n hx hb dX6_become_27 rfl (lv_at hl 1 rfl) ?_
                                                                            refine va_get (D := D) (ci := 6) (v := .ref h1) (C := RX6) (T := TX6) (N := 3) hx hb hts hin6 hown hK hP 0 rfl rfl 0 (by decide) (hts (.fieldLink RX6 9 "MissedPoints$Sheet" "numbers" "[I") (by decide +kernel)) (fun _ h9 => h9) rfl dX6_become_28 ?_
                                                                            refine lv_iload_n hx hb dX6_become_31 rfl (lv_at hl 0 rfl) ?_
                                                                            refine lv_iconst (v := 0) hx hb dX6_become_32 (by decide) ?_
                                                                            refine lz_astc hx hb hK hP hD hS 1 0 rfl rfl (lz_vp (x := 36) (n := 40) (by decide) (by decide)) dX6_become_33 (fun H locs hP hD hS => ?_)
                                                                            refine lv_iinc (v := 37) (lv' := [(3, .int 37), (0, .ref h0), (1, .int (-1)), (2, .int 0)]) hx hb dX6_become_34 hl (k := 0) rfl (by decide) (by decide) rfl (fun ls hl => ?_)
                                                                            refine lv_goto (tgt := 21) hx hb dX6_become_37 (by decide) ?_
                                                                            refine lv_iload_n hx hb dX6_become_21 rfl (lv_at hl 0 rfl) ?_
                                                                            refine lv_bipush (v := 40) hx hb dX6_become_22 (by decide) ?_
                                                                            refine lv_icmp_ge (tgt := 40) hx hb dX6_become_24 (by decide) (fun c4367 => ?_) (fun c4367 => ?_)
                                                                            · exact absurd c4367 (by decide)
                                                                            · refine lv_aload_n hx hb dX6_become_27 rfl (lv_at hl 1 rfl) ?_
                                                                              refine va_get (D := D) (ci := 6) (v := .ref h1) (C := RX6) (T := TX6) (N := 3) hx hb hts hin6 hown hK hP 0 rfl rfl 0 (by decide) (hts (.fieldLink RX6 9 "MissedPoints$Sheet" "numbers" "[I") (by decide +kernel)) (fun _ h9 => h9) rfl dX6_become_28 ?_
                                                                              refine lv_iload_n hx hb dX6_become_31 rfl (lv_at hl 0 rfl) ?_
                                                                              refine lv_iconst (v := 0) hx hb dX6_become_32 (by decide) ?_
                                                                              refine lz_astc hx hb hK hP hD hS 1 0 rfl rfl (lz_vp (x := 37) (n := 40) (by decide) (by decide)) dX6_become_33 (fun H locs hP hD hS => ?_)
                                                                              refine lv_iinc (v := 38) (lv' := [(3, .int 38), (0, .ref h0), (1, .int (-1)), (2, .int 0)]) hx hb dX6_become_34 hl (k := 0) rfl (by decide) (by decide) rfl (fun ls hl => ?_)
                                                                              refine lv_goto (tgt := 21) hx hb dX6_become_37 (by decide) ?_
                                                                              refine lv_iload_n hx hb dX6_become_21 rfl (lv_at hl 0 rfl) ?_
                                                                              refine lv_bipush (v := 40) hx hb dX6_become_22 (by decide) ?_
                                                                              refine lv_icmp_ge (tgt := 40) hx hb dX6_become_24 (by decide) (fun c4368 => ?_) (fun c4368 => ?_)
                                                                              · exact absurd c4368 (by decide)
                                                                              · refine lv_aload_n hx hb dX6_become_27 rfl (lv_at hl 1 rfl) ?_
                                                                                refine va_get (D := D) (ci := 6) (v := .ref h1) (C := RX6) (T := TX6) (N := 3) hx hb hts hin6 hown hK hP 0 rfl rfl 0 (by decide) (hts (.fieldLink RX6 9 "MissedPoints$Sheet" "numbers" "[I") (by decide +kernel)) (fun _ h9 => h9) rfl dX6_become_28 ?_
                                                                                refine lv_iload_n hx hb dX6_become_31 rfl (lv_at hl 0 rfl) ?_
                                                                                refine lv_iconst (v := 0) hx hb dX6_become_32 (by decide) ?_
                                                                                refine lz_astc hx hb hK hP hD hS 1 0 rfl rfl (lz_vp (x := 38) (n := 40) (by decide) (by decide)) dX6_become_33 (fun H locs hP hD hS => ?_)
                                                                                refine lv_iinc (v := 39) (lv' := [(3, .int 39), (0, .ref h0), (1, .int (-1)), (2, .int 0)]) hx hb dX6_become_34 hl (k := 0) rfl (by decide) (by decide) rfl (fun ls hl => ?_)
                                                                                refine lv_goto (tgt := 21) hx hb dX6_become_37 (by decide) ?_
                                                                                refine lv_iload_n hx hb dX6_become_21 rfl (lv_at hl 0 rfl) ?_
                                                                                refine lv_bipush (v := 40) hx hb dX6_become_22 (by decide) ?_
                                                                                refine lv_icmp_ge (tgt := 40) hx hb dX6_become_24 (by decide) (fun c4369 => ?_) (fun c4369 => ?_)
                                                                                · exact absurd c4369 (by decide)
                                                                                · refine lv_aload_n hx hb dX6_become_27 rfl (lv_at hl 1 rfl) ?_
                                                                                  refine va_get (D := D) (ci := 6) (v := .ref h1) (C := RX6) (T := TX6) (N := 3) hx hb hts hin6 hown hK hP 0 rfl rfl 0 (by decide) (hts (.fieldLink RX6 9 "MissedPoints$Sheet" "numbers" "[I") (by decide +kernel)) (fun _ h9 => h9) rfl dX6_become_28 ?_
                                                                                  refine lv_iload_n hx hb dX6_become_31 rfl (lv_at hl 0 rfl) ?_
                                                                                  refine lv_iconst (v := 0) hx hb dX6_become_32 (by decide) ?_
                                                                                  refine lz_astc hx hb hK hP hD hS 1 0 rfl rfl (lz_vp (x := 39) (n := 40) (by decide) (by decide)) dX6_become_33 (fun H locs hP hD hS => ?_)
                                                                                  refine lv_iinc (v := 40) (lv' := [(3, .int 40), (0, .ref h0), (1, .int (-1)), (2, .int 0)]) hx hb dX6_become_34 hl (k := 0) rfl (by decide) (by decide) rfl (fun ls hl => ?_)
                                                                                  refine lv_goto (tgt := 21) hx hb dX6_become_37 (by decide) ?_
                                                                                  refine lv_iload_n hx hb dX6_become_21 rfl (lv_at hl 0 rfl) ?_
                                                                                  refine lv_bipush (v := 40) hx hb dX6_become_22 (by decide) ?_
                                                                                  refine lv_icmp_ge (tgt := 40) hx hb dX6_become_24 (by decide) (fun c4370 => ?_) (fun c4370 => ?_)
                                                                                  · have hP9 := hP.sub (ws' := [(h0, .inr (6, [.ref h1, .int (-1), .int 0])), (h1, .inl (cI, 40, .inl (fun _ => 0)))]) [0, 1] rfl
                                                                                    have hD9 := hD.sub (ws' := [(h0, .inr (6, [.ref h1, .int (-1), .int 0])), (h1, .inl (cI, 40, .inl (fun _ => 0)))]) [0, 1] (by decide) rfl
                                                                                    subst hAe
                                                                                    exact W.vret hx hb hr (fun t ht hW => ⟨⟨(), rfl, trivial, by rw [ht]; exact hP9, hD9⟩, hS.F ht⟩) hS.2.2 dX6_become_40
                                                                                  · exact absurd c4370 (by decide)
set_option maxHeartbeats 4000000 in
set_option maxRecDepth 100000 in
theorem c_X11_sheet_0 (l : Launch) (D : va_G) (cI cS : ClassId) (sz : Nat) (h0 h1 h2 h3 h4 h5 h6 h7 h8 h9 h10 h11 h12 h13 h14 h25 h26 h27 h28 h41 h42 h43 h44 : Nat) (x0 x1 x2 : Int32) : Met l yX11_sheet wsX11_sheet ({ frames := 2, cells := 0, slots := 0, locals := 80 }) (PQ D cI cS [(h0, .inr (11, [.ref h1, .ref h2, .ref h3, .ref h4, .ref h5, .ref h6, .ref h7, .int 0, .int 0, .ref h8, .ref h9, .ref h10, .ref h11, .ref h12, .ref h13, .ref h14])), (h11, .inl (cS, 4, .inr (.inr (.inr (.inr (fun k => [h25, h26, h27, h28][k]?)))))), (h25, .inr (6, [.ref h41, .int (-1), .int 0])), (h26, .inr (6, [.ref h42, .int (-1), .int 0])), (h27, .inr (6, [.ref h43, .int (-1), .int 0])), (h28, .inr (6, [.ref h44, .int (-1), .int 0])), (h41, .inl (cI, 40, .inl (fun _ => 0))), (h42, .inl (cI, 40, .inl (fun _ => 0))), (h43, .inl (cI, 40, .inl (fun _ => 0))), (h44, .inl (cI, 40, .inl (fun _ => 0)))] sz [.ref h0, .int x0, .int x1, .int x2]) (QI D [(h0, .inr (11, [.ref h1, .ref h2, .ref h3, .ref h4, .ref h5, .ref h6, .ref h7, .int 0, .int 0, .ref h8, .ref h9, .ref h10, .ref h11, .ref h12, .ref h13, .ref h14])), (h11, .inl (cS, 4, .inr (.inr (.inr (.inr (fun k => [h25, h26, h27, h28][k]?)))))), (h25, .inr (6, [.ref h41, .int (-1), .int 0])), (h26, .inr (6, [.ref h42, .int (-1), .int 0])), (h27, .inr (6, [.ref h43, .int (-1), .int 0])), (h28, .inr (6, [.ref h44, .int (-1), .int 0])), (h41, .inl (cI, 40, .inl (fun _ => 0))), (h42, .inl (cI, 40, .inl (fun _ => 0))), (h43, .inl (cI, 40, .inl (fun _ => 0))), (h44, .inl (cI, 40, .inl (fun _ => 0)))] [] sz (fun r => r = if x0 < 0 then ((-2) : Int32) else (if (4 : Int32) ≤ x0 then ((-2) : Int32) else (if x1 = (-1) then (1 : Int32) else (if x1 = 0 then (if x2 ≤ 40 then (if (0 : Int32) ≤ x2 then (1 : Int32) else ((-14) : Int32)) else ((-2) : Int32)) else (if x1 = 1 then (if x2 ≤ 40 then (if (0 : Int32) ≤ x2 then (1 : Int32) else ((-14) : Int32)) else ((-2) : Int32)) else ((-2) : Int32))))))) 0 0 (va_A [(h0, .inr (11, [.ref h1, .ref h2, .ref h3, .ref h4, .ref h5, .ref h6, .ref h7, .int 0, .int 0, .ref h8, .ref h9, .ref h10, .ref h11, .ref h12, .ref h13, .ref h14])), (h11, .inl (cS, 4, .inr (.inr (.inr (.inr (fun k => [h25, h26, h27, h28][k]?)))))), (h25, .inr (6, [.ref h41, .int (-1), .int 0])), (h26, .inr (6, [.ref h42, .int (-1), .int 0])), (h27, .inr (6, [.ref h43, .int (-1), .int 0])), (h28, .inr (6, [.ref h44, .int (-1), .int 0])), (h41, .inl (cI, 40, .inl (fun _ => 0))), (h42, .inl (cI, 40, .inl (fun _ => 0))), (h43, .inl (cI, 40, .inl (fun _ => 0))), (h44, .inl (cI, 40, .inl (fun _ => 0)))] sz) := by
  refine Met.ofW (cc := cX11_sheet) (maxL := 4) (ret := (some .int)) (by decide) rfl ?_
  intro p e s m args below meth c s₁ B hml hv
  obtain ⟨rfl, hsz, hP, hKK, hD0⟩ := hv
  have hx := B.exec
  have hb := B.bytes
  have hr := B.returns
  have hts := atoms_spec (ws := wsX11_sheet) B.pre
  have hown : s.vm.findClass RX11 = some m.cls := findClass_of_methodNamed B.named
  have hlocks := B.notSynchronized
  have hK := hKK.1
  have hN := hKK.2
  have hin11 : ∀ w ∈ wsX110, w ∈ wsX11_sheet := by decide +kernel
  subst hsz
  have hD := hD0.self (sz := s.heap.size)
  obtain ⟨A, hAe⟩ : ∃ A, A = va_A [(h0, .inr (11, [.ref h1, .ref h2, .ref h3, .ref h4, .ref h5, .ref h6, .ref h7, .int 0, .int 0, .ref h8, .ref h9, .ref h10, .ref h11, .ref h12, .ref h13, .ref h14])), (h11, .inl (cS, 4, .inr (.inr (.inr (.inr (fun k => [h25, h26, h27, h28][k]?)))))), (h25, .inr (6, [.ref h41, .int (-1), .int 0])), (h26, .inr (6, [.ref h42, .int (-1), .int 0])), (h27, .inr (6, [.ref h43, .int (-1), .int 0])), (h28, .inr (6, [.ref h44, .int (-1), .int 0])), (h41, .inl (cI, 40, .inl (fun _ => 0))), (h42, .inl (cI, 40, .inl (fun _ => 0))), (h43, .inl (cI, 40, .inl (fun _ => 0))), (h44, .inl (cI, 40, .inl (fun _ => 0)))] s.heap.size := ⟨_, rfl⟩
  rw [← hAe] at hD
  have hA : ∀ q : Nat, s.heap.size ≤ q → A q := fun q h => by rw [hAe]; exact Or.inr h
  have hS : va_S A s.heap s.heap [] := va_S.rf
  have hl := lv_entry ([.ref h0, .int x0, .int x1, .int x2]) (n := 4) (Nat.le_of_ble_eq_true rfl)
  rw [lg_entry_eq]
  generalize (lg_sl ([.ref h0, .int x0, .int x1, .int x2]) ++ List.replicate (4 - (lg_sl ([.ref h0, .int x0, .int x1, .int x2])).length) Slot.unset).toArray = ls at hl ⊢
  have hl : lv_has ls 4 [(0, .ref h0), (1, .int x0), (2, .int x1), (3, .int x2)] := hl
  refine lv_iload_n hx hb dX11_sheet_0 rfl (lv_at hl 1 rfl) ?_
  have hPc := hP.sub (ws' := []) [] rfl
  refine lz_ss (As := [.int x0]) (rest := []) ⟨hx, hb, hml, hown, hts⟩ (c_X11_isSheet_0 l D cI cS x0) hKK hPc (va_cwS 1 hts gX11_sheet_X11_isSheet rfl rfl rfl (by decide +kernel) ⟨Nat.le_of_ble_eq_true rfl, Nat.le_of_ble_eq_true rfl⟩) rfl hl.1 rfl (Nat.le_of_ble_eq_true rfl) dX11_sheet_1 ⟨Nat.le_of_ble_eq_true rfl, Nat.le_of_ble_eq_true rfl⟩ (fun r4377 hw => ?_)
  by_cases k4378 : x0 < 0
  · rw [if_pos k4378] at hw
    subst hw
    refine lv_if_ne (tgt := 10) hx hb dX11_sheet_4 (by decide) (fun c4379 => ?_) (fun c4379 => ?_)
    · exact absurd c4379 (by decide)
    · refine lv_bipush (v := (-2)) hx hb dX11_sheet_7 (by decide) ?_
      have hP9 := hP.sub (ws' := []) [] rfl
      have hD9 := hD.sub (ws' := []) [] (by decide) rfl
      subst hAe
      exact W.iret (v := (-2)) hx hb hr (fun t ht hW => ⟨⟨_, (), rfl, by rw [if_pos k4378], by rw [ht]; exact hP9, hD9⟩, hS.F ht⟩) hS.2.2 dX11_sheet_9
  · rw [if_neg k4378] at hw
    by_cases k4380 : (4 : Int32) ≤ x0
    · rw [if_pos k4380] at hw
      subst hw
      refine lv_if_ne (tgt := 10) hx hb dX11_sheet_4 (by decide) (fun c4381 => ?_) (fun c4381 => ?_)
      · exact absurd c4381 (by decide)
      · refine lv_bipush (v := (-2)) hx hb dX11_sheet_7 (by decide) ?_
        have hP9 := hP.sub (ws' := []) [] rfl
        have hD9 := hD.sub (ws' := []) [] (by decide) rfl
        subst hAe
        exact W.iret (v := (-2)) hx hb hr (fun t ht hW => ⟨⟨_, (), rfl, by rw [if_neg k4378, if_pos k4380], by rw [ht]; exact hP9, hD9⟩, hS.F ht⟩) hS.2.2 dX11_sheet_9
    · rw [if_neg k4380] at hw
      subst hw
      refine lv_if_ne (tgt := 10) hx hb dX11_sheet_4 (by decide) (fun c4382 => ?_) (fun c4382 => ?_)
      · refine lv_iload_n hx hb dX11_sheet_10 rfl (lv_at hl 2 rfl) ?_
        refine lv_iconst (v := (-1)) hx hb dX11_sheet_11 (by decide) ?_
        refine lv_icmp_ne (tgt := 28) hx hb dX11_sheet_12 (by decide) (fun c4383 => ?_) (fun c4383 => ?_)
        · refine lv_iload_n hx hb dX11_sheet_28 rfl (lv_at hl 2 rfl) ?_
          have hPc := hP.sub (ws' := []) [] rfl
          refine lz_ss (As := [.int x1]) (rest := []) ⟨hx, hb, hml, hown, hts⟩ (c_X11_isSort_0 l D cI cS x1) hKK hPc (va_cwS 1 hts gX11_sheet_X11_isSort rfl rfl rfl (by decide +kernel) ⟨Nat.le_of_ble_eq_true rfl, Nat.le_of_ble_eq_true rfl⟩) rfl hl.1 rfl (Nat.le_of_ble_eq_true rfl) dX11_sheet_29 ⟨Nat.le_of_ble_eq_true rfl, Nat.le_of_ble_eq_true rfl⟩ (fun r4384 hw => ?_)
          by_cases k4385 : x1 = 0
          · rw [if_pos k4385] at hw
            subst k4385
            subst hw
            refine lv_if_eq (tgt := 41) hx hb dX11_sheet_32 (by decide) (fun c4386 => ?_) (fun c4386 => ?_)
            · exact absurd c4386 (by decide)
            · refine lv_iload_n hx hb dX11_sheet_35 rfl (lv_at hl 3 rfl) ?_
              refine lv_bipush (v := 40) hx hb dX11_sheet_36 (by decide) ?_
              refine lv_icmp_le (tgt := 44) hx hb dX11_sheet_38 (by decide) (fun c4387 => ?_) (fun c4387 => ?_)
              · refine lv_iload_n hx hb dX11_sheet_44 rfl (lv_at hl 3 rfl) ?_
                refine lv_if_ge (tgt := 51) hx hb dX11_sheet_45 (by decide) (fun c4388 => ?_) (fun c4388 => ?_)
                · refine lv_aload_n hx hb dX11_sheet_51 rfl (lv_at hl 0 rfl) ?_
                  refine va_get (D := D) (ci := 11) (v := .ref h11) (C := RX11) (T := TX11) (N := 16) hx hb hts hin11 hown hK hP 0 rfl rfl 12 (by decide) (hts (.fieldLink RX11 75 "MissedPoints" "sheets" "[LMissedPoints$Sheet;") (by decide +kernel)) (fun _ h9 => h9) rfl dX11_sheet_52 ?_
                  refine lv_iload_n hx hb dX11_sheet_55 rfl (lv_at hl 1 rfl) ?_
                  by_cases k4389 : x0 = 0
                  · subst k4389
                    refine va_aldq hx hb hK hP 1 1 rfl rfl (lz_vp (x := 0) (n := 4) (by decide) (by decide)) dX11_sheet_56 ?_
                    refine lz_va (y := .ref h25) rfl ?_
                    refine lv_iload_n hx hb dX11_sheet_57 rfl (lv_at hl 2 rfl) ?_
                    refine lv_iload_n hx hb dX11_sheet_58 rfl (lv_at hl 3 rfl) ?_
                    have hPc := hP.sub (ws' := [(h25, .inr (6, [.ref h41, .int (-1), .int 0])), (h41, .inl (cI, 40, .inl (fun _ => 0)))]) [2, 6] rfl
                    have hDc := hD.sub (ws' := [(h25, .inr (6, [.ref h41, .int (-1), .int 0])), (h41, .inl (cI, 40, .inl (fun _ => 0)))]) [2, 6] (by decide) rfl
                    refine lz_qv (wr := [(h0, .inr (11, [.ref h1, .ref h2, .ref h3, .ref h4, .ref h5, .ref h6, .ref h7, .int 0, .int 0, .ref h8, .ref h9, .ref h10, .ref h11, .ref h12, .ref h13, .ref h14])), (h11, .inl (cS, 4, .inr (.inr (.inr (.inr (fun k => [h25, h26, h27, h28][k]?)))))), (h26, .inr (6, [.ref h42, .int (-1), .int 0])), (h27, .inr (6, [.ref h43, .int (-1), .int 0])), (h28, .inr (6, [.ref h44, .int (-1), .int 0])), (h42, .inl (cI, 40, .inl (fun _ => 0))), (h43, .inl (cI, 40, .inl (fun _ => 0))), (h44, .inl (cI, 40, .inl (fun _ => 0)))]) (w1 := [(h25, .inr (6, [.ref h41, .int 0, .int (if (0 : Int32) < (if (40 : Int32) < x2 then (40 : Int32) else x2) then (if (40 : Int32) < x2 then (40 : Int32) else x2) else (0 : Int32))])), (h41, .inl (cI, 40, .inl (fun _ => 0)))]) (As := [.int 0, .int x2]) (rest := []) ⟨hx, hb, hml, hown, hts⟩ (c_X6_become_2 l D cI cS _ h25 h41 x2) hKK hP hD hS hA [2, 6] [0, 1, 3, 4, 5, 7, 8, 9] (by decide) rfl rfl (by decide) (by decide) hPc hDc (ci := 6) rfl rfl (cwV 2 hts gX11_sheet_X6_become rfl rfl rfl (by decide +kernel) ⟨Nat.le_of_ble_eq_true rfl, Nat.le_of_ble_eq_true rfl⟩) rfl hl.1 rfl (Nat.le_of_ble_eq_true rfl) dX11_sheet_59 ⟨Nat.le_of_ble_eq_true rfl, Nat.le_of_ble_eq_true rfl⟩ (fun H locs hP hD hS => ?_)
                    have hP : va_P D cls [(h0, .inr (11, [.ref h1, .ref h2, .ref h3, .ref h4, .ref h5, .ref h6, .ref h7, .int 0, .int 0, .ref h8, .ref h9, .ref h10, .ref h11, .ref h12, .ref h13, .ref h14])), (h11, .inl (cS, 4, .inr (.inr (.inr (.inr (fun k => [h25, h26, h27, h28][k]?)))))), (h26, .inr (6, [.ref h42, .int (-1), .int 0])), (h27, .inr (6, [.ref h43, .int (-1), .int 0])), (h28, .inr (6, [.ref h44, .int (-1), .int 0])), (h42, .inl (cI, 40, .inl (fun _ => 0))), (h43, .inl (cI, 40, .inl (fun _ => 0))), (h44, .inl (cI, 40, .inl (fun _ => 0))), (h25, .inr (6, [.ref h41, .int 0, .int (if (0 : Int32) < (if (40 : Int32) < x2 then (40 : Int32) else x2) then (if (40 : Int32) < x2 then (40 : Int32) else x2) else (0 : Int32))])), (h41, .inl (cI, 40, .inl (fun _ => 0)))] H := hP
                    have hD : va_D A [(h0, .inr (11, [.ref h1, .ref h2, .ref h3, .ref h4, .ref h5, .ref h6, .ref h7, .int 0, .int 0, .ref h8, .ref h9, .ref h10, .ref h11, .ref h12, .ref h13, .ref h14])), (h11, .inl (cS, 4, .inr (.inr (.inr (.inr (fun k => [h25, h26, h27, h28][k]?)))))), (h26, .inr (6, [.ref h42, .int (-1), .int 0])), (h27, .inr (6, [.ref h43, .int (-1), .int 0])), (h28, .inr (6, [.ref h44, .int (-1), .int 0])), (h42, .inl (cI, 40, .inl (fun _ => 0))), (h43, .inl (cI, 40, .inl (fun _ => 0))), (h44, .inl (cI, 40, .inl (fun _ => 0))), (h25, .inr (6, [.ref h41, .int 0, .int (if (0 : Int32) < (if (40 : Int32) < x2 then (40 : Int32) else x2) then (if (40 : Int32) < x2 then (40 : Int32) else x2) else (0 : Int32))])), (h41, .inl (cI, 40, .inl (fun _ => 0)))] := hD
                    refine lv_iconst (v := 1) hx hb dX11_sheet_62 (by decide) ?_
                    have hP9 := hP.sub (ws' := []) [] rfl
                    have hD9 := hD.sub (ws' := []) [] (by decide) rfl
                    subst hAe
                    exact W.iret (v := 1) hx hb hr (fun t ht hW => ⟨⟨_, (), rfl, by rw [if_neg k4378, if_neg k4380, if_neg c4383, if_pos rfl, if_pos c4387, if_pos c4388], by rw [ht]; exact hP9, hD9⟩, hS.F ht⟩) hS.2.2 dX11_sheet_63
                  · by_cases k4391 : x0 = 1
                    · subst k4391
                      refine va_aldq hx hb hK hP 1 1 rfl rfl (lz_vp (x := 1) (n := 4) (by decide) (by decide)) dX11_sheet_56 ?_
                      refine lz_va (y := .ref h26) rfl ?_
                      refine lv_iload_n hx hb dX11_sheet_57 rfl (lv_at hl 2 rfl) ?_
                      refine lv_iload_n hx hb dX11_sheet_58 rfl (lv_at hl 3 rfl) ?_
                      have hPc := hP.sub (ws' := [(h26, .inr (6, [.ref h42, .int (-1), .int 0])), (h42, .inl (cI, 40, .inl (fun _ => 0)))]) [3, 7] rfl
                      have hDc := hD.sub (ws' := [(h26, .inr (6, [.ref h42, .int (-1), .int 0])), (h42, .inl (cI, 40, .inl (fun _ => 0)))]) [3, 7] (by decide) rfl
                      refine lz_qv (wr := [(h0, .inr (11, [.ref h1, .ref h2, .ref h3, .ref h4, .ref h5, .ref h6, .ref h7, .int 0, .int 0, .ref h8, .ref h9, .ref h10, .ref h11, .ref h12, .ref h13, .ref h14])), (h11, .inl (cS, 4, .inr (.inr (.inr (.inr (fun k => [h25, h26, h27, h28][k]?)))))), (h25, .inr (6, [.ref h41, .int (-1), .int 0])), (h27, .inr (6, [.ref h43, .int (-1), .int 0])), (h28, .inr (6, [.ref h44, .int (-1), .int 0])), (h41, .inl (cI, 40, .inl (fun _ => 0))), (h43, .inl (cI, 40, .inl (fun _ => 0))), (h44, .inl (cI, 40, .inl (fun _ => 0)))]) (w1 := [(h26, .inr (6, [.ref h42, .int 0, .int (if (0 : Int32) < (if (40 : Int32) < x2 then (40 : Int32) else x2) then (if (40 : Int32) < x2 then (40 : Int32) else x2) else (0 : Int32))])), (h42, .inl (cI, 40, .inl (fun _ => 0)))]) (As := [.int 0, .int x2]) (rest := []) ⟨hx, hb, hml, hown, hts⟩ (c_X6_become_2 l D cI cS _ h26 h42 x2) hKK hP hD hS hA [3, 7] [0, 1, 2, 4, 5, 6, 8, 9] (by decide) rfl rfl (by decide) (by decide) hPc hDc (ci := 6) rfl rfl (cwV 2 hts gX11_sheet_X6_become rfl rfl rfl (by decide +kernel) ⟨Nat.le_of_ble_eq_true rfl, Nat.le_of_ble_eq_true rfl⟩) rfl hl.1 rfl (Nat.le_of_ble_eq_true rfl) dX11_sheet_59 ⟨Nat.le_of_ble_eq_true rfl, Nat.le_of_ble_eq_true rfl⟩ (fun H locs hP hD hS => ?_)
                      have hP : va_P D cls [(h0, .inr (11, [.ref h1, .ref h2, .ref h3, .ref h4, .ref h5, .ref h6, .ref h7, .int 0, .int 0, .ref h8, .ref h9, .ref h10, .ref h11, .ref h12, .ref h13, .ref h14])), (h11, .inl (cS, 4, .inr (.inr (.inr (.inr (fun k => [h25, h26, h27, h28][k]?)))))), (h25, .inr (6, [.ref h41, .int (-1), .int 0])), (h27, .inr (6, [.ref h43, .int (-1), .int 0])), (h28, .inr (6, [.ref h44, .int (-1), .int 0])), (h41, .inl (cI, 40, .inl (fun _ => 0))), (h43, .inl (cI, 40, .inl (fun _ => 0))), (h44, .inl (cI, 40, .inl (fun _ => 0))), (h26, .inr (6, [.ref h42, .int 0, .int (if (0 : Int32) < (if (40 : Int32) < x2 then (40 : Int32) else x2) then (if (40 : Int32) < x2 then (40 : Int32) else x2) else (0 : Int32))])), (h42, .inl (cI, 40, .inl (fun _ => 0)))] H := hP
                      have hD : va_D A [(h0, .inr (11, [.ref h1, .ref h2, .ref h3, .ref h4, .ref h5, .ref h6, .ref h7, .int 0, .int 0, .ref h8, .ref h9, .ref h10, .ref h11, .ref h12, .ref h13, .ref h14])), (h11, .inl (cS, 4, .inr (.inr (.inr (.inr (fun k => [h25, h26, h27, h28][k]?)))))), (h25, .inr (6, [.ref h41, .int (-1), .int 0])), (h27, .inr (6, [.ref h43, .int (-1), .int 0])), (h28, .inr (6, [.ref h44, .int (-1), .int 0])), (h41, .inl (cI, 40, .inl (fun _ => 0))), (h43, .inl (cI, 40, .inl (fun _ => 0))), (h44, .inl (cI, 40, .inl (fun _ => 0))), (h26, .inr (6, [.ref h42, .int 0, .int (if (0 : Int32) < (if (40 : Int32) < x2 then (40 : Int32) else x2) then (if (40 : Int32) < x2 then (40 : Int32) else x2) else (0 : Int32))])), (h42, .inl (cI, 40, .inl (fun _ => 0)))] := hD
                      refine lv_iconst (v := 1) hx hb dX11_sheet_62 (by decide) ?_
                      have hP9 := hP.sub (ws' := []) [] rfl
                      have hD9 := hD.sub (ws' := []) [] (by decide) rfl
                      subst hAe
                      exact W.iret (v := 1) hx hb hr (fun t ht hW => ⟨⟨_, (), rfl, by rw [if_neg k4378, if_neg k4380, if_neg c4383, if_pos rfl, if_pos c4387, if_pos c4388], by rw [ht]; exact hP9, hD9⟩, hS.F ht⟩) hS.2.2 dX11_sheet_63
                    · by_cases k4393 : x0 = 2
                      · subst k4393
                        refine va_aldq hx hb hK hP 1 1 rfl rfl (lz_vp (x := 2) (n := 4) (by decide) (by decide)) dX11_sheet_56 ?_
                        refine lz_va (y := .ref h27) rfl ?_
                        refine lv_iload_n hx hb dX11_sheet_57 rfl (lv_at hl 2 rfl) ?_
                        refine lv_iload_n hx hb dX11_sheet_58 rfl (lv_at hl 3 rfl) ?_
                        have hPc := hP.sub (ws' := [(h27, .inr (6, [.ref h43, .int (-1), .int 0])), (h43, .inl (cI, 40, .inl (fun _ => 0)))]) [4, 8] rfl
                        have hDc := hD.sub (ws' := [(h27, .inr (6, [.ref h43, .int (-1), .int 0])), (h43, .inl (cI, 40, .inl (fun _ => 0)))]) [4, 8] (by decide) rfl
                        refine lz_qv (wr := [(h0, .inr (11, [.ref h1, .ref h2, .ref h3, .ref h4, .ref h5, .ref h6, .ref h7, .int 0, .int 0, .ref h8, .ref h9, .ref h10, .ref h11, .ref h12, .ref h13, .ref h14])), (h11, .inl (cS, 4, .inr (.inr (.inr (.inr (fun k => [h25, h26, h27, h28][k]?)))))), (h25, .inr (6, [.ref h41, .int (-1), .int 0])), (h26, .inr (6, [.ref h42, .int (-1), .int 0])), (h28, .inr (6, [.ref h44, .int (-1), .int 0])), (h41, .inl (cI, 40, .inl (fun _ => 0))), (h42, .inl (cI, 40, .inl (fun _ => 0))), (h44, .inl (cI, 40, .inl (fun _ => 0)))]) (w1 := [(h27, .inr (6, [.ref h43, .int 0, .int (if (0 : Int32) < (if (40 : Int32) < x2 then (40 : Int32) else x2) then (if (40 : Int32) < x2 then (40 : Int32) else x2) else (0 : Int32))])), (h43, .inl (cI, 40, .inl (fun _ => 0)))]) (As := [.int 0, .int x2]) (rest := []) ⟨hx, hb, hml, hown, hts⟩ (c_X6_become_2 l D cI cS _ h27 h43 x2) hKK hP hD hS hA [4, 8] [0, 1, 2, 3, 5, 6, 7, 9] (by decide) rfl rfl (by decide) (by decide) hPc hDc (ci := 6) rfl rfl (cwV 2 hts gX11_sheet_X6_become rfl rfl rfl (by decide +kernel) ⟨Nat.le_of_ble_eq_true rfl, Nat.le_of_ble_eq_true rfl⟩) rfl hl.1 rfl (Nat.le_of_ble_eq_true rfl) dX11_sheet_59 ⟨Nat.le_of_ble_eq_true rfl, Nat.le_of_ble_eq_true rfl⟩ (fun H locs hP hD hS => ?_)
                        have hP : va_P D cls [(h0, .inr (11, [.ref h1, .ref h2, .ref h3, .ref h4, .ref h5, .ref h6, .ref h7, .int 0, .int 0, .ref h8, .ref h9, .ref h10, .ref h11, .ref h12, .ref h13, .ref h14])), (h11, .inl (cS, 4, .inr (.inr (.inr (.inr (fun k => [h25, h26, h27, h28][k]?)))))), (h25, .inr (6, [.ref h41, .int (-1), .int 0])), (h26, .inr (6, [.ref h42, .int (-1), .int 0])), (h28, .inr (6, [.ref h44, .int (-1), .int 0])), (h41, .inl (cI, 40, .inl (fun _ => 0))), (h42, .inl (cI, 40, .inl (fun _ => 0))), (h44, .inl (cI, 40, .inl (fun _ => 0))), (h27, .inr (6, [.ref h43, .int 0, .int (if (0 : Int32) < (if (40 : Int32) < x2 then (40 : Int32) else x2) then (if (40 : Int32) < x2 then (40 : Int32) else x2) else (0 : Int32))])), (h43, .inl (cI, 40, .inl (fun _ => 0)))] H := hP
                        have hD : va_D A [(h0, .inr (11, [.ref h1, .ref h2, .ref h3, .ref h4, .ref h5, .ref h6, .ref h7, .int 0, .int 0, .ref h8, .ref h9, .ref h10, .ref h11, .ref h12, .ref h13, .ref h14])), (h11, .inl (cS, 4, .inr (.inr (.inr (.inr (fun k => [h25, h26, h27, h28][k]?)))))), (h25, .inr (6, [.ref h41, .int (-1), .int 0])), (h26, .inr (6, [.ref h42, .int (-1), .int 0])), (h28, .inr (6, [.ref h44, .int (-1), .int 0])), (h41, .inl (cI, 40, .inl (fun _ => 0))), (h42, .inl (cI, 40, .inl (fun _ => 0))), (h44, .inl (cI, 40, .inl (fun _ => 0))), (h27, .inr (6, [.ref h43, .int 0, .int (if (0 : Int32) < (if (40 : Int32) < x2 then (40 : Int32) else x2) then (if (40 : Int32) < x2 then (40 : Int32) else x2) else (0 : Int32))])), (h43, .inl (cI, 40, .inl (fun _ => 0)))] := hD
                        refine lv_iconst (v := 1) hx hb dX11_sheet_62 (by decide) ?_
                        have hP9 := hP.sub (ws' := []) [] rfl
                        have hD9 := hD.sub (ws' := []) [] (by decide) rfl
                        subst hAe
                        exact W.iret (v := 1) hx hb hr (fun t ht hW => ⟨⟨_, (), rfl, by rw [if_neg k4378, if_neg k4380, if_neg c4383, if_pos rfl, if_pos c4387, if_pos c4388], by rw [ht]; exact hP9, hD9⟩, hS.F ht⟩) hS.2.2 dX11_sheet_63
                      · obtain rfl : x0 = 3 := by have zf1 := mt (lz_lt x0 (0 : Int32)).mpr k4378; have zf2 := mt (lz_le (4 : Int32) x0).mpr k4380; have zf3 := mt (lz_eq (0 : Int32) ((-1) : Int32)).mpr c4383; have zf4 := (lz_le x2 (40 : Int32)).mp c4387; have zf5 := (lz_le (0 : Int32) x2).mp c4388; have zf6 := mt (lz_eq x0 (0 : Int32)).mpr k4389; have zf7 := mt (lz_eq x0 (1 : Int32)).mpr k4391; have zf8 := mt (lz_eq x0 (2 : Int32)).mpr k4393; have zn0 : ((-1) : Int32).toInt = -1 := (by decide); have zn1 : (0 : Int32).toInt = 0 := (by decide); have zn2 : (1 : Int32).toInt = 1 := (by decide); have zn3 : (2 : Int32).toInt = 2 := (by decide); have zn4 : (3 : Int32).toInt = 3 := (by decide); have zn5 : (4 : Int32).toInt = 4 := (by decide); have zn6 : (40 : Int32).toInt = 40 := (by decide); rw [lz_eq]; omega
                        refine va_aldq hx hb hK hP 1 1 rfl rfl (lz_vp (x := 3) (n := 4) (by decide) (by decide)) dX11_sheet_56 ?_
                        refine lz_va (y := .ref h28) rfl ?_
                        refine lv_iload_n hx hb dX11_sheet_57 rfl (lv_at hl 2 rfl) ?_
                        refine lv_iload_n hx hb dX11_sheet_58 rfl (lv_at hl 3 rfl) ?_
                        have hPc := hP.sub (ws' := [(h28, .inr (6, [.ref h44, .int (-1), .int 0])), (h44, .inl (cI, 40, .inl (fun _ => 0)))]) [5, 9] rfl
                        have hDc := hD.sub (ws' := [(h28, .inr (6, [.ref h44, .int (-1), .int 0])), (h44, .inl (cI, 40, .inl (fun _ => 0)))]) [5, 9] (by decide) rfl
                        refine lz_qv (wr := [(h0, .inr (11, [.ref h1, .ref h2, .ref h3, .ref h4, .ref h5, .ref h6, .ref h7, .int 0, .int 0, .ref h8, .ref h9, .ref h10, .ref h11, .ref h12, .ref h13, .ref h14])), (h11, .inl (cS, 4, .inr (.inr (.inr (.inr (fun k => [h25, h26, h27, h28][k]?)))))), (h25, .inr (6, [.ref h41, .int (-1), .int 0])), (h26, .inr (6, [.ref h42, .int (-1), .int 0])), (h27, .inr (6, [.ref h43, .int (-1), .int 0])), (h41, .inl (cI, 40, .inl (fun _ => 0))), (h42, .inl (cI, 40, .inl (fun _ => 0))), (h43, .inl (cI, 40, .inl (fun _ => 0)))]) (w1 := [(h28, .inr (6, [.ref h44, .int 0, .int (if (0 : Int32) < (if (40 : Int32) < x2 then (40 : Int32) else x2) then (if (40 : Int32) < x2 then (40 : Int32) else x2) else (0 : Int32))])), (h44, .inl (cI, 40, .inl (fun _ => 0)))]) (As := [.int 0, .int x2]) (rest := []) ⟨hx, hb, hml, hown, hts⟩ (c_X6_become_2 l D cI cS _ h28 h44 x2) hKK hP hD hS hA [5, 9] [0, 1, 2, 3, 4, 6, 7, 8] (by decide) rfl rfl (by decide) (by decide) hPc hDc (ci := 6) rfl rfl (cwV 2 hts gX11_sheet_X6_become rfl rfl rfl (by decide +kernel) ⟨Nat.le_of_ble_eq_true rfl, Nat.le_of_ble_eq_true rfl⟩) rfl hl.1 rfl (Nat.le_of_ble_eq_true rfl) dX11_sheet_59 ⟨Nat.le_of_ble_eq_true rfl, Nat.le_of_ble_eq_true rfl⟩ (fun H locs hP hD hS => ?_)
                        have hP : va_P D cls [(h0, .inr (11, [.ref h1, .ref h2, .ref h3, .ref h4, .ref h5, .ref h6, .ref h7, .int 0, .int 0, .ref h8, .ref h9, .ref h10, .ref h11, .ref h12, .ref h13, .ref h14])), (h11, .inl (cS, 4, .inr (.inr (.inr (.inr (fun k => [h25, h26, h27, h28][k]?)))))), (h25, .inr (6, [.ref h41, .int (-1), .int 0])), (h26, .inr (6, [.ref h42, .int (-1), .int 0])), (h27, .inr (6, [.ref h43, .int (-1), .int 0])), (h41, .inl (cI, 40, .inl (fun _ => 0))), (h42, .inl (cI, 40, .inl (fun _ => 0))), (h43, .inl (cI, 40, .inl (fun _ => 0))), (h28, .inr (6, [.ref h44, .int 0, .int (if (0 : Int32) < (if (40 : Int32) < x2 then (40 : Int32) else x2) then (if (40 : Int32) < x2 then (40 : Int32) else x2) else (0 : Int32))])), (h44, .inl (cI, 40, .inl (fun _ => 0)))] H := hP
                        have hD : va_D A [(h0, .inr (11, [.ref h1, .ref h2, .ref h3, .ref h4, .ref h5, .ref h6, .ref h7, .int 0, .int 0, .ref h8, .ref h9, .ref h10, .ref h11, .ref h12, .ref h13, .ref h14])), (h11, .inl (cS, 4, .inr (.inr (.inr (.inr (fun k => [h25, h26, h27, h28][k]?)))))), (h25, .inr (6, [.ref h41, .int (-1), .int 0])), (h26, .inr (6, [.ref h42, .int (-1), .int 0])), (h27, .inr (6, [.ref h43, .int (-1), .int 0])), (h41, .inl (cI, 40, .inl (fun _ => 0))), (h42, .inl (cI, 40, .inl (fun _ => 0))), (h43, .inl (cI, 40, .inl (fun _ => 0))), (h28, .inr (6, [.ref h44, .int 0, .int (if (0 : Int32) < (if (40 : Int32) < x2 then (40 : Int32) else x2) then (if (40 : Int32) < x2 then (40 : Int32) else x2) else (0 : Int32))])), (h44, .inl (cI, 40, .inl (fun _ => 0)))] := hD
                        refine lv_iconst (v := 1) hx hb dX11_sheet_62 (by decide) ?_
                        have hP9 := hP.sub (ws' := []) [] rfl
                        have hD9 := hD.sub (ws' := []) [] (by decide) rfl
                        subst hAe
                        exact W.iret (v := 1) hx hb hr (fun t ht hW => ⟨⟨_, (), rfl, by rw [if_neg k4378, if_neg k4380, if_neg c4383, if_pos rfl, if_pos c4387, if_pos c4388], by rw [ht]; exact hP9, hD9⟩, hS.F ht⟩) hS.2.2 dX11_sheet_63
                · refine lv_bipush (v := (-14)) hx hb dX11_sheet_48 (by decide) ?_
                  have hP9 := hP.sub (ws' := []) [] rfl
                  have hD9 := hD.sub (ws' := []) [] (by decide) rfl
                  subst hAe
                  exact W.iret (v := (-14)) hx hb hr (fun t ht hW => ⟨⟨_, (), rfl, by rw [if_neg k4378, if_neg k4380, if_neg c4383, if_pos rfl, if_pos c4387, if_neg c4388], by rw [ht]; exact hP9, hD9⟩, hS.F ht⟩) hS.2.2 dX11_sheet_50
              · refine lv_bipush (v := (-2)) hx hb dX11_sheet_41 (by decide) ?_
                have hP9 := hP.sub (ws' := []) [] rfl
                have hD9 := hD.sub (ws' := []) [] (by decide) rfl
                subst hAe
                exact W.iret (v := (-2)) hx hb hr (fun t ht hW => ⟨⟨_, (), rfl, by rw [if_neg k4378, if_neg k4380, if_neg c4383, if_pos rfl, if_neg c4387], by rw [ht]; exact hP9, hD9⟩, hS.F ht⟩) hS.2.2 dX11_sheet_43
          · rw [if_neg k4385] at hw
            by_cases k4396 : x1 = 1
            · rw [if_pos k4396] at hw
              subst k4396
              subst hw
              refine lv_if_eq (tgt := 41) hx hb dX11_sheet_32 (by decide) (fun c4397 => ?_) (fun c4397 => ?_)
              · exact absurd c4397 (by decide)
              · refine lv_iload_n hx hb dX11_sheet_35 rfl (lv_at hl 3 rfl) ?_
                refine lv_bipush (v := 40) hx hb dX11_sheet_36 (by decide) ?_
                refine lv_icmp_le (tgt := 44) hx hb dX11_sheet_38 (by decide) (fun c4398 => ?_) (fun c4398 => ?_)
                · refine lv_iload_n hx hb dX11_sheet_44 rfl (lv_at hl 3 rfl) ?_
                  refine lv_if_ge (tgt := 51) hx hb dX11_sheet_45 (by decide) (fun c4399 => ?_) (fun c4399 => ?_)
                  · refine lv_aload_n hx hb dX11_sheet_51 rfl (lv_at hl 0 rfl) ?_
                    refine va_get (D := D) (ci := 11) (v := .ref h11) (C := RX11) (T := TX11) (N := 16) hx hb hts hin11 hown hK hP 0 rfl rfl 12 (by decide) (hts (.fieldLink RX11 75 "MissedPoints" "sheets" "[LMissedPoints$Sheet;") (by decide +kernel)) (fun _ h9 => h9) rfl dX11_sheet_52 ?_
                    refine lv_iload_n hx hb dX11_sheet_55 rfl (lv_at hl 1 rfl) ?_
                    by_cases k4400 : x0 = 0
                    · subst k4400
                      refine va_aldq hx hb hK hP 1 1 rfl rfl (lz_vp (x := 0) (n := 4) (by decide) (by decide)) dX11_sheet_56 ?_
                      refine lz_va (y := .ref h25) rfl ?_
                      refine lv_iload_n hx hb dX11_sheet_57 rfl (lv_at hl 2 rfl) ?_
                      refine lv_iload_n hx hb dX11_sheet_58 rfl (lv_at hl 3 rfl) ?_
                      have hPc := hP.sub (ws' := [(h25, .inr (6, [.ref h41, .int (-1), .int 0])), (h41, .inl (cI, 40, .inl (fun _ => 0)))]) [2, 6] rfl
                      have hDc := hD.sub (ws' := [(h25, .inr (6, [.ref h41, .int (-1), .int 0])), (h41, .inl (cI, 40, .inl (fun _ => 0)))]) [2, 6] (by decide) rfl
                      refine lz_qv (wr := [(h0, .inr (11, [.ref h1, .ref h2, .ref h3, .ref h4, .ref h5, .ref h6, .ref h7, .int 0, .int 0, .ref h8, .ref h9, .ref h10, .ref h11, .ref h12, .ref h13, .ref h14])), (h11, .inl (cS, 4, .inr (.inr (.inr (.inr (fun k => [h25, h26, h27, h28][k]?)))))), (h26, .inr (6, [.ref h42, .int (-1), .int 0])), (h27, .inr (6, [.ref h43, .int (-1), .int 0])), (h28, .inr (6, [.ref h44, .int (-1), .int 0])), (h42, .inl (cI, 40, .inl (fun _ => 0))), (h43, .inl (cI, 40, .inl (fun _ => 0))), (h44, .inl (cI, 40, .inl (fun _ => 0)))]) (w1 := [(h25, .inr (6, [.ref h41, .int 1, .int (if (0 : Int32) < (if (40 : Int32) < x2 then (40 : Int32) else x2) then (if (40 : Int32) < x2 then (40 : Int32) else x2) else (0 : Int32))])), (h41, .inl (cI, 40, .inl (fun _ => 0)))]) (As := [.int 1, .int x2]) (rest := []) ⟨hx, hb, hml, hown, hts⟩ (c_X6_become_3 l D cI cS _ h25 h41 x2) hKK hP hD hS hA [2, 6] [0, 1, 3, 4, 5, 7, 8, 9] (by decide) rfl rfl (by decide) (by decide) hPc hDc (ci := 6) rfl rfl (cwV 2 hts gX11_sheet_X6_become rfl rfl rfl (by decide +kernel) ⟨Nat.le_of_ble_eq_true rfl, Nat.le_of_ble_eq_true rfl⟩) rfl hl.1 rfl (Nat.le_of_ble_eq_true rfl) dX11_sheet_59 ⟨Nat.le_of_ble_eq_true rfl, Nat.le_of_ble_eq_true rfl⟩ (fun H locs hP hD hS => ?_)
                      have hP : va_P D cls [(h0, .inr (11, [.ref h1, .ref h2, .ref h3, .ref h4, .ref h5, .ref h6, .ref h7, .int 0, .int 0, .ref h8, .ref h9, .ref h10, .ref h11, .ref h12, .ref h13, .ref h14])), (h11, .inl (cS, 4, .inr (.inr (.inr (.inr (fun k => [h25, h26, h27, h28][k]?)))))), (h26, .inr (6, [.ref h42, .int (-1), .int 0])), (h27, .inr (6, [.ref h43, .int (-1), .int 0])), (h28, .inr (6, [.ref h44, .int (-1), .int 0])), (h42, .inl (cI, 40, .inl (fun _ => 0))), (h43, .inl (cI, 40, .inl (fun _ => 0))), (h44, .inl (cI, 40, .inl (fun _ => 0))), (h25, .inr (6, [.ref h41, .int 1, .int (if (0 : Int32) < (if (40 : Int32) < x2 then (40 : Int32) else x2) then (if (40 : Int32) < x2 then (40 : Int32) else x2) else (0 : Int32))])), (h41, .inl (cI, 40, .inl (fun _ => 0)))] H := hP
                      have hD : va_D A [(h0, .inr (11, [.ref h1, .ref h2, .ref h3, .ref h4, .ref h5, .ref h6, .ref h7, .int 0, .int 0, .ref h8, .ref h9, .ref h10, .ref h11, .ref h12, .ref h13, .ref h14])), (h11, .inl (cS, 4, .inr (.inr (.inr (.inr (fun k => [h25, h26, h27, h28][k]?)))))), (h26, .inr (6, [.ref h42, .int (-1), .int 0])), (h27, .inr (6, [.ref h43, .int (-1), .int 0])), (h28, .inr (6, [.ref h44, .int (-1), .int 0])), (h42, .inl (cI, 40, .inl (fun _ => 0))), (h43, .inl (cI, 40, .inl (fun _ => 0))), (h44, .inl (cI, 40, .inl (fun _ => 0))), (h25, .inr (6, [.ref h41, .int 1, .int (if (0 : Int32) < (if (40 : Int32) < x2 then (40 : Int32) else x2) then (if (40 : Int32) < x2 then (40 : Int32) else x2) else (0 : Int32))])), (h41, .inl (cI, 40, .inl (fun _ => 0)))] := hD
                      refine lv_iconst (v := 1) hx hb dX11_sheet_62 (by decide) ?_
                      have hP9 := hP.sub (ws' := []) [] rfl
                      have hD9 := hD.sub (ws' := []) [] (by decide) rfl
                      subst hAe
                      exact W.iret (v := 1) hx hb hr (fun t ht hW => ⟨⟨_, (), rfl, by rw [if_neg k4378, if_neg k4380, if_neg c4383, if_neg k4385, if_pos rfl, if_pos c4398, if_pos c4399], by rw [ht]; exact hP9, hD9⟩, hS.F ht⟩) hS.2.2 dX11_sheet_63
                    · by_cases k4402 : x0 = 1
                      · subst k4402
                        refine va_aldq hx hb hK hP 1 1 rfl rfl (lz_vp (x := 1) (n := 4) (by decide) (by decide)) dX11_sheet_56 ?_
                        refine lz_va (y := .ref h26) rfl ?_
                        refine lv_iload_n hx hb dX11_sheet_57 rfl (lv_at hl 2 rfl) ?_
                        refine lv_iload_n hx hb dX11_sheet_58 rfl (lv_at hl 3 rfl) ?_
                        have hPc := hP.sub (ws' := [(h26, .inr (6, [.ref h42, .int (-1), .int 0])), (h42, .inl (cI, 40, .inl (fun _ => 0)))]) [3, 7] rfl
                        have hDc := hD.sub (ws' := [(h26, .inr (6, [.ref h42, .int (-1), .int 0])), (h42, .inl (cI, 40, .inl (fun _ => 0)))]) [3, 7] (by decide) rfl
                        refine lz_qv (wr := [(h0, .inr (11, [.ref h1, .ref h2, .ref h3, .ref h4, .ref h5, .ref h6, .ref h7, .int 0, .int 0, .ref h8, .ref h9, .ref h10, .ref h11, .ref h12, .ref h13, .ref h14])), (h11, .inl (cS, 4, .inr (.inr (.inr (.inr (fun k => [h25, h26, h27, h28][k]?)))))), (h25, .inr (6, [.ref h41, .int (-1), .int 0])), (h27, .inr (6, [.ref h43, .int (-1), .int 0])), (h28, .inr (6, [.ref h44, .int (-1), .int 0])), (h41, .inl (cI, 40, .inl (fun _ => 0))), (h43, .inl (cI, 40, .inl (fun _ => 0))), (h44, .inl (cI, 40, .inl (fun _ => 0)))]) (w1 := [(h26, .inr (6, [.ref h42, .int 1, .int (if (0 : Int32) < (if (40 : Int32) < x2 then (40 : Int32) else x2) then (if (40 : Int32) < x2 then (40 : Int32) else x2) else (0 : Int32))])), (h42, .inl (cI, 40, .inl (fun _ => 0)))]) (As := [.int 1, .int x2]) (rest := []) ⟨hx, hb, hml, hown, hts⟩ (c_X6_become_3 l D cI cS _ h26 h42 x2) hKK hP hD hS hA [3, 7] [0, 1, 2, 4, 5, 6, 8, 9] (by decide) rfl rfl (by decide) (by decide) hPc hDc (ci := 6) rfl rfl (cwV 2 hts gX11_sheet_X6_become rfl rfl rfl (by decide +kernel) ⟨Nat.le_of_ble_eq_true rfl, Nat.le_of_ble_eq_true rfl⟩) rfl hl.1 rfl (Nat.le_of_ble_eq_true rfl) dX11_sheet_59 ⟨Nat.le_of_ble_eq_true rfl, Nat.le_of_ble_eq_true rfl⟩ (fun H locs hP hD hS => ?_)
                        have hP : va_P D cls [(h0, .inr (11, [.ref h1, .ref h2, .ref h3, .ref h4, .ref h5, .ref h6, .ref h7, .int 0, .int 0, .ref h8, .ref h9, .ref h10, .ref h11, .ref h12, .ref h13, .ref h14])), (h11, .inl (cS, 4, .inr (.inr (.inr (.inr (fun k => [h25, h26, h27, h28][k]?)))))), (h25, .inr (6, [.ref h41, .int (-1), .int 0])), (h27, .inr (6, [.ref h43, .int (-1), .int 0])), (h28, .inr (6, [.ref h44, .int (-1), .int 0])), (h41, .inl (cI, 40, .inl (fun _ => 0))), (h43, .inl (cI, 40, .inl (fun _ => 0))), (h44, .inl (cI, 40, .inl (fun _ => 0))), (h26, .inr (6, [.ref h42, .int 1, .int (if (0 : Int32) < (if (40 : Int32) < x2 then (40 : Int32) else x2) then (if (40 : Int32) < x2 then (40 : Int32) else x2) else (0 : Int32))])), (h42, .inl (cI, 40, .inl (fun _ => 0)))] H := hP
                        have hD : va_D A [(h0, .inr (11, [.ref h1, .ref h2, .ref h3, .ref h4, .ref h5, .ref h6, .ref h7, .int 0, .int 0, .ref h8, .ref h9, .ref h10, .ref h11, .ref h12, .ref h13, .ref h14])), (h11, .inl (cS, 4, .inr (.inr (.inr (.inr (fun k => [h25, h26, h27, h28][k]?)))))), (h25, .inr (6, [.ref h41, .int (-1), .int 0])), (h27, .inr (6, [.ref h43, .int (-1), .int 0])), (h28, .inr (6, [.ref h44, .int (-1), .int 0])), (h41, .inl (cI, 40, .inl (fun _ => 0))), (h43, .inl (cI, 40, .inl (fun _ => 0))), (h44, .inl (cI, 40, .inl (fun _ => 0))), (h26, .inr (6, [.ref h42, .int 1, .int (if (0 : Int32) < (if (40 : Int32) < x2 then (40 : Int32) else x2) then (if (40 : Int32) < x2 then (40 : Int32) else x2) else (0 : Int32))])), (h42, .inl (cI, 40, .inl (fun _ => 0)))] := hD
                        refine lv_iconst (v := 1) hx hb dX11_sheet_62 (by decide) ?_
                        have hP9 := hP.sub (ws' := []) [] rfl
                        have hD9 := hD.sub (ws' := []) [] (by decide) rfl
                        subst hAe
                        exact W.iret (v := 1) hx hb hr (fun t ht hW => ⟨⟨_, (), rfl, by rw [if_neg k4378, if_neg k4380, if_neg c4383, if_neg k4385, if_pos rfl, if_pos c4398, if_pos c4399], by rw [ht]; exact hP9, hD9⟩, hS.F ht⟩) hS.2.2 dX11_sheet_63
                      · by_cases k4404 : x0 = 2
                        · subst k4404
                          refine va_aldq hx hb hK hP 1 1 rfl rfl (lz_vp (x := 2) (n := 4) (by decide) (by decide)) dX11_sheet_56 ?_
                          refine lz_va (y := .ref h27) rfl ?_
                          refine lv_iload_n hx hb dX11_sheet_57 rfl (lv_at hl 2 rfl) ?_
                          refine lv_iload_n hx hb dX11_sheet_58 rfl (lv_at hl 3 rfl) ?_
                          have hPc := hP.sub (ws' := [(h27, .inr (6, [.ref h43, .int (-1), .int 0])), (h43, .inl (cI, 40, .inl (fun _ => 0)))]) [4, 8] rfl
                          have hDc := hD.sub (ws' := [(h27, .inr (6, [.ref h43, .int (-1), .int 0])), (h43, .inl (cI, 40, .inl (fun _ => 0)))]) [4, 8] (by decide) rfl
                          refine lz_qv (wr := [(h0, .inr (11, [.ref h1, .ref h2, .ref h3, .ref h4, .ref h5, .ref h6, .ref h7, .int 0, .int 0, .ref h8, .ref h9, .ref h10, .ref h11, .ref h12, .ref h13, .ref h14])), (h11, .inl (cS, 4, .inr (.inr (.inr (.inr (fun k => [h25, h26, h27, h28][k]?)))))), (h25, .inr (6, [.ref h41, .int (-1), .int 0])), (h26, .inr (6, [.ref h42, .int (-1), .int 0])), (h28, .inr (6, [.ref h44, .int (-1), .int 0])), (h41, .inl (cI, 40, .inl (fun _ => 0))), (h42, .inl (cI, 40, .inl (fun _ => 0))), (h44, .inl (cI, 40, .inl (fun _ => 0)))]) (w1 := [(h27, .inr (6, [.ref h43, .int 1, .int (if (0 : Int32) < (if (40 : Int32) < x2 then (40 : Int32) else x2) then (if (40 : Int32) < x2 then (40 : Int32) else x2) else (0 : Int32))])), (h43, .inl (cI, 40, .inl (fun _ => 0)))]) (As := [.int 1, .int x2]) (rest := []) ⟨hx, hb, hml, hown, hts⟩ (c_X6_become_3 l D cI cS _ h27 h43 x2) hKK hP hD hS hA [4, 8] [0, 1, 2, 3, 5, 6, 7, 9] (by decide) rfl rfl (by decide) (by decide) hPc hDc (ci := 6) rfl rfl (cwV 2 hts gX11_sheet_X6_become rfl rfl rfl (by decide +kernel) ⟨Nat.le_of_ble_eq_true rfl, Nat.le_of_ble_eq_true rfl⟩) rfl hl.1 rfl (Nat.le_of_ble_eq_true rfl) dX11_sheet_59 ⟨Nat.le_of_ble_eq_true rfl, Nat.le_of_ble_eq_true rfl⟩ (fun H locs hP hD hS => ?_)
                          have hP : va_P D cls [(h0, .inr (11, [.ref h1, .ref h2, .ref h3, .ref h4, .ref h5, .ref h6, .ref h7, .int 0, .int 0, .ref h8, .ref h9, .ref h10, .ref h11, .ref h12, .ref h13, .ref h14])), (h11, .inl (cS, 4, .inr (.inr (.inr (.inr (fun k => [h25, h26, h27, h28][k]?)))))), (h25, .inr (6, [.ref h41, .int (-1), .int 0])), (h26, .inr (6, [.ref h42, .int (-1), .int 0])), (h28, .inr (6, [.ref h44, .int (-1), .int 0])), (h41, .inl (cI, 40, .inl (fun _ => 0))), (h42, .inl (cI, 40, .inl (fun _ => 0))), (h44, .inl (cI, 40, .inl (fun _ => 0))), (h27, .inr (6, [.ref h43, .int 1, .int (if (0 : Int32) < (if (40 : Int32) < x2 then (40 : Int32) else x2) then (if (40 : Int32) < x2 then (40 : Int32) else x2) else (0 : Int32))])), (h43, .inl (cI, 40, .inl (fun _ => 0)))] H := hP
                          have hD : va_D A [(h0, .inr (11, [.ref h1, .ref h2, .ref h3, .ref h4, .ref h5, .ref h6, .ref h7, .int 0, .int 0, .ref h8, .ref h9, .ref h10, .ref h11, .ref h12, .ref h13, .ref h14])), (h11, .inl (cS, 4, .inr (.inr (.inr (.inr (fun k => [h25, h26, h27, h28][k]?)))))), (h25, .inr (6, [.ref h41, .int (-1), .int 0])), (h26, .inr (6, [.ref h42, .int (-1), .int 0])), (h28, .inr (6, [.ref h44, .int (-1), .int 0])), (h41, .inl (cI, 40, .inl (fun _ => 0))), (h42, .inl (cI, 40, .inl (fun _ => 0))), (h44, .inl (cI, 40, .inl (fun _ => 0))), (h27, .inr (6, [.ref h43, .int 1, .int (if (0 : Int32) < (if (40 : Int32) < x2 then (40 : Int32) else x2) then (if (40 : Int32) < x2 then (40 : Int32) else x2) else (0 : Int32))])), (h43, .inl (cI, 40, .inl (fun _ => 0)))] := hD
                          refine lv_iconst (v := 1) hx hb dX11_sheet_62 (by decide) ?_
                          have hP9 := hP.sub (ws' := []) [] rfl
                          have hD9 := hD.sub (ws' := []) [] (by decide) rfl
                          subst hAe
                          exact W.iret (v := 1) hx hb hr (fun t ht hW => ⟨⟨_, (), rfl, by rw [if_neg k4378, if_neg k4380, if_neg c4383, if_neg k4385, if_pos rfl, if_pos c4398, if_pos c4399], by rw [ht]; exact hP9, hD9⟩, hS.F ht⟩) hS.2.2 dX11_sheet_63
                        · obtain rfl : x0 = 3 := by have zf1 := mt (lz_lt x0 (0 : Int32)).mpr k4378; have zf2 := mt (lz_le (4 : Int32) x0).mpr k4380; have zf3 := mt (lz_eq (1 : Int32) ((-1) : Int32)).mpr c4383; have zf4 := mt (lz_eq (1 : Int32) (0 : Int32)).mpr k4385; have zf5 := (lz_le x2 (40 : Int32)).mp c4398; have zf6 := (lz_le (0 : Int32) x2).mp c4399; have zf7 := mt (lz_eq x0 (0 : Int32)).mpr k4400; have zf8 := mt (lz_eq x0 (1 : Int32)).mpr k4402; have zf9 := mt (lz_eq x0 (2 : Int32)).mpr k4404; have zn0 : ((-1) : Int32).toInt = -1 := (by decide); have zn1 : (0 : Int32).toInt = 0 := (by decide); have zn2 : (1 : Int32).toInt = 1 := (by decide); have zn3 : (2 : Int32).toInt = 2 := (by decide); have zn4 : (3 : Int32).toInt = 3 := (by decide); have zn5 : (4 : Int32).toInt = 4 := (by decide); have zn6 : (40 : Int32).toInt = 40 := (by decide); rw [lz_eq]; omega
                          refine va_aldq hx hb hK hP 1 1 rfl rfl (lz_vp (x := 3) (n := 4) (by decide) (by decide)) dX11_sheet_56 ?_
                          refine lz_va (y := .ref h28) rfl ?_
                          refine lv_iload_n hx hb dX11_sheet_57 rfl (lv_at hl 2 rfl) ?_
                          refine lv_iload_n hx hb dX11_sheet_58 rfl (lv_at hl 3 rfl) ?_
                          have hPc := hP.sub (ws' := [(h28, .inr (6, [.ref h44, .int (-1), .int 0])), (h44, .inl (cI, 40, .inl (fun _ => 0)))]) [5, 9] rfl
                          have hDc := hD.sub (ws' := [(h28, .inr (6, [.ref h44, .int (-1), .int 0])), (h44, .inl (cI, 40, .inl (fun _ => 0)))]) [5, 9] (by decide) rfl
                          refine lz_qv (wr := [(h0, .inr (11, [.ref h1, .ref h2, .ref h3, .ref h4, .ref h5, .ref h6, .ref h7, .int 0, .int 0, .ref h8, .ref h9, .ref h10, .ref h11, .ref h12, .ref h13, .ref h14])), (h11, .inl (cS, 4, .inr (.inr (.inr (.inr (fun k => [h25, h26, h27, h28][k]?)))))), (h25, .inr (6, [.ref h41, .int (-1), .int 0])), (h26, .inr (6, [.ref h42, .int (-1), .int 0])), (h27, .inr (6, [.ref h43, .int (-1), .int 0])), (h41, .inl (cI, 40, .inl (fun _ => 0))), (h42, .inl (cI, 40, .inl (fun _ => 0))), (h43, .inl (cI, 40, .inl (fun _ => 0)))]) (w1 := [(h28, .inr (6, [.ref h44, .int 1, .int (if (0 : Int32) < (if (40 : Int32) < x2 then (40 : Int32) else x2) then (if (40 : Int32) < x2 then (40 : Int32) else x2) else (0 : Int32))])), (h44, .inl (cI, 40, .inl (fun _ => 0)))]) (As := [.int 1, .int x2]) (rest := []) ⟨hx, hb, hml, hown, hts⟩ (c_X6_become_3 l D cI cS _ h28 h44 x2) hKK hP hD hS hA [5, 9] [0, 1, 2, 3, 4, 6, 7, 8] (by decide) rfl rfl (by decide) (by decide) hPc hDc (ci := 6) rfl rfl (cwV 2 hts gX11_sheet_X6_become rfl rfl rfl (by decide +kernel) ⟨Nat.le_of_ble_eq_true rfl, Nat.le_of_ble_eq_true rfl⟩) rfl hl.1 rfl (Nat.le_of_ble_eq_true rfl) dX11_sheet_59 ⟨Nat.le_of_ble_eq_true rfl, Nat.le_of_ble_eq_true rfl⟩ (fun H locs hP hD hS => ?_)
                          have hP : va_P D cls [(h0, .inr (11, [.ref h1, .ref h2, .ref h3, .ref h4, .ref h5, .ref h6, .ref h7, .int 0, .int 0, .ref h8, .ref h9, .ref h10, .ref h11, .ref h12, .ref h13, .ref h14])), (h11, .inl (cS, 4, .inr (.inr (.inr (.inr (fun k => [h25, h26, h27, h28][k]?)))))), (h25, .inr (6, [.ref h41, .int (-1), .int 0])), (h26, .inr (6, [.ref h42, .int (-1), .int 0])), (h27, .inr (6, [.ref h43, .int (-1), .int 0])), (h41, .inl (cI, 40, .inl (fun _ => 0))), (h42, .inl (cI, 40, .inl (fun _ => 0))), (h43, .inl (cI, 40, .inl (fun _ => 0))), (h28, .inr (6, [.ref h44, .int 1, .int (if (0 : Int32) < (if (40 : Int32) < x2 then (40 : Int32) else x2) then (if (40 : Int32) < x2 then (40 : Int32) else x2) else (0 : Int32))])), (h44, .inl (cI, 40, .inl (fun _ => 0)))] H := hP
                          have hD : va_D A [(h0, .inr (11, [.ref h1, .ref h2, .ref h3, .ref h4, .ref h5, .ref h6, .ref h7, .int 0, .int 0, .ref h8, .ref h9, .ref h10, .ref h11, .ref h12, .ref h13, .ref h14])), (h11, .inl (cS, 4, .inr (.inr (.inr (.inr (fun k => [h25, h26, h27, h28][k]?)))))), (h25, .inr (6, [.ref h41, .int (-1), .int 0])), (h26, .inr (6, [.ref h42, .int (-1), .int 0])), (h27, .inr (6, [.ref h43, .int (-1), .int 0])), (h41, .inl (cI, 40, .inl (fun _ => 0))), (h42, .inl (cI, 40, .inl (fun _ => 0))), (h43, .inl (cI, 40, .inl (fun _ => 0))), (h28, .inr (6, [.ref h44, .int 1, .int (if (0 : Int32) < (if (40 : Int32) < x2 then (40 : Int32) else x2) then (if (40 : Int32) < x2 then (40 : Int32) else x2) else (0 : Int32))])), (h44, .inl (cI, 40, .inl (fun _ => 0)))] := hD
                          refine lv_iconst (v := 1) hx hb dX11_sheet_62 (by decide) ?_
                          have hP9 := hP.sub (ws' := []) [] rfl
                          have hD9 := hD.sub (ws' := []) [] (by decide) rfl
                          subst hAe
                          exact W.iret (v := 1) hx hb hr (fun t ht hW => ⟨⟨_, (), rfl, by rw [if_neg k4378, if_neg k4380, if_neg c4383, if_neg k4385, if_pos rfl, if_pos c4398, if_pos c4399], by rw [ht]; exact hP9, hD9⟩, hS.F ht⟩) hS.2.2 dX11_sheet_63
                  · refine lv_bipush (v := (-14)) hx hb dX11_sheet_48 (by decide) ?_
                    have hP9 := hP.sub (ws' := []) [] rfl
                    have hD9 := hD.sub (ws' := []) [] (by decide) rfl
                    subst hAe
                    exact W.iret (v := (-14)) hx hb hr (fun t ht hW => ⟨⟨_, (), rfl, by rw [if_neg k4378, if_neg k4380, if_neg c4383, if_neg k4385, if_pos rfl, if_pos c4398, if_neg c4399], by rw [ht]; exact hP9, hD9⟩, hS.F ht⟩) hS.2.2 dX11_sheet_50
                · refine lv_bipush (v := (-2)) hx hb dX11_sheet_41 (by decide) ?_
                  have hP9 := hP.sub (ws' := []) [] rfl
                  have hD9 := hD.sub (ws' := []) [] (by decide) rfl
                  subst hAe
                  exact W.iret (v := (-2)) hx hb hr (fun t ht hW => ⟨⟨_, (), rfl, by rw [if_neg k4378, if_neg k4380, if_neg c4383, if_neg k4385, if_pos rfl, if_neg c4398], by rw [ht]; exact hP9, hD9⟩, hS.F ht⟩) hS.2.2 dX11_sheet_43
            · rw [if_neg k4396] at hw
              subst hw
              refine lv_if_eq (tgt := 41) hx hb dX11_sheet_32 (by decide) (fun c4407 => ?_) (fun c4407 => ?_)
              · refine lv_bipush (v := (-2)) hx hb dX11_sheet_41 (by decide) ?_
                have hP9 := hP.sub (ws' := []) [] rfl
                have hD9 := hD.sub (ws' := []) [] (by decide) rfl
                subst hAe
                exact W.iret (v := (-2)) hx hb hr (fun t ht hW => ⟨⟨_, (), rfl, by rw [if_neg k4378, if_neg k4380, if_neg c4383, if_neg k4385, if_neg k4396], by rw [ht]; exact hP9, hD9⟩, hS.F ht⟩) hS.2.2 dX11_sheet_43
              · exact absurd c4407 (by decide)
        · subst c4383
          refine lv_aload_n hx hb dX11_sheet_15 rfl (lv_at hl 0 rfl) ?_
          refine va_get (D := D) (ci := 11) (v := .ref h11) (C := RX11) (T := TX11) (N := 16) hx hb hts hin11 hown hK hP 0 rfl rfl 12 (by decide) (hts (.fieldLink RX11 75 "MissedPoints" "sheets" "[LMissedPoints$Sheet;") (by decide +kernel)) (fun _ h9 => h9) rfl dX11_sheet_16 ?_
          refine lv_iload_n hx hb dX11_sheet_19 rfl (lv_at hl 1 rfl) ?_
          by_cases k4408 : x0 = 0
          · subst k4408
            refine va_aldq hx hb hK hP 1 1 rfl rfl (lz_vp (x := 0) (n := 4) (by decide) (by decide)) dX11_sheet_20 ?_
            refine lz_va (y := .ref h25) rfl ?_
            refine lv_iconst (v := (-1)) hx hb dX11_sheet_21 (by decide) ?_
            refine lv_iconst (v := 0) hx hb dX11_sheet_22 (by decide) ?_
            have hPc := hP.sub (ws' := [(h25, .inr (6, [.ref h41, .int (-1), .int 0])), (h41, .inl (cI, 40, .inl (fun _ => 0)))]) [2, 6] rfl
            have hDc := hD.sub (ws' := [(h25, .inr (6, [.ref h41, .int (-1), .int 0])), (h41, .inl (cI, 40, .inl (fun _ => 0)))]) [2, 6] (by decide) rfl
            refine lz_qv (wr := [(h0, .inr (11, [.ref h1, .ref h2, .ref h3, .ref h4, .ref h5, .ref h6, .ref h7, .int 0, .int 0, .ref h8, .ref h9, .ref h10, .ref h11, .ref h12, .ref h13, .ref h14])), (h11, .inl (cS, 4, .inr (.inr (.inr (.inr (fun k => [h25, h26, h27, h28][k]?)))))), (h26, .inr (6, [.ref h42, .int (-1), .int 0])), (h27, .inr (6, [.ref h43, .int (-1), .int 0])), (h28, .inr (6, [.ref h44, .int (-1), .int 0])), (h42, .inl (cI, 40, .inl (fun _ => 0))), (h43, .inl (cI, 40, .inl (fun _ => 0))), (h44, .inl (cI, 40, .inl (fun _ => 0)))]) (w1 := [(h25, .inr (6, [.ref h41, .int (-1), .int 0])), (h41, .inl (cI, 40, .inl (fun _ => 0)))]) (As := [.int (-1), .int 0]) (rest := []) ⟨hx, hb, hml, hown, hts⟩ (c_X6_become_4 l D cI cS _ h25 h41) hKK hP hD hS hA [2, 6] [0, 1, 3, 4, 5, 7, 8, 9] (by decide) rfl rfl (by decide) (by decide) hPc hDc (ci := 6) rfl rfl (cwV 2 hts gX11_sheet_X6_become rfl rfl rfl (by decide +kernel) ⟨Nat.le_of_ble_eq_true rfl, Nat.le_of_ble_eq_true rfl⟩) rfl hl.1 rfl (Nat.le_of_ble_eq_true rfl) dX11_sheet_23 ⟨Nat.le_of_ble_eq_true rfl, Nat.le_of_ble_eq_true rfl⟩ (fun H locs hP hD hS => ?_)
            have hP : va_P D cls [(h0, .inr (11, [.ref h1, .ref h2, .ref h3, .ref h4, .ref h5, .ref h6, .ref h7, .int 0, .int 0, .ref h8, .ref h9, .ref h10, .ref h11, .ref h12, .ref h13, .ref h14])), (h11, .inl (cS, 4, .inr (.inr (.inr (.inr (fun k => [h25, h26, h27, h28][k]?)))))), (h26, .inr (6, [.ref h42, .int (-1), .int 0])), (h27, .inr (6, [.ref h43, .int (-1), .int 0])), (h28, .inr (6, [.ref h44, .int (-1), .int 0])), (h42, .inl (cI, 40, .inl (fun _ => 0))), (h43, .inl (cI, 40, .inl (fun _ => 0))), (h44, .inl (cI, 40, .inl (fun _ => 0))), (h25, .inr (6, [.ref h41, .int (-1), .int 0])), (h41, .inl (cI, 40, .inl (fun _ => 0)))] H := hP
            have hD : va_D A [(h0, .inr (11, [.ref h1, .ref h2, .ref h3, .ref h4, .ref h5, .ref h6, .ref h7, .int 0, .int 0, .ref h8, .ref h9, .ref h10, .ref h11, .ref h12, .ref h13, .ref h14])), (h11, .inl (cS, 4, .inr (.inr (.inr (.inr (fun k => [h25, h26, h27, h28][k]?)))))), (h26, .inr (6, [.ref h42, .int (-1), .int 0])), (h27, .inr (6, [.ref h43, .int (-1), .int 0])), (h28, .inr (6, [.ref h44, .int (-1), .int 0])), (h42, .inl (cI, 40, .inl (fun _ => 0))), (h43, .inl (cI, 40, .inl (fun _ => 0))), (h44, .inl (cI, 40, .inl (fun _ => 0))), (h25, .inr (6, [.ref h41, .int (-1), .int 0])), (h41, .inl (cI, 40, .inl (fun _ => 0)))] := hD
            refine lv_iconst (v := 1) hx hb dX11_sheet_26 (by decide) ?_
            have hP9 := hP.sub (ws' := []) [] rfl
            have hD9 := hD.sub (ws' := []) [] (by decide) rfl
            subst hAe
            exact W.iret (v := 1) hx hb hr (fun t ht hW => ⟨⟨_, (), rfl, by rw [if_neg k4378, if_neg k4380, if_pos rfl], by rw [ht]; exact hP9, hD9⟩, hS.F ht⟩) hS.2.2 dX11_sheet_27
          · by_cases k4410 : x0 = 1
            · subst k4410
              refine va_aldq hx hb hK hP 1 1 rfl rfl (lz_vp (x := 1) (n := 4) (by decide) (by decide)) dX11_sheet_20 ?_
              refine lz_va (y := .ref h26) rfl ?_
              refine lv_iconst (v := (-1)) hx hb dX11_sheet_21 (by decide) ?_
              refine lv_iconst (v := 0) hx hb dX11_sheet_22 (by decide) ?_
              have hPc := hP.sub (ws' := [(h26, .inr (6, [.ref h42, .int (-1), .int 0])), (h42, .inl (cI, 40, .inl (fun _ => 0)))]) [3, 7] rfl
              have hDc := hD.sub (ws' := [(h26, .inr (6, [.ref h42, .int (-1), .int 0])), (h42, .inl (cI, 40, .inl (fun _ => 0)))]) [3, 7] (by decide) rfl
              refine lz_qv (wr := [(h0, .inr (11, [.ref h1, .ref h2, .ref h3, .ref h4, .ref h5, .ref h6, .ref h7, .int 0, .int 0, .ref h8, .ref h9, .ref h10, .ref h11, .ref h12, .ref h13, .ref h14])), (h11, .inl (cS, 4, .inr (.inr (.inr (.inr (fun k => [h25, h26, h27, h28][k]?)))))), (h25, .inr (6, [.ref h41, .int (-1), .int 0])), (h27, .inr (6, [.ref h43, .int (-1), .int 0])), (h28, .inr (6, [.ref h44, .int (-1), .int 0])), (h41, .inl (cI, 40, .inl (fun _ => 0))), (h43, .inl (cI, 40, .inl (fun _ => 0))), (h44, .inl (cI, 40, .inl (fun _ => 0)))]) (w1 := [(h26, .inr (6, [.ref h42, .int (-1), .int 0])), (h42, .inl (cI, 40, .inl (fun _ => 0)))]) (As := [.int (-1), .int 0]) (rest := []) ⟨hx, hb, hml, hown, hts⟩ (c_X6_become_4 l D cI cS _ h26 h42) hKK hP hD hS hA [3, 7] [0, 1, 2, 4, 5, 6, 8, 9] (by decide) rfl rfl (by decide) (by decide) hPc hDc (ci := 6) rfl rfl (cwV 2 hts gX11_sheet_X6_become rfl rfl rfl (by decide +kernel) ⟨Nat.le_of_ble_eq_true rfl, Nat.le_of_ble_eq_true rfl⟩) rfl hl.1 rfl (Nat.le_of_ble_eq_true rfl) dX11_sheet_23 ⟨Nat.le_of_ble_eq_true rfl, Nat.le_of_ble_eq_true rfl⟩ (fun H locs hP hD hS => ?_)
              have hP : va_P D cls [(h0, .inr (11, [.ref h1, .ref h2, .ref h3, .ref h4, .ref h5, .ref h6, .ref h7, .int 0, .int 0, .ref h8, .ref h9, .ref h10, .ref h11, .ref h12, .ref h13, .ref h14])), (h11, .inl (cS, 4, .inr (.inr (.inr (.inr (fun k => [h25, h26, h27, h28][k]?)))))), (h25, .inr (6, [.ref h41, .int (-1), .int 0])), (h27, .inr (6, [.ref h43, .int (-1), .int 0])), (h28, .inr (6, [.ref h44, .int (-1), .int 0])), (h41, .inl (cI, 40, .inl (fun _ => 0))), (h43, .inl (cI, 40, .inl (fun _ => 0))), (h44, .inl (cI, 40, .inl (fun _ => 0))), (h26, .inr (6, [.ref h42, .int (-1), .int 0])), (h42, .inl (cI, 40, .inl (fun _ => 0)))] H := hP
              have hD : va_D A [(h0, .inr (11, [.ref h1, .ref h2, .ref h3, .ref h4, .ref h5, .ref h6, .ref h7, .int 0, .int 0, .ref h8, .ref h9, .ref h10, .ref h11, .ref h12, .ref h13, .ref h14])), (h11, .inl (cS, 4, .inr (.inr (.inr (.inr (fun k => [h25, h26, h27, h28][k]?)))))), (h25, .inr (6, [.ref h41, .int (-1), .int 0])), (h27, .inr (6, [.ref h43, .int (-1), .int 0])), (h28, .inr (6, [.ref h44, .int (-1), .int 0])), (h41, .inl (cI, 40, .inl (fun _ => 0))), (h43, .inl (cI, 40, .inl (fun _ => 0))), (h44, .inl (cI, 40, .inl (fun _ => 0))), (h26, .inr (6, [.ref h42, .int (-1), .int 0])), (h42, .inl (cI, 40, .inl (fun _ => 0)))] := hD
              refine lv_iconst (v := 1) hx hb dX11_sheet_26 (by decide) ?_
              have hP9 := hP.sub (ws' := []) [] rfl
              have hD9 := hD.sub (ws' := []) [] (by decide) rfl
              subst hAe
              exact W.iret (v := 1) hx hb hr (fun t ht hW => ⟨⟨_, (), rfl, by rw [if_neg k4378, if_neg k4380, if_pos rfl], by rw [ht]; exact hP9, hD9⟩, hS.F ht⟩) hS.2.2 dX11_sheet_27
            · by_cases k4412 : x0 = 2
              · subst k4412
                refine va_aldq hx hb hK hP 1 1 rfl rfl (lz_vp (x := 2) (n := 4) (by decide) (by decide)) dX11_sheet_20 ?_
                refine lz_va (y := .ref h27) rfl ?_
                refine lv_iconst (v := (-1)) hx hb dX11_sheet_21 (by decide) ?_
                refine lv_iconst (v := 0) hx hb dX11_sheet_22 (by decide) ?_
                have hPc := hP.sub (ws' := [(h27, .inr (6, [.ref h43, .int (-1), .int 0])), (h43, .inl (cI, 40, .inl (fun _ => 0)))]) [4, 8] rfl
                have hDc := hD.sub (ws' := [(h27, .inr (6, [.ref h43, .int (-1), .int 0])), (h43, .inl (cI, 40, .inl (fun _ => 0)))]) [4, 8] (by decide) rfl
                refine lz_qv (wr := [(h0, .inr (11, [.ref h1, .ref h2, .ref h3, .ref h4, .ref h5, .ref h6, .ref h7, .int 0, .int 0, .ref h8, .ref h9, .ref h10, .ref h11, .ref h12, .ref h13, .ref h14])), (h11, .inl (cS, 4, .inr (.inr (.inr (.inr (fun k => [h25, h26, h27, h28][k]?)))))), (h25, .inr (6, [.ref h41, .int (-1), .int 0])), (h26, .inr (6, [.ref h42, .int (-1), .int 0])), (h28, .inr (6, [.ref h44, .int (-1), .int 0])), (h41, .inl (cI, 40, .inl (fun _ => 0))), (h42, .inl (cI, 40, .inl (fun _ => 0))), (h44, .inl (cI, 40, .inl (fun _ => 0)))]) (w1 := [(h27, .inr (6, [.ref h43, .int (-1), .int 0])), (h43, .inl (cI, 40, .inl (fun _ => 0)))]) (As := [.int (-1), .int 0]) (rest := []) ⟨hx, hb, hml, hown, hts⟩ (c_X6_become_4 l D cI cS _ h27 h43) hKK hP hD hS hA [4, 8] [0, 1, 2, 3, 5, 6, 7, 9] (by decide) rfl rfl (by decide) (by decide) hPc hDc (ci := 6) rfl rfl (cwV 2 hts gX11_sheet_X6_become rfl rfl rfl (by decide +kernel) ⟨Nat.le_of_ble_eq_true rfl, Nat.le_of_ble_eq_true rfl⟩) rfl hl.1 rfl (Nat.le_of_ble_eq_true rfl) dX11_sheet_23 ⟨Nat.le_of_ble_eq_true rfl, Nat.le_of_ble_eq_true rfl⟩ (fun H locs hP hD hS => ?_)
                have hP : va_P D cls [(h0, .inr (11, [.ref h1, .ref h2, .ref h3, .ref h4, .ref h5, .ref h6, .ref h7, .int 0, .int 0, .ref h8, .ref h9, .ref h10, .ref h11, .ref h12, .ref h13, .ref h14])), (h11, .inl (cS, 4, .inr (.inr (.inr (.inr (fun k => [h25, h26, h27, h28][k]?)))))), (h25, .inr (6, [.ref h41, .int (-1), .int 0])), (h26, .inr (6, [.ref h42, .int (-1), .int 0])), (h28, .inr (6, [.ref h44, .int (-1), .int 0])), (h41, .inl (cI, 40, .inl (fun _ => 0))), (h42, .inl (cI, 40, .inl (fun _ => 0))), (h44, .inl (cI, 40, .inl (fun _ => 0))), (h27, .inr (6, [.ref h43, .int (-1), .int 0])), (h43, .inl (cI, 40, .inl (fun _ => 0)))] H := hP
                have hD : va_D A [(h0, .inr (11, [.ref h1, .ref h2, .ref h3, .ref h4, .ref h5, .ref h6, .ref h7, .int 0, .int 0, .ref h8, .ref h9, .ref h10, .ref h11, .ref h12, .ref h13, .ref h14])), (h11, .inl (cS, 4, .inr (.inr (.inr (.inr (fun k => [h25, h26, h27, h28][k]?)))))), (h25, .inr (6, [.ref h41, .int (-1), .int 0])), (h26, .inr (6, [.ref h42, .int (-1), .int 0])), (h28, .inr (6, [.ref h44, .int (-1), .int 0])), (h41, .inl (cI, 40, .inl (fun _ => 0))), (h42, .inl (cI, 40, .inl (fun _ => 0))), (h44, .inl (cI, 40, .inl (fun _ => 0))), (h27, .inr (6, [.ref h43, .int (-1), .int 0])), (h43, .inl (cI, 40, .inl (fun _ => 0)))] := hD
                refine lv_iconst (v := 1) hx hb dX11_sheet_26 (by decide) ?_
                have hP9 := hP.sub (ws' := []) [] rfl
                have hD9 := hD.sub (ws' := []) [] (by decide) rfl
                subst hAe
                exact W.iret (v := 1) hx hb hr (fun t ht hW => ⟨⟨_, (), rfl, by rw [if_neg k4378, if_neg k4380, if_pos rfl], by rw [ht]; exact hP9, hD9⟩, hS.F ht⟩) hS.2.2 dX11_sheet_27
              · obtain rfl : x0 = 3 := by have zf1 := mt (lz_lt x0 (0 : Int32)).mpr k4378; have zf2 := mt (lz_le (4 : Int32) x0).mpr k4380; have zf3 := mt (lz_eq x0 (0 : Int32)).mpr k4408; have zf4 := mt (lz_eq x0 (1 : Int32)).mpr k4410; have zf5 := mt (lz_eq x0 (2 : Int32)).mpr k4412; have zn0 : (0 : Int32).toInt = 0 := (by decide); have zn1 : (1 : Int32).toInt = 1 := (by decide); have zn2 : (2 : Int32).toInt = 2 := (by decide); have zn3 : (3 : Int32).toInt = 3 := (by decide); have zn4 : (4 : Int32).toInt = 4 := (by decide); rw [lz_eq]; omega
                refine va_aldq hx hb hK hP 1 1 rfl rfl (lz_vp (x := 3) (n := 4) (by decide) (by decide)) dX11_sheet_20 ?_
                refine lz_va (y := .ref h28) rfl ?_
                refine lv_iconst (v := (-1)) hx hb dX11_sheet_21 (by decide) ?_
                refine lv_iconst (v := 0) hx hb dX11_sheet_22 (by decide) ?_
                have hPc := hP.sub (ws' := [(h28, .inr (6, [.ref h44, .int (-1), .int 0])), (h44, .inl (cI, 40, .inl (fun _ => 0)))]) [5, 9] rfl
                have hDc := hD.sub (ws' := [(h28, .inr (6, [.ref h44, .int (-1), .int 0])), (h44, .inl (cI, 40, .inl (fun _ => 0)))]) [5, 9] (by decide) rfl
                refine lz_qv (wr := [(h0, .inr (11, [.ref h1, .ref h2, .ref h3, .ref h4, .ref h5, .ref h6, .ref h7, .int 0, .int 0, .ref h8, .ref h9, .ref h10, .ref h11, .ref h12, .ref h13, .ref h14])), (h11, .inl (cS, 4, .inr (.inr (.inr (.inr (fun k => [h25, h26, h27, h28][k]?)))))), (h25, .inr (6, [.ref h41, .int (-1), .int 0])), (h26, .inr (6, [.ref h42, .int (-1), .int 0])), (h27, .inr (6, [.ref h43, .int (-1), .int 0])), (h41, .inl (cI, 40, .inl (fun _ => 0))), (h42, .inl (cI, 40, .inl (fun _ => 0))), (h43, .inl (cI, 40, .inl (fun _ => 0)))]) (w1 := [(h28, .inr (6, [.ref h44, .int (-1), .int 0])), (h44, .inl (cI, 40, .inl (fun _ => 0)))]) (As := [.int (-1), .int 0]) (rest := []) ⟨hx, hb, hml, hown, hts⟩ (c_X6_become_4 l D cI cS _ h28 h44) hKK hP hD hS hA [5, 9] [0, 1, 2, 3, 4, 6, 7, 8] (by decide) rfl rfl (by decide) (by decide) hPc hDc (ci := 6) rfl rfl (cwV 2 hts gX11_sheet_X6_become rfl rfl rfl (by decide +kernel) ⟨Nat.le_of_ble_eq_true rfl, Nat.le_of_ble_eq_true rfl⟩) rfl hl.1 rfl (Nat.le_of_ble_eq_true rfl) dX11_sheet_23 ⟨Nat.le_of_ble_eq_true rfl, Nat.le_of_ble_eq_true rfl⟩ (fun H locs hP hD hS => ?_)
                have hP : va_P D cls [(h0, .inr (11, [.ref h1, .ref h2, .ref h3, .ref h4, .ref h5, .ref h6, .ref h7, .int 0, .int 0, .ref h8, .ref h9, .ref h10, .ref h11, .ref h12, .ref h13, .ref h14])), (h11, .inl (cS, 4, .inr (.inr (.inr (.inr (fun k => [h25, h26, h27, h28][k]?)))))), (h25, .inr (6, [.ref h41, .int (-1), .int 0])), (h26, .inr (6, [.ref h42, .int (-1), .int 0])), (h27, .inr (6, [.ref h43, .int (-1), .int 0])), (h41, .inl (cI, 40, .inl (fun _ => 0))), (h42, .inl (cI, 40, .inl (fun _ => 0))), (h43, .inl (cI, 40, .inl (fun _ => 0))), (h28, .inr (6, [.ref h44, .int (-1), .int 0])), (h44, .inl (cI, 40, .inl (fun _ => 0)))] H := hP
                have hD : va_D A [(h0, .inr (11, [.ref h1, .ref h2, .ref h3, .ref h4, .ref h5, .ref h6, .ref h7, .int 0, .int 0, .ref h8, .ref h9, .ref h10, .ref h11, .ref h12, .ref h13, .ref h14])), (h11, .inl (cS, 4, .inr (.inr (.inr (.inr (fun k => [h25, h26, h27, h28][k]?)))))), (h25, .inr (6, [.ref h41, .int (-1), .int 0])), (h26, .inr (6, [.ref h42, .int (-1), .int 0])), (h27, .inr (6, [.ref h43, .int (-1), .int 0])), (h41, .inl (cI, 40, .inl (fun _ => 0))), (h42, .inl (cI, 40, .inl (fun _ => 0))), (h43, .inl (cI, 40, .inl (fun _ => 0))), (h28, .inr (6, [.ref h44, .int (-1), .int 0])), (h44, .inl (cI, 40, .inl (fun _ => 0)))] := hD
                refine lv_iconst (v := 1) hx hb dX11_sheet_26 (by decide) ?_
                have hP9 := hP.sub (ws' := []) [] rfl
                have hD9 := hD.sub (ws' := []) [] (by decide) rfl
                subst hAe
                exact W.iret (v := 1) hx hb hr (fun t ht hW => ⟨⟨_, (), rfl, by rw [if_neg k4378, if_neg k4380, if_pos rfl], by rw [ht]; exact hP9, hD9⟩, hS.F ht⟩) hS.2.2 dX11_sheet_27
      · exact absurd c4382 (by decide)
