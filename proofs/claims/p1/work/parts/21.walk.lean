set_option maxRecDepth 20000 in
theorem ggX11_sheet_X11_isSheet : GoodIn wsX11_sheet wsX11_isSheet := goodIn_r _ [5] (by decide +kernel) (by decide +kernel)
set_option maxRecDepth 20000 in
theorem gX11_sheet_X11_isSheet : GoodIn wsX11_sheet (va_wsS RX11 248 yX11_isSheet wsX11_isSheet) := goodIn_app (goodIn_of _ (by decide +kernel)) ggX11_sheet_X11_isSheet
set_option maxRecDepth 20000 in
theorem ggX11_sheet_X11_isSort : GoodIn wsX11_sheet wsX11_isSort := goodIn_r _ [23] (by decide +kernel) (by decide +kernel)
set_option maxRecDepth 20000 in
theorem gX11_sheet_X11_isSort : GoodIn wsX11_sheet (va_wsS RX11 259 yX11_isSort wsX11_isSort) := goodIn_app (goodIn_of _ (by decide +kernel)) ggX11_sheet_X11_isSort
set_option maxRecDepth 20000 in
theorem ggX11_sheet_X6_become : GoodIn wsX11_sheet wsX6_become := goodIn_r _ [10, 11, 12, 13, 14, 15, 16, 17, 18, 19, 20, 40, 41, 42] (by decide +kernel) (by decide +kernel)
set_option maxRecDepth 20000 in
theorem gX11_sheet_X6_become : GoodIn wsX11_sheet (wsV RX11 331 RX6 yX6_become wsX6_become) := goodIn_app (goodIn_of _ (by decide +kernel)) ggX11_sheet_X6_become
theorem dX11_sheet_0 : decode cX11_sheet 0 = .ok (.iload_n 1, 1) := by decide +kernel
theorem dX11_sheet_1 : decode cX11_sheet 1 = .ok (.invokestatic 248, 3) := by decide +kernel
theorem dX11_sheet_10 : decode cX11_sheet 10 = .ok (.iload_n 2, 1) := by decide +kernel
theorem dX11_sheet_11 : decode cX11_sheet 11 = .ok (.iconst (-1), 1) := by decide +kernel
theorem dX11_sheet_12 : decode cX11_sheet 12 = .ok (.if_icmp .ne 16, 3) := by decide +kernel
theorem dX11_sheet_15 : decode cX11_sheet 15 = .ok (.aload_n 0, 1) := by decide +kernel
theorem dX11_sheet_16 : decode cX11_sheet 16 = .ok (.getfield 75, 3) := by decide +kernel
theorem dX11_sheet_19 : decode cX11_sheet 19 = .ok (.iload_n 1, 1) := by decide +kernel
theorem dX11_sheet_20 : decode cX11_sheet 20 = .ok (.aaload, 1) := by decide +kernel
theorem dX11_sheet_21 : decode cX11_sheet 21 = .ok (.iconst (-1), 1) := by decide +kernel
theorem dX11_sheet_22 : decode cX11_sheet 22 = .ok (.iconst 0, 1) := by decide +kernel
theorem dX11_sheet_23 : decode cX11_sheet 23 = .ok (.invokevirtual 331, 3) := by decide +kernel
theorem dX11_sheet_26 : decode cX11_sheet 26 = .ok (.iconst 1, 1) := by decide +kernel
theorem dX11_sheet_27 : decode cX11_sheet 27 = .ok (.ireturn, 1) := by decide +kernel
theorem dX11_sheet_28 : decode cX11_sheet 28 = .ok (.iload_n 2, 1) := by decide +kernel
theorem dX11_sheet_29 : decode cX11_sheet 29 = .ok (.invokestatic 259, 3) := by decide +kernel
theorem dX11_sheet_32 : decode cX11_sheet 32 = .ok (.ifCond .eq 9, 3) := by decide +kernel
theorem dX11_sheet_35 : decode cX11_sheet 35 = .ok (.iload_n 3, 1) := by decide +kernel
theorem dX11_sheet_36 : decode cX11_sheet 36 = .ok (.bipush 40, 2) := by decide +kernel
theorem dX11_sheet_38 : decode cX11_sheet 38 = .ok (.if_icmp .le 6, 3) := by decide +kernel
theorem dX11_sheet_4 : decode cX11_sheet 4 = .ok (.ifCond .ne 6, 3) := by decide +kernel
theorem dX11_sheet_41 : decode cX11_sheet 41 = .ok (.bipush (-2), 2) := by decide +kernel
theorem dX11_sheet_43 : decode cX11_sheet 43 = .ok (.ireturn, 1) := by decide +kernel
theorem dX11_sheet_44 : decode cX11_sheet 44 = .ok (.iload_n 3, 1) := by decide +kernel
theorem dX11_sheet_45 : decode cX11_sheet 45 = .ok (.ifCond .ge 6, 3) := by decide +kernel
theorem dX11_sheet_48 : decode cX11_sheet 48 = .ok (.bipush (-14), 2) := by decide +kernel
theorem dX11_sheet_50 : decode cX11_sheet 50 = .ok (.ireturn, 1) := by decide +kernel
theorem dX11_sheet_51 : decode cX11_sheet 51 = .ok (.aload_n 0, 1) := by decide +kernel
theorem dX11_sheet_52 : decode cX11_sheet 52 = .ok (.getfield 75, 3) := by decide +kernel
theorem dX11_sheet_55 : decode cX11_sheet 55 = .ok (.iload_n 1, 1) := by decide +kernel
theorem dX11_sheet_56 : decode cX11_sheet 56 = .ok (.aaload, 1) := by decide +kernel
theorem dX11_sheet_57 : decode cX11_sheet 57 = .ok (.iload_n 2, 1) := by decide +kernel
theorem dX11_sheet_58 : decode cX11_sheet 58 = .ok (.iload_n 3, 1) := by decide +kernel
theorem dX11_sheet_59 : decode cX11_sheet 59 = .ok (.invokevirtual 331, 3) := by decide +kernel
theorem dX11_sheet_62 : decode cX11_sheet 62 = .ok (.iconst 1, 1) := by decide +kernel
theorem dX11_sheet_63 : decode cX11_sheet 63 = .ok (.ireturn, 1) := by decide +kernel
theorem dX11_sheet_7 : decode cX11_sheet 7 = .ok (.bipush (-2), 2) := by decide +kernel
theorem dX11_sheet_9 : decode cX11_sheet 9 = .ok (.ireturn, 1) := by decide +kernel
set_option maxHeartbeats 4000000 in
set_option maxRecDepth 100000 in
theorem c_X6_become_2 (l : Launch) (D : va_G) (cI cS : ClassId) (sz : Nat) (h0 h1 : Nat) (x0 : Int32) : Met l yX6_become wsX6_become ({ frames := 1, cells := 0, slots := 0, locals := 40 }) (PQ D cI cS [(h0, .inr (6, [.ref h1, .int (-1), .int 0])), (h1, .inl (cI, 40, .inl (fun _ => 0)))] sz [.ref h0, .int 0, .int x0]) (QV D [(h0, .inr (6, [.ref h1, .int (-1), .int 0])), (h1, .inl (cI, 40, .inl (fun _ => 0)))] [(h0, .inr (6, [.ref h1, .int 0, .int (if (0 : Int32) < (if (40 : Int32) < x0 then (40 : Int32) else x0) then (if (40 : Int32) < x0 then (40 : Int32) else x0) else (0 : Int32))])), (h1, .inl (cI, 40, .inl (fun _ => 0)))] sz) 0 0 (va_A [(h0, .inr (6, [.ref h1, .int (-1), .int 0])), (h1, .inl (cI, 40, .inl (fun _ => 0)))] sz) := by
  refine Met.ofW (cc := cX6_become) (maxL := 4) (ret := none) (by decide) rfl ?_
  intro p e s m args below meth c s₁ B hml hv
  obtain ⟨rfl, hsz, hP, hKK, hD0⟩ := hv
  have hx := B.exec
  have hb := B.bytes
  have hr := B.returns
  have hts := atoms_spec (ws := wsX6_become) B.pre
  have hown : s.vm.findClass RX6 = some m.cls := findClass_of_methodNamed B.named
  have hlocks := B.notSynchronized
  have hK := hKK.1
  have hN := hKK.2
  have hin6 : ∀ w ∈ wsX60, w ∈ wsX6_become := by decide +kernel
  subst hsz
  have hD := hD0.self (sz := s.heap.size)
  obtain ⟨A, hAe⟩ : ∃ A, A = va_A [(h0, .inr (6, [.ref h1, .int (-1), .int 0])), (h1, .inl (cI, 40, .inl (fun _ => 0)))] s.heap.size := ⟨_, rfl⟩
  rw [← hAe] at hD
  have hA : ∀ q : Nat, s.heap.size ≤ q → A q := fun q h => by rw [hAe]; exact Or.inr h
  have hS : va_S A s.heap s.heap [] := va_S.rf
  have hl := lv_entry ([.ref h0, .int 0, .int x0]) (n := 4) (Nat.le_of_ble_eq_true rfl)
  rw [lg_entry_eq]
  generalize (lg_sl ([.ref h0, .int 0, .int x0]) ++ List.replicate (4 - (lg_sl ([.ref h0, .int 0, .int x0])).length) Slot.unset).toArray = ls at hl ⊢
  have hl : lv_has ls 4 [(0, .ref h0), (1, .int 0), (2, .int x0)] := hl
  refine lv_aload_n hx hb dX6_become_0 rfl (lv_at hl 0 rfl) ?_
  refine lv_iload_n hx hb dX6_become_1 rfl (lv_at hl 1 rfl) ?_
  refine va_put (D := D) (ci := 6) (v := .int 0) (ty := .int) (C := RX6) (T := TX6) (N := 3) hx hb hts hin6 tyX6 tyX6_ok nmX6 hown hK hP hD hS 0 rfl rfl 1 (by decide) (hts (.fieldLink RX6 15 "MissedPoints$Sheet" "sort" "I") (by decide +kernel)) (fun _ h9 => h9) rfl (by decide +kernel) rfl rfl (Nat.le_of_ble_eq_true rfl) dX6_become_2 (fun H locs hP hD hS => ?_)
  have hP : va_P D cls [(h0, .inr (6, [.ref h1, .int 0, .int 0])), (h1, .inl (cI, 40, .inl (fun _ => 0)))] H := hP
  have hD : va_D A [(h0, .inr (6, [.ref h1, .int 0, .int 0])), (h1, .inl (cI, 40, .inl (fun _ => 0)))] := hD
  refine lv_aload_n hx hb dX6_become_5 rfl (lv_at hl 0 rfl) ?_
  refine lv_iconst (v := 0) hx hb dX6_become_6 (by decide) ?_
  refine lv_iload_n hx hb dX6_become_7 rfl (lv_at hl 2 rfl) ?_
  refine lv_bipush (v := 40) hx hb dX6_become_8 (by decide) ?_
  refine va_mmin hx hb (by rw [hml]; exact hl.1.symm) hown (hts (.methodLink RX6 19 Lib.Math.min.name) (by decide +kernel)) (hts (.static Lib.Math.min.name) (by decide +kernel)) (hts (.initialized "java/lang/Math") (by decide +kernel)) (hts (.code Lib.Math.min.name Lib.Math.min.code 2 (some .int)) (by decide +kernel)) (Nat.le_of_ble_eq_true rfl) (Nat.le_of_ble_eq_true rfl) (Nat.le_of_ble_eq_true rfl) (Nat.le_of_ble_eq_true rfl) dX6_become_10 ?_
  refine va_mmax hx hb (by rw [hml]; exact hl.1.symm) hown (hts (.methodLink RX6 25 Lib.Math.max.name) (by decide +kernel)) (hts (.static Lib.Math.max.name) (by decide +kernel)) (hts (.initialized "java/lang/Math") (by decide +kernel)) (hts (.code Lib.Math.max.name Lib.Math.max.code 2 (some .int)) (by decide +kernel)) (Nat.le_of_ble_eq_true rfl) (Nat.le_of_ble_eq_true rfl) (Nat.le_of_ble_eq_true rfl) (Nat.le_of_ble_eq_true rfl) dX6_become_13 ?_
  refine va_put (D := D) (ci := 6) (v := .int (if (0 : Int32) < (if (40 : Int32) < x0 then (40 : Int32) else x0) then (if (40 : Int32) < x0 then (40 : Int32) else x0) else (0 : Int32))) (ty := .int) (C := RX6) (T := TX6) (N := 3) hx hb hts hin6 tyX6 tyX6_ok nmX6 hown hK hP hD hS 0 rfl rfl 2 (by decide) (hts (.fieldLink RX6 28 "MissedPoints$Sheet" "size" "I") (by decide +kernel)) (fun _ h9 => h9) rfl (by decide +kernel) rfl rfl (Nat.le_of_ble_eq_true rfl) dX6_become_16 (fun H locs hP hD hS => ?_)
  have hP : va_P D cls [(h0, .inr (6, [.ref h1, .int 0, .int (if (0 : Int32) < (if (40 : Int32) < x0 then (40 : Int32) else x0) then (if (40 : Int32) < x0 then (40 : Int32) else x0) else (0 : Int32))])), (h1, .inl (cI, 40, .inl (fun _ => 0)))] H := hP
  have hD : va_D A [(h0, .inr (6, [.ref h1, .int 0, .int (if (0 : Int32) < (if (40 : Int32) < x0 then (40 : Int32) else x0) then (if (40 : Int32) < x0 then (40 : Int32) else x0) else (0 : Int32))])), (h1, .inl (cI, 40, .inl (fun _ => 0)))] := hD
  refine lv_iconst (v := 0) hx hb dX6_become_19 (by decide) ?_
  refine lv_istore_n (lv' := [(3, .int 0), (0, .ref h0), (1, .int 0), (2, .int x0)]) hx hb dX6_become_20 rfl hl (by decide) rfl (fun ls hl => ?_)
  refine lv_iload_n hx hb dX6_become_21 rfl (lv_at hl 0 rfl) ?_
  refine lv_bipush (v := 40) hx hb dX6_become_22 (by decide) ?_
  refine lv_icmp_ge (tgt := 40) hx hb dX6_become_24 (by decide) (fun c2060 => ?_) (fun c2060 => ?_)
  · exact absurd c2060 (by decide)
  · refine lv_aload_n hx hb dX6_become_27 rfl (lv_at hl 1 rfl) ?_
    refine va_get (D := D) (ci := 6) (v := .ref h1) (C := RX6) (T := TX6) (N := 3) hx hb hts hin6 hown hK hP 0 rfl rfl 0 (by decide) (hts (.fieldLink RX6 9 "MissedPoints$Sheet" "numbers" "[I") (by decide +kernel)) (fun _ h9 => h9) rfl dX6_become_28 ?_
    refine lv_iload_n hx hb dX6_become_31 rfl (lv_at hl 0 rfl) ?_
    refine lv_iconst (v := 0) hx hb dX6_become_32 (by decide) ?_
    refine lz_astc hx hb hK hP hD hS 1 0 rfl rfl (lz_vp (x := 0) (n := 40) (by decide) (by decide)) dX6_become_33 (fun H locs hP hD hS => ?_)
    refine lv_iinc (v := 1) (lv' := [(3, .int 1), (0, .ref h0), (1, .int 0), (2, .int x0)]) hx hb dX6_become_34 hl (k := 0) rfl (by decide) (by decide) rfl (fun ls hl => ?_)
    refine lv_goto (tgt := 21) hx hb dX6_become_37 (by decide) ?_
    refine lv_iload_n hx hb dX6_become_21 rfl (lv_at hl 0 rfl) ?_
    refine lv_bipush (v := 40) hx hb dX6_become_22 (by decide) ?_
    refine lv_icmp_ge (tgt := 40) hx hb dX6_become_24 (by decide) (fun c2061 => ?_) (fun c2061 => ?_)
    · exact absurd c2061 (by decide)
    · refine lv_aload_n hx hb dX6_become_27 rfl (lv_at hl 1 rfl) ?_
      refine va_get (D := D) (ci := 6) (v := .ref h1) (C := RX6) (T := TX6) (N := 3) hx hb hts hin6 hown hK hP 0 rfl rfl 0 (by decide) (hts (.fieldLink RX6 9 "MissedPoints$Sheet" "numbers" "[I") (by decide +kernel)) (fun _ h9 => h9) rfl dX6_become_28 ?_
      refine lv_iload_n hx hb dX6_become_31 rfl (lv_at hl 0 rfl) ?_
      refine lv_iconst (v := 0) hx hb dX6_become_32 (by decide) ?_
      refine lz_astc hx hb hK hP hD hS 1 0 rfl rfl (lz_vp (x := 1) (n := 40) (by decide) (by decide)) dX6_become_33 (fun H locs hP hD hS => ?_)
      refine lv_iinc (v := 2) (lv' := [(3, .int 2), (0, .ref h0), (1, .int 0), (2, .int x0)]) hx hb dX6_become_34 hl (k := 0) rfl (by decide) (by decide) rfl (fun ls hl => ?_)
      refine lv_goto (tgt := 21) hx hb dX6_become_37 (by decide) ?_
      refine lv_iload_n hx hb dX6_become_21 rfl (lv_at hl 0 rfl) ?_
      refine lv_bipush (v := 40) hx hb dX6_become_22 (by decide) ?_
      refine lv_icmp_ge (tgt := 40) hx hb dX6_become_24 (by decide) (fun c2062 => ?_) (fun c2062 => ?_)
      · exact absurd c2062 (by decide)
      · refine lv_aload_n hx hb dX6_become_27 rfl (lv_at hl 1 rfl) ?_
        refine va_get (D := D) (ci := 6) (v := .ref h1) (C := RX6) (T := TX6) (N := 3) hx hb hts hin6 hown hK hP 0 rfl rfl 0 (by decide) (hts (.fieldLink RX6 9 "MissedPoints$Sheet" "numbers" "[I") (by decide +kernel)) (fun _ h9 => h9) rfl dX6_become_28 ?_
        refine lv_iload_n hx hb dX6_become_31 rfl (lv_at hl 0 rfl) ?_
        refine lv_iconst (v := 0) hx hb dX6_become_32 (by decide) ?_
        refine lz_astc hx hb hK hP hD hS 1 0 rfl rfl (lz_vp (x := 2) (n := 40) (by decide) (by decide)) dX6_become_33 (fun H locs hP hD hS => ?_)
        refine lv_iinc (v := 3) (lv' := [(3, .int 3), (0, .ref h0), (1, .int 0), (2, .int x0)]) hx hb dX6_become_34 hl (k := 0) rfl (by decide) (by decide) rfl (fun ls hl => ?_)
        refine lv_goto (tgt := 21) hx hb dX6_become_37 (by decide) ?_
        refine lv_iload_n hx hb dX6_become_21 rfl (lv_at hl 0 rfl) ?_
        refine lv_bipush (v := 40) hx hb dX6_become_22 (by decide) ?_
        refine lv_icmp_ge (tgt := 40) hx hb dX6_become_24 (by decide) (fun c2063 => ?_) (fun c2063 => ?_)
        · exact absurd c2063 (by decide)
        · refine lv_aload_n hx hb dX6_become_27 rfl (lv_at hl 1 rfl) ?_
          refine va_get (D := D) (ci := 6) (v := .ref h1) (C := RX6) (T := TX6) (N := 3) hx hb hts hin6 hown hK hP 0 rfl rfl 0 (by decide) (hts (.fieldLink RX6 9 "MissedPoints$Sheet" "numbers" "[I") (by decide +kernel)) (fun _ h9 => h9) rfl dX6_become_28 ?_
          refine lv_iload_n hx hb dX6_become_31 rfl (lv_at hl 0 rfl) ?_
          refine lv_iconst (v := 0) hx hb dX6_become_32 (by decide) ?_
          refine lz_astc hx hb hK hP hD hS 1 0 rfl rfl (lz_vp (x := 3) (n := 40) (by decide) (by decide)) dX6_become_33 (fun H locs hP hD hS => ?_)
          refine lv_iinc (v := 4) (lv' := [(3, .int 4), (0, .ref h0), (1, .int 0), (2, .int x0)]) hx hb dX6_become_34 hl (k := 0) rfl (by decide) (by decide) rfl (fun ls hl => ?_)
          refine lv_goto (tgt := 21) hx hb dX6_become_37 (by decide) ?_
          refine lv_iload_n hx hb dX6_become_21 rfl (lv_at hl 0 rfl) ?_
          refine lv_bipush (v := 40) hx hb dX6_become_22 (by decide) ?_
          refine lv_icmp_ge (tgt := 40) hx hb dX6_become_24 (by decide) (fun c2064 => ?_) (fun c2064 => ?_)
          · exact absurd c2064 (by decide)
          · refine lv_aload_n hx hb dX6_become_27 rfl (lv_at hl 1 rfl) ?_
            refine va_get (D := D) (ci := 6) (v := .ref h1) (C := RX6) (T := TX6) (N := 3) hx hb hts hin6 hown hK hP 0 rfl rfl 0 (by decide) (hts (.fieldLink RX6 9 "MissedPoints$Sheet" "numbers" "[I") (by decide +kernel)) (fun _ h9 => h9) rfl dX6_become_28 ?_
            refine lv_iload_n hx hb dX6_become_31 rfl (lv_at hl 0 rfl) ?_
            refine lv_iconst (v := 0) hx hb dX6_become_32 (by decide) ?_
            refine lz_astc hx hb hK hP hD hS 1 0 rfl rfl (lz_vp (x := 4) (n := 40) (by decide) (by decide)) dX6_become_33 (fun H locs hP hD hS => ?_)
            refine lv_iinc (v := 5) (lv' := [(3, .int 5), (0, .ref h0), (1, .int 0), (2, .int x0)]) hx hb dX6_become_34 hl (k := 0) rfl (by decide) (by decide) rfl (fun ls hl => ?_)
            refine lv_goto (tgt := 21) hx hb dX6_become_37 (by decide) ?_
            refine lv_iload_n hx hb dX6_become_21 rfl (lv_at hl 0 rfl) ?_
            refine lv_bipush (v := 40) hx hb dX6_become_22 (by decide) ?_
            refine lv_icmp_ge (tgt := 40) hx hb dX6_become_24 (by decide) (fun c2065 => ?_) (fun c2065 => ?_)
            · exact absurd c2065 (by decide)
            · refine lv_aload_n hx hb dX6_become_27 rfl (lv_at hl 1 rfl) ?_
              refine va_get (D := D) (ci := 6) (v := .ref h1) (C := RX6) (T := TX6) (N := 3) hx hb hts hin6 hown hK hP 0 rfl rfl 0 (by decide) (hts (.fieldLink RX6 9 "MissedPoints$Sheet" "numbers" "[I") (by decide +kernel)) (fun _ h9 => h9) rfl dX6_become_28 ?_
              refine lv_iload_n hx hb dX6_become_31 rfl (lv_at hl 0 rfl) ?_
              refine lv_iconst (v := 0) hx hb dX6_become_32 (by decide) ?_
              refine lz_astc hx hb hK hP hD hS 1 0 rfl rfl (lz_vp (x := 5) (n := 40) (by decide) (by decide)) dX6_become_33 (fun H locs hP hD hS => ?_)
              refine lv_iinc (v := 6) (lv' := [(3, .int 6), (0, .ref h0), (1, .int 0), (2, .int x0)]) hx hb dX6_become_34 hl (k := 0) rfl (by decide) (by decide) rfl (fun ls hl => ?_)
              refine lv_goto (tgt := 21) hx hb dX6_become_37 (by decide) ?_
              refine lv_iload_n hx hb dX6_become_21 rfl (lv_at hl 0 rfl) ?_
              refine lv_bipush (v := 40) hx hb dX6_become_22 (by decide) ?_
              refine lv_icmp_ge (tgt := 40) hx hb dX6_become_24 (by decide) (fun c2066 => ?_) (fun c2066 => ?_)
              · exact absurd c2066 (by decide)
              · refine lv_aload_n hx hb dX6_become_27 rfl (lv_at hl 1 rfl) ?_
                refine va_get (D := D) (ci := 6) (v := .ref h1) (C := RX6) (T := TX6) (N := 3) hx hb hts hin6 hown hK hP 0 rfl rfl 0 (by decide) (hts (.fieldLink RX6 9 "MissedPoints$Sheet" "numbers" "[I") (by decide +kernel)) (fun _ h9 => h9) rfl dX6_become_28 ?_
                refine lv_iload_n hx hb dX6_become_31 rfl (lv_at hl 0 rfl) ?_
                refine lv_iconst (v := 0) hx hb dX6_become_32 (by decide) ?_
                refine lz_astc hx hb hK hP hD hS 1 0 rfl rfl (lz_vp (x := 6) (n := 40) (by decide) (by decide)) dX6_become_33 (fun H locs hP hD hS => ?_)
                refine lv_iinc (v := 7) (lv' := [(3, .int 7), (0, .ref h0), (1, .int 0), (2, .int x0)]) hx hb dX6_become_34 hl (k := 0) rfl (by decide) (by decide) rfl (fun ls hl => ?_)
                refine lv_goto (tgt := 21) hx hb dX6_become_37 (by decide) ?_
                refine lv_iload_n hx hb dX6_become_21 rfl (lv_at hl 0 rfl) ?_
                refine lv_bipush (v := 40) hx hb dX6_become_22 (by decide) ?_
                refine lv_icmp_ge (tgt := 40) hx hb dX6_become_24 (by decide) (fun c2067 => ?_) (fun c2067 => ?_)
                · exact absurd c2067 (by decide)
                · refine lv_aload_n hx hb dX6_become_27 rfl (lv_at hl 1 rfl) ?_
                  refine va_get (D := D) (ci := 6) (v := .ref h1) (C := RX6) (T := TX6) (N := 3) hx hb hts hin6 hown hK hP 0 rfl rfl 0 (by decide) (hts (.fieldLink RX6 9 "MissedPoints$Sheet" "numbers" "[I") (by decide +kernel)) (fun _ h9 => h9) rfl dX6_become_28 ?_
                  refine lv_iload_n hx hb dX6_become_31 rfl (lv_at hl 0 rfl) ?_
                  refine lv_iconst (v := 0) hx hb dX6_become_32 (by decide) ?_
                  refine lz_astc hx hb hK hP hD hS 1 0 rfl rfl (lz_vp (x := 7) (n := 40) (by decide) (by decide)) dX6_become_33 (fun H locs hP hD hS => ?_)
                  refine lv_iinc (v := 8) (lv' := [(3, .int 8), (0, .ref h0), (1, .int 0), (2, .int x0)]) hx hb dX6_become_34 hl (k := 0) rfl (by decide) (by decide) rfl (fun ls hl => ?_)
                  refine lv_goto (tgt := 21) hx hb dX6_become_37 (by decide) ?_
                  refine lv_iload_n hx hb dX6_become_21 rfl (lv_at hl 0 rfl) ?_
                  refine lv_bipush (v := 40) hx hb dX6_become_22 (by decide) ?_
                  refine lv_icmp_ge (tgt := 40) hx hb dX6_become_24 (by decide) (fun c2068 => ?_) (fun c2068 => ?_)
                  · exact absurd c2068 (by decide)
                  · refine lv_aload_n hx hb dX6_become_27 rfl (lv_at hl 1 rfl) ?_
                    refine va_get (D := D) (ci := 6) (v := .ref h1) (C := RX6) (T := TX6) (N := 3) hx hb hts hin6 hown hK hP 0 rfl rfl 0 (by decide) (hts (.fieldLink RX6 9 "MissedPoints$Sheet" "numbers" "[I") (by decide +kernel)) (fun _ h9 => h9) rfl dX6_become_28 ?_
                    refine lv_iload_n hx hb dX6_become_31 rfl (lv_at hl 0 rfl) ?_
                    refine lv_iconst (v := 0) hx hb dX6_become_32 (by decide) ?_
                    refine lz_astc hx hb hK hP hD hS 1 0 rfl rfl (lz_vp (x := 8) (n := 40) (by decide) (by decide)) dX6_become_33 (fun H locs hP hD hS => ?_)
                    refine lv_iinc (v := 9) (lv' := [(3, .int 9), (0, .ref h0), (1, .int 0), (2, .int x0)]) hx hb dX6_become_34 hl (k := 0) rfl (by decide) (by decide) rfl (fun ls hl => ?_)
                    refine lv_goto (tgt := 21) hx hb dX6_become_37 (by decide) ?_
                    refine lv_iload_n hx hb dX6_become_21 rfl (lv_at hl 0 rfl) ?_
                    refine lv_bipush (v := 40) hx hb dX6_become_22 (by decide) ?_
                    refine lv_icmp_ge (tgt := 40) hx hb dX6_become_24 (by decide) (fun c2069 => ?_) (fun c2069 => ?_)
                    · exact absurd c2069 (by decide)
                    · refine lv_aload_n hx hb dX6_become_27 rfl (lv_at hl 1 rfl) ?_
                      refine va_get (D := D) (ci := 6) (v := .ref h1) (C := RX6) (T := TX6) (N := 3) hx hb hts hin6 hown hK hP 0 rfl rfl 0 (by decide) (hts (.fieldLink RX6 9 "MissedPoints$Sheet" "numbers" "[I") (by decide +kernel)) (fun _ h9 => h9) rfl dX6_become_28 ?_
                      refine lv_iload_n hx hb dX6_become_31 rfl (lv_at hl 0 rfl) ?_
                      refine lv_iconst (v := 0) hx hb dX6_become_32 (by decide) ?_
                      refine lz_astc hx hb hK hP hD hS 1 0 rfl rfl (lz_vp (x := 9) (n := 40) (by decide) (by decide)) dX6_become_33 (fun H locs hP hD hS => ?_)
                      refine lv_iinc (v := 10) (lv' := [(3, .int 10), (0, .ref h0), (1, .int 0), (2, .int x0)]) hx hb dX6_become_34 hl (k := 0) rfl (by decide) (by decide) rfl (fun ls hl => ?_)
                      refine lv_goto (tgt := 21) hx hb dX6_become_37 (by decide) ?_
                      refine lv_iload_n hx hb dX6_become_21 rfl (lv_at hl 0 rfl) ?_
                      refine lv_bipush (v := 40) hx hb dX6_become_22 (by decide) ?_
                      refine lv_icmp_ge (tgt := 40) hx hb dX6_become_24 (by decide) (fun c2070 => ?_) (fun c2070 => ?_)
                      · exact absurd c2070 (by decide)
                      · refine lv_aload_n hx hb dX6_become_27 rfl (lv_at hl 1 rfl) ?_
                        refine va_get (D := D) (ci := 6) (v := .ref h1) (C := RX6) (T := TX6) (N := 3) hx hb hts hin6 hown hK hP 0 rfl rfl 0 (by decide) (hts (.fieldLink RX6 9 "MissedPoints$Sheet" "numbers" "[I") (by decide +kernel)) (fun _ h9 => h9) rfl dX6_become_28 ?_
                        refine lv_iload_n hx hb dX6_become_31 rfl (lv_at hl 0 rfl) ?_
                        refine lv_iconst (v := 0) hx hb dX6_become_32 (by decide) ?_
                        refine lz_astc hx hb hK hP hD hS 1 0 rfl rfl (lz_vp (x := 10) (n := 40) (by decide) (by decide)) dX6_become_33 (fun H locs hP hD hS => ?_)
                        refine lv_iinc (v := 11) (lv' := [(3, .int 11), (0, .ref h0), (1, .int 0), (2, .int x0)]) hx hb dX6_become_34 hl (k := 0) rfl (by decide) (by decide) rfl (fun ls hl => ?_)
                        refine lv_goto (tgt := 21) hx hb dX6_become_37 (by decide) ?_
                        refine lv_iload_n hx hb dX6_become_21 rfl (lv_at hl 0 rfl) ?_
                        refine lv_bipush (v := 40) hx hb dX6_become_22 (by decide) ?_
                        refine lv_icmp_ge (tgt := 40) hx hb dX6_become_24 (by decide) (fun c2071 => ?_) (fun c2071 => ?_)
                        · exact absurd c2071 (by decide)
                        · refine lv_aload_n hx hb dX6_become_27 rfl (lv_at hl 1 rfl) ?_
                          refine va_get (D := D) (ci := 6) (v := .ref h1) (C := RX6) (T := TX6) (N := 3) hx hb hts hin6 hown hK hP 0 rfl rfl 0 (by decide) (hts (.fieldLink RX6 9 "MissedPoints$Sheet" "numbers" "[I") (by decide +kernel)) (fun _ h9 => h9) rfl dX6_become_28 ?_
                          refine lv_iload_n hx hb dX6_become_31 rfl (lv_at hl 0 rfl) ?_
                          refine lv_iconst (v := 0) hx hb dX6_become_32 (by decide) ?_
                          refine lz_astc hx hb hK hP hD hS 1 0 rfl rfl (lz_vp (x := 11) (n := 40) (by decide) (by decide)) dX6_become_33 (fun H locs hP hD hS => ?_)
                          refine lv_iinc (v := 12) (lv' := [(3, .int 12), (0, .ref h0), (1, .int 0), (2, .int x0)]) hx hb dX6_become_34 hl (k := 0) rfl (by decide) (by decide) rfl (fun ls hl => ?_)
                          refine lv_goto (tgt := 21) hx hb dX6_become_37 (by decide) ?_
                          refine lv_iload_n hx hb dX6_become_21 rfl (lv_at hl 0 rfl) ?_
                          refine lv_bipush (v := 40) hx hb dX6_become_22 (by decide) ?_
                          refine lv_icmp_ge (tgt := 40) hx hb dX6_become_24 (by decide) (fun c2072 => ?_) (fun c2072 => ?_)
                          · exact absurd c2072 (by decide)
                          · refine lv_aload_n hx hb dX6_become_27 rfl (lv_at hl 1 rfl) ?_
                            refine va_get (D := D) (ci := 6) (v := .ref h1) (C := RX6) (T := TX6) (N := 3) hx hb hts hin6 hown hK hP 0 rfl rfl 0 (by decide) (hts (.fieldLink RX6 9 "MissedPoints$Sheet" "numbers" "[I") (by decide +kernel)) (fun _ h9 => h9) rfl dX6_become_28 ?_
                            refine lv_iload_n hx hb dX6_become_31 rfl (lv_at hl 0 rfl) ?_
                            refine lv_iconst (v := 0) hx hb dX6_become_32 (by decide) ?_
                            refine lz_astc hx hb hK hP hD hS 1 0 rfl rfl (lz_vp (x := 12) (n := 40) (by decide) (by decide)) dX6_become_33 (fun H locs hP hD hS => ?_)
                            refine lv_iinc (v := 13) (lv' := [(3, .int 13), (0, .ref h0), (1, .int 0), (2, .int x0)]) hx hb dX6_become_34 hl (k := 0) rfl (by decide) (by decide) rfl (fun ls hl => ?_)
                            refine lv_goto (tgt := 21) hx hb dX6_become_37 (by decide) ?_
                            refine lv_iload_n hx hb dX6_become_21 rfl (lv_at hl 0 rfl) ?_
                            refine lv_bipush (v := 40) hx hb dX6_become_22 (by decide) ?_
                            refine lv_icmp_ge (tgt := 40) hx hb dX6_become_24 (by decide) (fun c2073 => ?_) (fun c2073 => ?_)
                            · exact absurd c2073 (by decide)
                            · refine lv_aload_n hx hb dX6_become_27 rfl (lv_at hl 1 rfl) ?_
                              refine va_get (D := D) (ci := 6) (v := .ref h1) (C := RX6) (T := TX6) (N := 3) hx hb hts hin6 hown hK hP 0 rfl rfl 0 (by decide) (hts (.fieldLink RX6 9 "MissedPoints$Sheet" "numbers" "[I") (by decide +kernel)) (fun _ h9 => h9) rfl dX6_become_28 ?_
                              refine lv_iload_n hx hb dX6_become_31 rfl (lv_at hl 0 rfl) ?_
                              refine lv_iconst (v := 0) hx hb dX6_become_32 (by decide) ?_
                              refine lz_astc hx hb hK hP hD hS 1 0 rfl rfl (lz_vp (x := 13) (n := 40) (by decide) (by decide)) dX6_become_33 (fun H locs hP hD hS => ?_)
                              refine lv_iinc (v := 14) (lv' := [(3, .int 14), (0, .ref h0), (1, .int 0), (2, .int x0)]) hx hb dX6_become_34 hl (k := 0) rfl (by decide) (by decide) rfl (fun ls hl => ?_)
                              refine lv_goto (tgt := 21) hx hb dX6_become_37 (by decide) ?_
                              refine lv_iload_n hx hb dX6_become_21 rfl (lv_at hl 0 rfl) ?_
                              refine lv_bipush (v := 40) hx hb dX6_become_22 (by decide) ?_
                              refine lv_icmp_ge (tgt := 40) hx hb dX6_become_24 (by decide) (fun c2074 => ?_) (fun c2074 => ?_)
                              · exact absurd c2074 (by decide)
                              · refine lv_aload_n hx hb dX6_become_27 rfl (lv_at hl 1 rfl) ?_
                                refine va_get (D := D) (ci := 6) (v := .ref h1) (C := RX6) (T := TX6) (N := 3) hx hb hts hin6 hown hK hP 0 rfl rfl 0 (by decide) (hts (.fieldLink RX6 9 "MissedPoints$Sheet" "numbers" "[I") (by decide +kernel)) (fun _ h9 => h9) rfl dX6_become_28 ?_
                                refine lv_iload_n hx hb dX6_become_31 rfl (lv_at hl 0 rfl) ?_
                                refine lv_iconst (v := 0) hx hb dX6_become_32 (by decide) ?_
                                refine lz_astc hx hb hK hP hD hS 1 0 rfl rfl (lz_vp (x := 14) (n := 40) (by decide) (by decide)) dX6_become_33 (fun H locs hP hD hS => ?_)
                                refine lv_iinc (v := 15) (lv' := [(3, .int 15), (0, .ref h0), (1, .int 0), (2, .int x0)]) hx hb dX6_become_34 hl (k := 0) rfl (by decide) (by decide) rfl (fun ls hl => ?_)
                                refine lv_goto (tgt := 21) hx hb dX6_become_37 (by decide) ?_
                                refine lv_iload_n hx hb dX6_become_21 rfl (lv_at hl 0 rfl) ?_
                                refine lv_bipush (v := 40) hx hb dX6_become_22 (by decide) ?_
                                refine lv_icmp_ge (tgt := 40) hx hb dX6_become_24 (by decide) (fun c2075 => ?_) (fun c2075 => ?_)
                                · exact absurd c2075 (by decide)
                                · refine lv_aload_n hx hb dX6_become_27 rfl (lv_at hl 1 rfl) ?_
                                  refine va_get (D := D) (ci := 6) (v := .ref h1) (C := RX6) (T := TX6) (N := 3) hx hb hts hin6 hown hK hP 0 rfl rfl 0 (by decide) (hts (.fieldLink RX6 9 "MissedPoints$Sheet" "numbers" "[I") (by decide +kernel)) (fun _ h9 => h9) rfl dX6_become_28 ?_
                                  refine lv_iload_n hx hb dX6_become_31 rfl (lv_at hl 0 rfl) ?_
                                  refine lv_iconst (v := 0) hx hb dX6_become_32 (by decide) ?_
                                  refine lz_astc hx hb hK hP hD hS 1 0 rfl rfl (lz_vp (x := 15) (n := 40) (by decide) (by decide)) dX6_become_33 (fun H locs hP hD hS => ?_)
                                  refine lv_iinc (v := 16) (lv' := [(3, .int 16), (0, .ref h0), (1, .int 0), (2, .int x0)]) hx hb dX6_become_34 hl (k := 0) rfl (by decide) (by decide) rfl (fun ls hl => ?_)
                                  refine lv_goto (tgt := 21) hx hb dX6_become_37 (by decide) ?_
                                  refine lv_iload_n hx hb dX6_become_21 rfl (lv_at hl 0 rfl) ?_
                                  refine lv_bipush (v := 40) hx hb dX6_become_22 (by decide) ?_
                                  refine lv_icmp_ge (tgt := 40) hx hb dX6_become_24 (by decide) (fun c2076 => ?_) (fun c2076 => ?_)
                                  · exact absurd c2076 (by decide)
                                  · refine lv_aload_n hx hb dX6_become_27 rfl (lv_at hl 1 rfl) ?_
                                    refine va_get (D := D) (ci := 6) (v := .ref h1) (C := RX6) (T := TX6) (N := 3) hx hb hts hin6 hown hK hP 0 rfl rfl 0 (by decide) (hts (.fieldLink RX6 9 "MissedPoints$Sheet" "numbers" "[I") (by decide +kernel)) (fun _ h9 => h9) rfl dX6_become_28 ?_
                                    refine lv_iload_n hx hb dX6_become_31 rfl (lv_at hl 0 rfl) ?_
                                    refine lv_iconst (v := 0) hx hb dX6_become_32 (by decide) ?_
                                    refine lz_astc hx hb hK hP hD hS 1 0 rfl rfl (lz_vp (x := 16) (n := 40) (by decide) (by decide)) dX6_become_33 (fun H locs hP hD hS => ?_)
                                    refine lv_iinc (v := 17) (lv' := [(3, .int 17), (0, .ref h0), (1, .int 0), (2, .int x0)]) hx hb dX6_become_34 hl (k := 0) rfl (by decide) (by decide) rfl (fun ls hl => ?_)
                                    refine lv_goto (tgt := 21) hx hb dX6_become_37 (by decide) ?_
                                    refine lv_iload_n hx hb dX6_become_21 rfl (lv_at hl 0 rfl) ?_
                                    refine lv_bipush (v := 40) hx hb dX6_become_22 (by decide) ?_
                                    refine lv_icmp_ge (tgt := 40) hx hb dX6_become_24 (by decide) (fun c2077 => ?_) (fun c2077 => ?_)
                                    · exact absurd c2077 (by decide)
                                    · refine lv_aload_n hx hb dX6_become_27 rfl (lv_at hl 1 rfl) ?_
                                      refine va_get (D := D) (ci := 6) (v := .ref h1) (C := RX6) (T := TX6) (N := 3) hx hb hts hin6 hown hK hP 0 rfl rfl 0 (by decide) (hts (.fieldLink RX6 9 "MissedPoints$Sheet" "numbers" "[I") (by decide +kernel)) (fun _ h9 => h9) rfl dX6_become_28 ?_
                                      refine lv_iload_n hx hb dX6_become_31 rfl (lv_at hl 0 rfl) ?_
                                      refine lv_iconst (v := 0) hx hb dX6_become_32 (by decide) ?_
                                      refine lz_astc hx hb hK hP hD hS 1 0 rfl rfl (lz_vp (x := 17) (n := 40) (by decide) (by decide)) dX6_become_33 (fun H locs hP hD hS => ?_)
                                      refine lv_iinc (v := 18) (lv' := [(3, .int 18), (0, .ref h0), (1, .int 0), (2, .int x0)]) hx hb dX6_become_34 hl (k := 0) rfl (by decide) (by decide) rfl (fun ls hl => ?_)
                                      refine lv_goto (tgt := 21) hx hb dX6_become_37 (by decide) ?_
                                      refine lv_iload_n hx hb dX6_become_21 rfl (lv_at hl 0 rfl) ?_
                                      refine lv_bipush (v := 40) hx hb dX6_become_22 (by decide) ?_
                                      refine lv_icmp_ge (tgt := 40) hx hb dX6_become_24 (by decide) (fun c2078 => ?_) (fun c2078 => ?_)
                                      · exact absurd c2078 (by decide)
                                      · refine lv_aload_n hx hb dX6_become_27 rfl (lv_at hl 1 rfl) ?_
                                        refine va_get (D := D) (ci := 6) (v := .ref h1) (C := RX6) (T := TX6) (N := 3) hx hb hts hin6 hown hK hP 0 rfl rfl 0 (by decide) (hts (.fieldLink RX6 9 "MissedPoints$Sheet" "numbers" "[I") (by decide +kernel)) (fun _ h9 => h9) rfl dX6_become_28 ?_
                                        refine lv_iload_n hx hb dX6_become_31 rfl (lv_at hl 0 rfl) ?_
                                        refine lv_iconst (v := 0) hx hb dX6_become_32 (by decide) ?_
                                        refine lz_astc hx hb hK hP hD hS 1 0 rfl rfl (lz_vp (x := 18) (n := 40) (by decide) (by decide)) dX6_become_33 (fun H locs hP hD hS => ?_)
                                        refine lv_iinc (v := 19) (lv' := [(3, .int 19), (0, .ref h0), (1, .int 0), (2, .int x0)]) hx hb dX6_become_34 hl (k := 0) rfl (by decide) (by decide) rfl (fun ls hl => ?_)
                                        refine lv_goto (tgt := 21) hx hb dX6_become_37 (by decide) ?_
                                        refine lv_iload_n hx hb dX6_become_21 rfl (lv_at hl 0 rfl) ?_
                                        refine lv_bipush (v := 40) hx hb dX6_become_22 (by decide) ?_
                                        refine lv_icmp_ge (tgt := 40) hx hb dX6_become_24 (by decide) (fun c2079 => ?_) (fun c2079 => ?_)
                                        · exact absurd c2079 (by decide)
                                        · refine lv_aload_n hx hb dX6_become_27 rfl (lv_at hl 1 rfl) ?_
                                          refine va_get (D := D) (ci := 6) (v := .ref h1) (C := RX6) (T := TX6) (N := 3) hx hb hts hin6 hown hK hP 0 rfl rfl 0 (by decide) (hts (.fieldLink RX6 9 "MissedPoints$Sheet" "numbers" "[I") (by decide +kernel)) (fun _ h9 => h9) rfl dX6_become_28 ?_
                                          refine lv_iload_n hx hb dX6_become_31 rfl (lv_at hl 0 rfl) ?_
                                          refine lv_iconst (v := 0) hx hb dX6_become_32 (by decide) ?_
                                          refine lz_astc hx hb hK hP hD hS 1 0 rfl rfl (lz_vp (x := 19) (n := 40) (by decide) (by decide)) dX6_become_33 (fun H locs hP hD hS => ?_)
                                          refine lv_iinc (v := 20) (lv' := [(3, .int 20), (0, .ref h0), (1, .int 0), (2, .int x0)]) hx hb dX6_become_34 hl (k := 0) rfl (by decide) (by decide) rfl (fun ls hl => ?_)
                                          refine lv_goto (tgt := 21) hx hb dX6_become_37 (by decide) ?_
                                          refine lv_iload_n hx hb dX6_become_21 rfl (lv_at hl 0 rfl) ?_
                                          refine lv_bipush (v := 40) hx hb dX6_become_22 (by decide) ?_
                                          refine lv_icmp_ge (tgt := 40) hx hb dX6_become_24 (by decide) (fun c2080 => ?_) (fun c2080 => ?_)
                                          · exact absurd c2080 (by decide)
                                          · refine lv_aload_n hx hb dX6_become_27 rfl (lv_at hl 1 rfl) ?_
                                            refine va_get (D := D) (ci := 6) (v := .ref h1) (C := RX6) (T := TX6) (N := 3) hx hb hts hin6 hown hK hP 0 rfl rfl 0 (by decide) (hts (.fieldLink RX6 9 "MissedPoints$Sheet" "numbers" "[I") (by decide +kernel)) (fun _ h9 => h9) rfl dX6_become_28 ?_
                                            refine lv_iload_n hx hb dX6_become_31 rfl (lv_at hl 0 rfl) ?_
                                            refine lv_iconst (v := 0) hx hb dX6_become_32 (by decide) ?_
                                            refine lz_astc hx hb hK hP hD hS 1 0 rfl rfl (lz_vp (x := 20) (n := 40) (by decide) (by decide)) dX6_become_33 (fun H locs hP hD hS => ?_)
                                            refine lv_iinc (v := 21) (lv' := [(3, .int 21), (0, .ref h0), (1, .int 0), (2, .int x0)]) hx hb dX6_become_34 hl (k := 0) rfl (by decide) (by decide) rfl (fun ls hl => ?_)
                                            refine lv_goto (tgt := 21) hx hb dX6_become_37 (by decide) ?_
                                            refine lv_iload_n hx hb dX6_become_21 rfl (lv_at hl 0 rfl) ?_
                                            refine lv_bipush (v := 40) hx hb dX6_become_22 (by decide) ?_
                                            refine lv_icmp_ge (tgt := 40) hx hb dX6_become_24 (by decide) (fun c2081 => ?_) (fun c2081 => ?_)
                                            · exact absurd c2081 (by decide)
                                            · refine lv_aload_n hx hb dX6_become_27 rfl (lv_at hl 1 rfl) ?_
                                              refine va_get (D := D) (ci := 6) (v := .ref h1) (C := RX6) (T := TX6) (N := 3) hx hb hts hin6 hown hK hP 0 rfl rfl 0 (by decide) (hts (.fieldLink RX6 9 "MissedPoints$Sheet" "numbers" "[I") (by decide +kernel)) (fun _ h9 => h9) rfl dX6_become_28 ?_
                                              refine lv_iload_n hx hb dX6_become_31 rfl (lv_at hl 0 rfl) ?_
                                              refine lv_iconst (v := 0) hx hb dX6_become_32 (by decide) ?_
                                              refine lz_astc hx hb hK hP hD hS 1 0 rfl rfl (lz_vp (x := 21) (n := 40) (by decide) (by decide)) dX6_become_33 (fun H locs hP hD hS => ?_)
                                              refine lv_iinc (v := 22) (lv' := [(3, .int 22), (0, .ref h0), (1, .int 0), (2, .int x0)]) hx hb dX6_become_34 hl (k := 0) rfl (by decide) (by decide) rfl (fun ls hl => ?_)
                                              refine lv_goto (tgt := 21) hx hb dX6_become_37 (by decide) ?_
                                              refine lv_iload_n hx hb dX6_become_21 rfl (lv_at hl 0 rfl) ?_
                                              refine lv_bipush (v := 40) hx hb dX6_become_22 (by decide) ?_
                                              refine lv_icmp_ge (tgt := 40) hx hb dX6_become_24 (by decide) (fun c2082 => ?_) (fun c2082 => ?_)
                                              · exact absurd c2082 (by decide)
                                              · refine lv_aload_n hx hb dX6_become_27 rfl (lv_at hl 1 rfl) ?_
                                                refine va_get (D := D) (ci := 6) (v := .ref h1) (C := RX6) (T := TX6) (N := 3) hx hb hts hin6 hown hK hP 0 rfl rfl 0 (by decide) (hts (.fieldLink RX6 9 "MissedPoints$Sheet" "numbers" "[I") (by decide +kernel)) (fun _ h9 => h9) rfl dX6_become_28 ?_
                                                refine lv_iload_n hx hb dX6_become_31 rfl (lv_at hl 0 rfl) ?_
                                                refine lv_iconst (v := 0) hx hb dX6_become_32 (by decide) ?_
                                                refine lz_astc hx hb hK hP hD hS 1 0 rfl rfl (lz_vp (x := 22) (n := 40) (by decide) (by decide)) dX6_become_33 (fun H locs hP hD hS => ?_)
                                                refine lv_iinc (v := 23) (lv' := [(3, .int 23), (0, .ref h0), (1, .int 0), (2, .int x0)]) hx hb dX6_become_34 hl (k := 0) rfl (by decide) (by decide) rfl (fun ls hl => ?_)
                                                refine lv_goto (tgt := 21) hx hb dX6_become_37 (by decide) ?_
                                                refine lv_iload_n hx hb dX6_become_21 rfl (lv_at hl 0 rfl) ?_
                                                refine lv_bipush (v := 40) hx hb dX6_become_22 (by decide) ?_
                                                refine lv_icmp_ge (tgt := 40) hx hb dX6_become_24 (by decide) (fun c2083 => ?_) (fun c2083 => ?_)
                                                · exact absurd c2083 (by decide)
                                                · refine lv_aload_n hx hb dX6_become_27 rfl (lv_at hl 1 rfl) ?_
                                                  refine va_get (D := D) (ci := 6) (v := .ref h1) (C := RX6) (T := TX6) (N := 3) hx hb hts hin6 hown hK hP 0 rfl rfl 0 (by decide) (hts (.fieldLink RX6 9 "MissedPoints$Sheet" "numbers" "[I") (by decide +kernel)) (fun _ h9 => h9) rfl dX6_become_28 ?_
                                                  refine lv_iload_n hx hb dX6_become_31 rfl (lv_at hl 0 rfl) ?_
                                                  refine lv_iconst (v := 0) hx hb dX6_become_32 (by decide) ?_
                                                  refine lz_astc hx hb hK hP hD hS 1 0 rfl rfl (lz_vp (x := 23) (n := 40) (by decide) (by decide)) dX6_become_33 (fun H locs hP hD hS => ?_)
                                                  refine lv_iinc (v := 24) (lv' := [(3, .int 24), (0, .ref h0), (1, .int 0), (2, .int x0)]) hx hb dX6_become_34 hl (k := 0) rfl (by decide) (by decide) rfl (fun ls hl => ?_)
                                                  refine lv_goto (tgt := 21) hx hb dX6_become_37 (by decide) ?_
                                                  refine lv_iload_n hx hb dX6_become_21 rfl (lv_at hl 0 rfl) ?_
                                                  refine lv_bipush (v := 40) hx hb dX6_become_22 (by decide) ?_
                                                  refine lv_icmp_ge (tgt := 40) hx hb dX6_become_24 (by decide) (fun c2084 => ?_) (fun c2084 => ?_)
                                                  · exact absurd c2084 (by decide)
                                                  · refine lv_aload_n hx hb dX6_become_27 rfl (lv_at hl 1 rfl) ?_
                                                    refine va_get (D := D) (ci := 6) (v := .ref h1) (C := RX6) (T := TX6) (N := 3) hx hb hts hin6 hown hK hP 0 rfl rfl 0 (by decide) (hts (.fieldLink RX6 9 "MissedPoints$Sheet" "numbers" "[I") (by decide +kernel)) (fun _ h9 => h9) rfl dX6_become_28 ?_
                                                    refine lv_iload_n hx hb dX6_become_31 rfl (lv_at hl 0 rfl) ?_
                                                    refine lv_iconst (v := 0) hx hb dX6_become_32 (by decide) ?_
                                                    refine lz_astc hx hb hK hP hD hS 1 0 rfl rfl (lz_vp (x := 24) (n := 40) (by decide) (by decide)) dX6_become_33 (fun H locs hP hD hS => ?_)
                                                    refine lv_iinc (v := 25) (lv' := [(3, .int 25), (0, .ref h0), (1, .int 0), (2, .int x0)]) hx hb dX6_become_34 hl (k := 0) rfl (by decide) (by decide) rfl (fun ls hl => ?_)
                                                    refine lv_goto (tgt := 21) hx hb dX6_become_37 (by decide) ?_
                                                    refine lv_iload_n hx hb dX6_become_21 rfl (lv_at hl 0 rfl) ?_
                                                    refine lv_bipush (v := 40) hx hb dX6_become_22 (by decide) ?_
                                                    refine lv_icmp_ge (tgt := 40) hx hb dX6_become_24 (by decide) (fun c2085 => ?_) (fun c2085 => ?_)
                                                    · exact absurd c2085 (by decide)
                                                    · refine lv_aload_n hx hb dX6_become_27 rfl (lv_at hl 1 rfl) ?_
                                                      refine va_get (D := D) (ci := 6) (v := .ref h1) (C := RX6) (T := TX6) (N := 3) hx hb hts hin6 hown hK hP 0 rfl rfl 0 (by decide) (hts (.fieldLink RX6 9 "MissedPoints$Sheet" "numbers" "[I") (by decide +kernel)) (fun _ h9 => h9) rfl dX6_become_28 ?_
                                                      refine lv_iload_n hx hb dX6_become_31 rfl (lv_at hl 0 rfl) ?_
                                                      refine lv_iconst (v := 0) hx hb dX6_become_32 (by decide) ?_
                                                      refine lz_astc hx hb hK hP hD hS 1 0 rfl rfl (lz_vp (x := 25) (n := 40) (by decide) (by decide)) dX6_become_33 (fun H locs hP hD hS => ?_)
                                                      refine lv_iinc (v := 26) (lv' := [(3, .int 26), (0, .ref h0), (1, .int 0), (2, .int x0)]) hx hb dX6_become_34 hl (k := 0) rfl (by decide) (by decide) rfl (fun ls hl => ?_)
                                                      refine lv_goto (tgt := 21) hx hb dX6_become_37 (by decide) ?_
                                                      refine lv_iload_n hx hb dX6_become_21 rfl (lv_at hl 0 rfl) ?_
                                                      refine lv_bipush (v := 40) hx hb dX6_become_22 (by decide) ?_
                                                      refine lv_icmp_ge (tgt := 40) hx hb dX6_become_24 (by decide) (fun c2086 => ?_) (fun c2086 => ?_)
                                                      · exact absurd c2086 (by decide)
                                                      · refine lv_aload_n hx hb dX6_become_27 rfl (lv_at hl 1 rfl) ?_
                                                        refine va_get (D := D) (ci := 6) (v := .ref h1) (C := RX6) (T := TX6) (N := 3) hx hb hts hin6 hown hK hP 0 rfl rfl 0 (by decide) (hts (.fieldLink RX6 9 "MissedPoints$Sheet" "numbers" "[I") (by decide +kernel)) (fun _ h9 => h9) rfl dX6_become_28 ?_
                                                        refine lv_iload_n hx hb dX6_become_31 rfl (lv_at hl 0 rfl) ?_
                                                        refine lv_iconst (v := 0) hx hb dX6_become_32 (by decide) ?_
                                                        refine lz_astc hx hb hK hP hD hS 1 0 rfl rfl (lz_vp (x := 26) (n := 40) (by decide) (by decide)) dX6_become_33 (fun H locs hP hD hS => ?_)
                                                        refine lv_iinc (v := 27) (lv' := [(3, .int 27), (0, .ref h0), (1, .int 0), (2, .int x0)]) hx hb dX6_become_34 hl (k := 0) rfl (by decide) (by decide) rfl (fun ls hl => ?_)
                                                        refine lv_goto (tgt := 21) hx hb dX6_become_37 (by decide) ?_
                                                        refine lv_iload_n hx hb dX6_become_21 rfl (lv_at hl 0 rfl) ?_
                                                        refine lv_bipush (v := 40) hx hb dX6_become_22 (by decide) ?_
                                                        refine lv_icmp_ge (tgt := 40) hx hb dX6_become_24 (by decide) (fun c2087 => ?_) (fun c2087 => ?_)
                                                        · exact absurd c2087 (by decide)
                                                        · refine lv_aload_n hx hb dX6_become_27 rfl (lv_at hl 1 rfl) ?_
                                                          refine va_get (D := D) (ci := 6) (v := .ref h1) (C := RX6) (T := TX6) (N := 3) hx hb hts hin6 hown hK hP 0 rfl rfl 0 (by decide) (hts (.fieldLink RX6 9 "MissedPoints$Sheet" "numbers" "[I") (by decide +kernel)) (fun _ h9 => h9) rfl dX6_become_28 ?_
                                                          refine lv_iload_n hx hb dX6_become_31 rfl (lv_at hl 0 rfl) ?_
                                                          refine lv_iconst (v := 0) hx hb dX6_become_32 (by decide) ?_
                                                          refine lz_astc hx hb hK hP hD hS 1 0 rfl rfl (lz_vp (x := 27) (n := 40) (by decide) (by decide)) dX6_become_33 (fun H locs hP hD hS => ?_)
                                                          refine lv_iinc (v := 28) (lv' := [(3, .int 28), (0, .ref h0), (1, .int 0), (2, .int x0)]) hx hb dX6_become_34 hl (k := 0) rfl (by decide) (by decide) rfl (fun ls hl => ?_)
                                                          refine lv_goto (tgt := 21) hx hb dX6_become_37 (by decide) ?_
                                                          refine lv_iload_n hx hb dX6_become_21 rfl (lv_at hl 0 rfl) ?_
                                                          refine lv_bipush (v := 40) hx hb dX6_become_22 (by decide) ?_
                                                          refine lv_icmp_ge (tgt := 40) hx hb dX6_become_24 (by decide) (fun c2088 => ?_) (fun c2088 => ?_)
                                                          · exact absurd c2088 (by decide)
                                                          · refine lv_aload_n hx hb dX6_become_27 rfl (lv_at hl 1 rfl) ?_
                                                            refine va_get (D := D) (ci := 6) (v := .ref h1) (C := RX6) (T := TX6) (N := 3) hx hb hts hin6 hown hK hP 0 rfl rfl 0 (by decide) (hts (.fieldLink RX6 9 "MissedPoints$Sheet" "numbers" "[I") (by decide +kernel)) (fun _ h9 => h9) rfl dX6_become_28 ?_
                                                            refine lv_iload_n hx hb dX6_become_31 rfl (lv_at hl 0 rfl) ?_
                                                            refine lv_iconst (v := 0) hx hb dX6_become_32 (by decide) ?_
                                                            refine lz_astc hx hb hK hP hD hS 1 0 rfl rfl (lz_vp (x := 28) (n := 40) (by decide) (by decide)) dX6_become_33 (fun H locs hP hD hS => ?_)
                                                            refine lv_iinc (v := 29) (lv' := [(3, .int 29), (0, .ref h0), (1, .int 0), (2, .int x0)]) hx hb dX6_become_34 hl (k := 0) rfl (by decide) (by decide) rfl (fun ls hl => ?_)
                                                            refine lv_goto (tgt := 21) hx hb dX6_become_37 (by decide) ?_
                                                            refine lv_iload_n hx hb dX6_become_21 rfl (lv_at hl 0 rfl) ?_
                                                            refine lv_bipush (v := 40) hx hb dX6_become_22 (by decide) ?_
                                                            refine lv_icmp_ge (tgt := 40) hx hb dX6_become_24 (by decide) (fun c2089 => ?_) (fun c2089 => ?_)
                                                            · exact absurd c2089 (by decide)
                                                            · refine lv_aload_n hx hb dX6_become_27 rfl (lv_at hl 1 rfl) ?_
                                                              refine va_get (D := D) (ci := 6) (v := .ref h1) (C := RX6) (T := TX6) (N := 3) hx hb hts hin6 hown hK hP 0 rfl rfl 0 (by decide) (hts (.fieldLink RX6 9 "MissedPoints$Sheet" "numbers" "[I") (by decide +kernel)) (fun _ h9 => h9) rfl dX6_become_28 ?_
                                                              refine lv_iload_n hx hb dX6_become_31 rfl (lv_at hl 0 rfl) ?_
                                                              refine lv_iconst (v := 0) hx hb dX6_become_32 (by decide) ?_
                                                              refine lz_astc hx hb hK hP hD hS 1 0 rfl rfl (lz_vp (x := 29) (n := 40) (by decide) (by decide)) dX6_become_33 (fun H locs hP hD hS => ?_)
                                                              refine lv_iinc (v := 30) (lv' := [(3, .int 30), (0, .ref h0), (1, .int 0), (2, .int x0)]) hx hb dX6_become_34 hl (k := 0) rfl (by decide) (by decide) rfl (fun ls hl => ?_)
                                                              refine lv_goto (tgt := 21) hx hb dX6_become_37 (by decide) ?_
                                                              refine lv_iload_n hx hb dX6_become_21 rfl (lv_at hl 0 rfl) ?_
                                                              refine lv_bipush (v := 40) hx hb dX6_become_22 (by decide) ?_
                                                              refine lv_icmp_ge (tgt := 40) hx hb dX6_become_24 (by decide) (fun c2090 => ?_) (fun c2090 => ?_)
                                                              · exact absurd c2090 (by decide)
                                                              · refine lv_aload_n hx hb dX6_become_27 rfl (lv_at hl 1 rfl) ?_
                                                                refine va_get (D := D) (ci := 6) (v := .ref h1) (C := RX6) (T := TX6) (N := 3) hx hb hts hin6 hown hK hP 0 rfl rfl 0 (by decide) (hts (.fieldLink RX6 9 "MissedPoints$Sheet" "numbers" "[I") (by decide +kernel)) (fun _ h9 => h9) rfl dX6_become_28 ?_
                                                                refine lv_iload_n hx hb dX6_become_31 rfl (lv_at hl 0 rfl) ?_
                                                                refine lv_iconst (v := 0) hx hb dX6_become_32 (by decide) ?_
                                                                refine lz_astc hx hb hK hP hD hS 1 0 rfl rfl (lz_vp (x := 30) (n := 40) (by decide) (by decide)) dX6_become_33 (fun H locs hP hD hS => ?_)
                                                                refine lv_iinc (v := 31) (lv' := [(3, .int 31), (0, .ref h0), (1, .int 0), (2, .int x0)]) hx hb dX6_become_34 hl (k := 0) rfl (by decide) (by decide) rfl (fun ls hl => ?_)
                                                                refine lv_goto (tgt := 21) hx hb dX6_become_37 (by decide) ?_
                                                                refine lv_iload_n hx hb dX6_become_21 rfl (lv_at hl 0 rfl) ?_
                                                                refine lv_bipush (v := 40) hx hb dX6_become_22 (by decide) ?_
                                                                refine lv_icmp_ge (tgt := 40) hx hb dX6_become_24 (by decide) (fun c2091 => ?_) (fun c2091 => ?_)
                                                                · exact absurd c2091 (by decide)
                                                                · refine lv_aload_n hx hb dX6_become_27 rfl (lv_at hl 1 rfl) ?_
                                                                  refine va_get (D := D) (ci := 6) (v := .ref h1) (C := RX6) (T := TX6) (N := 3) hx hb hts hin6 hown hK hP 0 rfl rfl 0 (by decide) (hts (.fieldLink RX6 9 "MissedPoints$Sheet" "numbers" "[I") (by decide +kernel)) (fun _ h9 => h9) rfl dX6_become_28 ?_
                                                                  refine lv_iload_n hx hb dX6_become_31 rfl (lv_at hl 0 rfl) ?_
                                                                  refine lv_iconst (v := 0) hx hb dX6_become_32 (by decide) ?_
                                                                  refine lz_astc hx hb hK hP hD hS 1 0 rfl rfl (lz_vp (x := 31) (n := 40) (by decide) (by decide)) dX6_become_33 (fun H locs hP hD hS => ?_)
                                                                  refine lv_iinc (v := 32) (lv' := [(3, .int 32), (0, .ref h0), (1, .int 0), (2, .int x0)]) hx hb dX6_become_34 hl (k := 0) rfl (by decide) (by decide) rfl (fun ls hl => ?_)
                                                                  refine lv_goto (tgt := 21) hx hb dX6_become_37 (by decide) ?_
                                                                  refine lv_iload_n hx hb dX6_become_21 rfl (lv_at hl 0 rfl) ?_
                                                                  refine lv_bipush (v := 40) hx hb dX6_become_22 (by decide) ?_
                                                                  refine lv_icmp_ge (tgt := 40) hx hb dX6_become_24 (by decide) (fun c2092 => ?_) (fun c2092 => ?_)
                                                                  · exact absurd c2092 (by decide)
                                                                  · refine lv_aload_n hx hb dX6_become_27 rfl (lv_at hl 1 rfl) ?_
                                                                    refine va_get (D := D) (ci := 6) (v := .ref h1) (C := RX6) (T := TX6) (N := 3) hx hb hts hin6 hown hK hP 0 rfl rfl 0 (by decide) (hts (.fieldLink RX6 9 "MissedPoints$Sheet" "numbers" "[I") (by decide +kernel)) (fun _ h9 => h9) rfl dX6_become_28 ?_
                                                                    refine lv_iload_n hx hb dX6_become_31 rfl (lv_at hl 0 rfl) ?_
                                                                    refine lv_iconst (v := 0) hx hb dX6_become_32 (by decide) ?_
                                                                    refine lz_astc hx hb hK hP hD hS 1 0 rfl rfl (lz_vp (x := 32) (n := 40) (by decide) (by decide)) dX6_become_33 (fun H locs hP hD hS => ?_)
                                                                    refine lv_iinc (v := 33) (lv' := [(3, .int 33), (0, .ref h0), (1, .int 0), (2, .int x0)]) hx hb dX6_become_34 hl (k := 0) rfl (by decide) (by decide) rfl (fun ls hl => ?_)
                                                                    refine lv_goto (tgt := 21) hx hb dX6_become_37 (by decide) ?_
                                                                    refine lv_iload_n hx hb dX6_become_21 rfl (lv_at hl 0 rfl) ?_
                                                                    refine lv_bipush (v := 40) hx hb dX6_become_22 (by decide) ?_
                                                                    refine lv_icmp_ge (tgt := 40) hx hb dX6_become_24 (by decide) (fun c2093 => ?_) (fun c2093 => ?_)
                                                                    · exact absurd c2093 (by decide)
                                                                    · refine lv_aload_n hx hb dX6_become_27 rfl (lv_at hl 1 rfl) ?_
                                                                      refine va_get (D := D) (ci := 6) (v := .ref h1) (C := RX6) (T := TX6) (N := 3) hx hb hts hin6 hown hK hP 0 rfl rfl 0 (by decide) (hts (.fieldLink RX6 9 "MissedPoints$Sheet" "numbers" "[I") (by decide +kernel)) (fun _ h9 => h9) rfl dX6_become_28 ?_
                                                                      refine lv_iload_n hx hb dX6_become_31 rfl (lv_at hl 0 rfl) ?_
                                                                      refine lv_iconst (v := 0) hx hb dX6_become_32 (by decide) ?_
                                                                      refine lz_astc hx hb hK hP hD hS 1 0 rfl rfl (lz_vp (x := 33) (n := 40) (by decide) (by decide)) dX6_become_33 (fun H locs hP hD hS => ?_)
                                                                      refine lv_iinc (v := 34) (lv' := [(3, .int 34), (0, .ref h0), (1, .int 0), (2, .int x0)]) hx hb dX6_become_34 hl (k := 0) rfl (by decide) (by decide) rfl (fun ls hl => ?_)
                                                                      refine lv_goto (tgt := 21) hx hb dX6_become_37 (by decide) ?_
                                                                      refine lv_iload_n hx hb dX6_become_21 rfl (lv_at hl 0 rfl) ?_
                                                                      refine lv_bipush (v := 40) hx hb dX6_become_22 (by decide) ?_
                                                                      refine lv_icmp_ge (tgt := 40) hx hb dX6_become_24 (by decide) (fun c2094 => ?_) (fun c2094 => ?_)
                                                                      · exact absurd c2094 (by decide)
                                                                      · refine lv_aload_n hx hb dX6_become_27 rfl (lv_at hl 1 rfl) ?_
                                                                        refine va_get (D := D) (ci := 6) (v := .ref h1) (C := RX6) (T := TX6) (N := 3) hx hb hts hin6 hown hK hP 0 rfl rfl 0 (by decide) (hts (.fieldLink RX6 9 "MissedPoints$Sheet" "numbers" "[I") (by decide +kernel)) (fun _ h9 => h9) rfl dX6_become_28 ?_
                                                                        refine lv_iload_n hx hb dX6_become_31 rfl (lv_at hl 0 rfl) ?_
                                                                        refine lv_iconst (v := 0) hx hb dX6_become_32 (by decide) ?_
                                                                        refine lz_astc hx hb hK hP hD hS 1 0 rfl rfl (lz_vp (x := 34) (n := 40) (by decide) (by decide)) dX6_become_33 (fun H locs hP hD hS => ?_)
                                                                        refine lv_iinc (v := 35) (lv' := [(3, .int 35), (0, .ref h0), (1, .int 0), (2, .int x0)]) hx hb dX6_become_34 hl (k := 0) rfl (by decide) (by decide) rfl (fun ls hl => ?_)
                                                                        refine lv_goto (tgt := 21) hx hb dX6_become_37 (by decide) ?_
                                                                        refine lv_iload_n hx hb dX6_become_21 rfl (lv_at hl 0 rfl) ?_
                                                                        refine lv_bipush (v := 40) hx hb dX6_become_22 (by decide) ?_
                                                                        refine lv_icmp_ge (tgt := 40) hx hb dX6_become_24 (by decide) (fun c2095 => ?_) (fun c2095 => ?_)
                                                                        · exact absurd c2095 (by decide)
                                                                        · refine lv_aload_n hx hb dX6_become_27 rfl (lv_at hl 1 rfl) ?_
                                                                          refine va_get (D := D) (ci := 6) (v := .ref h1) (C := RX6) (T := TX6) (N := 3) hx hb hts hin6 hown hK hP 0 rfl rfl 0 (by decide) (hts (.fieldLink RX6 9 "MissedPoints$Sheet" "numbers" "[I") (by decide +kernel)) (fun _ h9 => h9) rfl dX6_become_28 ?_
                                                                          refine lv_iload_n hx hb dX6_become_31 rfl (lv_at hl 0 rfl) ?_
                                                                          refine lv_iconst (v := 0) hx hb dX6_become_32 (by decide) ?_
                                                                          refine lz_astc hx hb hK hP hD hS 1 0 rfl rfl (lz_vp (x := 35) (n := 40) (by decide) (by decide)) dX6_become_33 (fun H locs hP hD hS => ?_)
                                                                          refine lv_iinc (v := 36) (lv' := [(3, .int 36), (0, .ref h0), (1, .int 0), (2, .int x0)]) hx hb dX6_become_34 hl (k := 0) rfl (by decide) (by decide) rfl (fun ls hl => ?_)
                                                                          refine lv_goto (tgt := 21) hx hb dX6_become_37 (by decide) ?_
                                                                          refine lv_iload_n hx hb dX6_become_21 rfl (lv_at hl 0 rfl) ?_
                                                                          refine lv_bipush (v := 40) hx hb dX6_become_22 (by decide) ?_
                                                                          refine lv_icmp_ge (tgt := 40) hx hb dX6_become_24 (by decide) (fun c2096 => ?_) (fun c2096 => ?_)
                                                                          · exact absurd c2096 (by decide)
                                                                          · refine lv_aload_n hx hb dX6_become_27 rfl (lv_at hl 1 rfl) ?_
                                                                            refine va_get (D := D) (ci := 6) (v := .ref h1) (C := RX6) (T := TX6) (N := 3) hx hb hts hin6 hown hK hP 0 rfl rfl 0 (by decide) (hts (.fieldLink RX6 9 "MissedPoints$Sheet" "numbers" "[I") (by decide +kernel)) (fun _ h9 => h9) rfl dX6_become_28 ?_
                                                                            refine lv_iload_n hx hb dX6_become_31 rfl (lv_at hl 0 rfl) ?_
                                                                            refine lv_iconst (v := 0) hx hb dX6_become_32 (by decide) ?_
                                                                            refine lz_astc hx hb hK hP hD hS 1 0 rfl rfl (lz_vp (x := 36) (n := 40) (by decide) (by decide)) dX6_become_33 (fun H locs hP hD hS => ?_)
                                                                            refine lv_iinc (v := 37) (lv' := [(3, .int 37), (0, .ref h0), (1, .int 0), (2, .int x0)]) hx hb dX6_become_34 hl (k := 0) rfl (by decide) (by decide) rfl (fun ls hl => ?_)
                                                                            refine lv_goto (tgt := 21) hx hb dX6_become_37 (by decide) ?_
                                                                            refine lv_iload_n hx hb dX6_become_21 rfl (lv_at hl 0 rfl) ?_
                                                                            refine lv_bipush (v := 40) hx hb dX6_become_22 (by decide) ?_
                                                                            refine lv_icmp_ge (tgt := 40) hx hb dX6_become_24 (by decide) (fun c2097 => ?_) (fun c2097 => ?_)
                                                                            · exact absurd c2097 (by decide)
                                                                            · refine lv_aload_n hx hb dX6_become_27 rfl (lv_at hl 1 rfl) ?_
                                                                              refine va_get (D := D) (ci := 6) (v := .ref h1) (C := RX6) (T := TX6) (N := 3) hx hb hts hin6 hown hK hP 0 rfl rfl 0 (by decide) (hts (.fieldLink RX6 9 "MissedPoints$Sheet" "numbers" "[I") (by decide +kernel)) (fun _ h9 => h9) rfl dX6_become_28 ?_
                                                                              refine lv_iload_n hx hb dX6_become_31 rfl (lv_at hl 0 rfl) ?_
                                                                              refine lv_iconst (v := 0) hx hb dX6_become_32 (by decide) ?_
                                                                              refine lz_astc hx hb hK hP hD hS 1 0 rfl rfl (lz_vp (x := 37) (n := 40) (by decide) (by decide)) dX6_become_33 (fun H locs hP hD hS => ?_)
                                                                              refine lv_iinc (v := 38) (lv' := [(3, .int 38), (0, .ref h0), (1, .int 0), (2, .int x0)]) hx hb dX6_become_34 hl (k := 0) rfl (by decide) (by decide) rfl (fun ls hl => ?_)
                                                                              refine lv_goto (tgt := 21) hx hb dX6_become_37 (by decide) ?_
                                                                              refine lv_iload_n hx hb dX6_become_21 rfl (lv_at hl 0 rfl) ?_
                                                                              refine lv_bipush (v := 40) hx hb dX6_become_22 (by decide) ?_
                                                                              refine lv_icmp_ge (tgt := 40) hx hb dX6_become_24 (by decide) (fun c2098 => ?_) (fun c2098 => ?_)
                                                                              · exact absurd c2098 (by decide)
                                                                              · refine lv_aload_n hx hb dX6_become_27 rfl (lv_at hl 1 rfl) ?_
                                                                                refine va_get (D := D) (ci := 6) (v := .ref h1) (C := RX6) (T := TX6) (N := 3) hx hb hts hin6 hown hK hP 0 rfl rfl 0 (by decide) (hts (.fieldLink RX6 9 "MissedPoints$Sheet" "numbers" "[I") (by decide +kernel)) (fun _ h9 => h9) rfl dX6_become_28 ?_
                                                                                refine lv_iload_n hx hb dX6_become_31 rfl (lv_at hl 0 rfl) ?_
                                                                                refine lv_iconst (v := 0) hx hb dX6_become_32 (by decide) ?_
                                                                                refine lz_astc hx hb hK hP hD hS 1 0 rfl rfl (lz_vp (x := 38) (n := 40) (by decide) (by decide)) dX6_become_33 (fun H locs hP hD hS => ?_)
                                                                                refine lv_iinc (v := 39) (lv' := [(3, .int 39), (0, .ref h0), (1, .int 0), (2, .int x0)]) hx hb dX6_become_34 hl (k := 0) rfl (by decide) (by decide) rfl (fun ls hl => ?_)
                                                                                refine lv_goto (tgt := 21) hx hb dX6_become_37 (by decide) ?_
                                                                                refine lv_iload_n hx hb dX6_become_21 rfl (lv_at hl 0 rfl) ?_
                                                                                refine lv_bipush (v := 40) hx hb dX6_become_22 (by decide) ?_
                                                                                refine lv_icmp_ge (tgt := 40) hx hb dX6_become_24 (by decide) (fun c2099 => ?_) (fun c2099 => ?_)
                                                                                · exact absurd c2099 (by decide)
                                                                                · refine lv_aload_n hx hb dX6_become_27 rfl (lv_at hl 1 rfl) ?_
                                                                                  refine va_get (D := D) (ci := 6) (v := .ref h1) (C := RX6) (T := TX6) (N := 3) hx hb hts hin6 hown hK hP 0 rfl rfl 0 (by decide) (hts (.fieldLink RX6 9 "MissedPoints$Sheet" "numbers" "[I") (by decide +kernel)) (fun _ h9 => h9) rfl dX6_become_28 ?_
                                                                                  refine lv_iload_n hx hb dX6_become_31 rfl (lv_at hl 0 rfl) ?_
                                                                                  refine lv_iconst (v := 0) hx hb dX6_become_32 (by decide) ?_
                                                                                  refine lz_astc hx hb hK hP hD hS 1 0 rfl rfl (lz_vp (x := 39) (n := 40) (by decide) (by decide)) dX6_become_33 (fun H locs hP hD hS => ?_)
                                                                                  refine lv_iinc (v := 40) (lv' := [(3, .int 40), (0, .ref h0), (1, .int 0), (2, .int x0)]) hx hb dX6_become_34 hl (k := 0) rfl (by decide) (by decide) rfl (fun ls hl => ?_)
                                                                                  refine lv_goto (tgt := 21) hx hb dX6_become_37 (by decide) ?_
                                                                                  refine lv_iload_n hx hb dX6_become_21 rfl (lv_at hl 0 rfl) ?_
                                                                                  refine lv_bipush (v := 40) hx hb dX6_become_22 (by decide) ?_
                                                                                  refine lv_icmp_ge (tgt := 40) hx hb dX6_become_24 (by decide) (fun c2100 => ?_) (fun c2100 => ?_)
                                                                                  · have hP9 := hP.sub (ws' := [(h0, .inr (6, [.ref h1, .int 0, .int (if (0 : Int32) < (if (40 : Int32) < x0 then (40 : Int32) else x0) then (if (40 : Int32) < x0 then (40 : Int32) else x0) else (0 : Int32))])), (h1, .inl (cI, 40, .inl (fun _ => 0)))]) [0, 1] rfl
                                                                                    have hD9 := hD.sub (ws' := [(h0, .inr (6, [.ref h1, .int 0, .int (if (0 : Int32) < (if (40 : Int32) < x0 then (40 : Int32) else x0) then (if (40 : Int32) < x0 then (40 : Int32) else x0) else (0 : Int32))])), (h1, .inl (cI, 40, .inl (fun _ => 0)))]) [0, 1] (by decide) rfl
                                                                                    subst hAe
                                                                                    exact W.vret hx hb hr (fun t ht hW => ⟨⟨(), rfl, trivial, by rw [ht]; exact hP9, hD9⟩, hS.F ht⟩) hS.2.2 dX6_become_40
                                                                                  · exact absurd c2100 (by decide)
set_option maxHeartbeats 4000000 in
set_option maxRecDepth 100000 in
theorem c_X6_become_3 (l : Launch) (D : va_G) (cI cS : ClassId) (sz : Nat) (h0 h1 : Nat) (x0 : Int32) : Met l yX6_become wsX6_become ({ frames := 1, cells := 0, slots := 0, locals := 40 }) (PQ D cI cS [(h0, .inr (6, [.ref h1, .int (-1), .int 0])), (h1, .inl (cI, 40, .inl (fun _ => 0)))] sz [.ref h0, .int 1, .int x0]) (QV D [(h0, .inr (6, [.ref h1, .int (-1), .int 0])), (h1, .inl (cI, 40, .inl (fun _ => 0)))] [(h0, .inr (6, [.ref h1, .int 1, .int (if (0 : Int32) < (if (40 : Int32) < x0 then (40 : Int32) else x0) then (if (40 : Int32) < x0 then (40 : Int32) else x0) else (0 : Int32))])), (h1, .inl (cI, 40, .inl (fun _ => 0)))] sz) 0 0 (va_A [(h0, .inr (6, [.ref h1, .int (-1), .int 0])), (h1, .inl (cI, 40, .inl (fun _ => 0)))] sz) := by
  refine Met.ofW (cc := cX6_become) (maxL := 4) (ret := none) (by decide) rfl ?_
  intro p e s m args below meth c s₁ B hml hv
  obtain ⟨rfl, hsz, hP, hKK, hD0⟩ := hv
  have hx := B.exec
  have hb := B.bytes
  have hr := B.returns
  have hts := atoms_spec (ws := wsX6_become) B.pre
  have hown : s.vm.findClass RX6 = some m.cls := findClass_of_methodNamed B.named
  have hlocks := B.notSynchronized
  have hK := hKK.1
  have hN := hKK.2
  have hin6 : ∀ w ∈ wsX60, w ∈ wsX6_become := by decide +kernel
  subst hsz
  have hD := hD0.self (sz := s.heap.size)
  obtain ⟨A, hAe⟩ : ∃ A, A = va_A [(h0, .inr (6, [.ref h1, .int (-1), .int 0])), (h1, .inl (cI, 40, .inl (fun _ => 0)))] s.heap.size := ⟨_, rfl⟩
  rw [← hAe] at hD
  have hA : ∀ q : Nat, s.heap.size ≤ q → A q := fun q h => by rw [hAe]; exact Or.inr h
  have hS : va_S A s.heap s.heap [] := va_S.rf
  have hl := lv_entry ([.ref h0, .int 1, .int x0]) (n := 4) (Nat.le_of_ble_eq_true rfl)
  rw [lg_entry_eq]
  generalize (lg_sl ([.ref h0, .int 1, .int x0]) ++ List.replicate (4 - (lg_sl ([.ref h0, .int 1, .int x0])).length) Slot.unset).toArray = ls at hl ⊢
  have hl : lv_has ls 4 [(0, .ref h0), (1, .int 1), (2, .int x0)] := hl
  refine lv_aload_n hx hb dX6_become_0 rfl (lv_at hl 0 rfl) ?_
  refine lv_iload_n hx hb dX6_become_1 rfl (lv_at hl 1 rfl) ?_
  refine va_put (D := D) (ci := 6) (v := .int 1) (ty := .int) (C := RX6) (T := TX6) (N := 3) hx hb hts hin6 tyX6 tyX6_ok nmX6 hown hK hP hD hS 0 rfl rfl 1 (by decide) (hts (.fieldLink RX6 15 "MissedPoints$Sheet" "sort" "I") (by decide +kernel)) (fun _ h9 => h9) rfl (by decide +kernel) rfl rfl (Nat.le_of_ble_eq_true rfl) dX6_become_2 (fun H locs hP hD hS => ?_)
  have hP : va_P D cls [(h0, .inr (6, [.ref h1, .int 1, .int 0])), (h1, .inl (cI, 40, .inl (fun _ => 0)))] H := hP
  have hD : va_D A [(h0, .inr (6, [.ref h1, .int 1, .int 0])), (h1, .inl (cI, 40, .inl (fun _ => 0)))] := hD
  refine lv_aload_n hx hb dX6_become_5 rfl (lv_at hl 0 rfl) ?_
  refine lv_iconst (v := 0) hx hb dX6_become_6 (by decide) ?_
  refine lv_iload_n hx hb dX6_become_7 rfl (lv_at hl 2 rfl) ?_
  refine lv_bipush (v := 40) hx hb dX6_become_8 (by decide) ?_
  refine va_mmin hx hb (by rw [hml]; exact hl.1.symm) hown (hts (.methodLink RX6 19 Lib.Math.min.name) (by decide +kernel)) (hts (.static Lib.Math.min.name) (by decide +kernel)) (hts (.initialized "java/lang/Math") (by decide +kernel)) (hts (.code Lib.Math.min.name Lib.Math.min.code 2 (some .int)) (by decide +kernel)) (Nat.le_of_ble_eq_true rfl) (Nat.le_of_ble_eq_true rfl) (Nat.le_of_ble_eq_true rfl) (Nat.le_of_ble_eq_true rfl) dX6_become_10 ?_
  refine va_mmax hx hb (by rw [hml]; exact hl.1.symm) hown (hts (.methodLink RX6 25 Lib.Math.max.name) (by decide +kernel)) (hts (.static Lib.Math.max.name) (by decide +kernel)) (hts (.initialized "java/lang/Math") (by decide +kernel)) (hts (.code Lib.Math.max.name Lib.Math.max.code 2 (some .int)) (by decide +kernel)) (Nat.le_of_ble_eq_true rfl) (Nat.le_of_ble_eq_true rfl) (Nat.le_of_ble_eq_true rfl) (Nat.le_of_ble_eq_true rfl) dX6_become_13 ?_
  refine va_put (D := D) (ci := 6) (v := .int (if (0 : Int32) < (if (40 : Int32) < x0 then (40 : Int32) else x0) then (if (40 : Int32) < x0 then (40 : Int32) else x0) else (0 : Int32))) (ty := .int) (C := RX6) (T := TX6) (N := 3) hx hb hts hin6 tyX6 tyX6_ok nmX6 hown hK hP hD hS 0 rfl rfl 2 (by decide) (hts (.fieldLink RX6 28 "MissedPoints$Sheet" "size" "I") (by decide +kernel)) (fun _ h9 => h9) rfl (by decide +kernel) rfl rfl (Nat.le_of_ble_eq_true rfl) dX6_become_16 (fun H locs hP hD hS => ?_)
  have hP : va_P D cls [(h0, .inr (6, [.ref h1, .int 1, .int (if (0 : Int32) < (if (40 : Int32) < x0 then (40 : Int32) else x0) then (if (40 : Int32) < x0 then (40 : Int32) else x0) else (0 : Int32))])), (h1, .inl (cI, 40, .inl (fun _ => 0)))] H := hP
  have hD : va_D A [(h0, .inr (6, [.ref h1, .int 1, .int (if (0 : Int32) < (if (40 : Int32) < x0 then (40 : Int32) else x0) then (if (40 : Int32) < x0 then (40 : Int32) else x0) else (0 : Int32))])), (h1, .inl (cI, 40, .inl (fun _ => 0)))] := hD
  refine lv_iconst (v := 0) hx hb dX6_become_19 (by decide) ?_
  refine lv_istore_n (lv' := [(3, .int 0), (0, .ref h0), (1, .int 1), (2, .int x0)]) hx hb dX6_become_20 rfl hl (by decide) rfl (fun ls hl => ?_)
  refine lv_iload_n hx hb dX6_become_21 rfl (lv_at hl 0 rfl) ?_
  refine lv_bipush (v := 40) hx hb dX6_become_22 (by decide) ?_
  refine lv_icmp_ge (tgt := 40) hx hb dX6_become_24 (by decide) (fun c2112 => ?_) (fun c2112 => ?_)
  · exact absurd c2112 (by decide)
  · refine lv_aload_n hx hb dX6_become_27 rfl (lv_at hl 1 rfl) ?_
    refine va_get (D := D) (ci := 6) (v := .ref h1) (C := RX6) (T := TX6) (N := 3) hx hb hts hin6 hown hK hP 0 rfl rfl 0 (by decide) (hts (.fieldLink RX6 9 "MissedPoints$Sheet" "numbers" "[I") (by decide +kernel)) (fun _ h9 => h9) rfl dX6_become_28 ?_
    refine lv_iload_n hx hb dX6_become_31 rfl (lv_at hl 0 rfl) ?_
    refine lv_iconst (v := 0) hx hb dX6_become_32 (by decide) ?_
    refine lz_astc hx hb hK hP hD hS 1 0 rfl rfl (lz_vp (x := 0) (n := 40) (by decide) (by decide)) dX6_become_33 (fun H locs hP hD hS => ?_)
    refine lv_iinc (v := 1) (lv' := [(3, .int 1), (0, .ref h0), (1, .int 1), (2, .int x0)]) hx hb dX6_become_34 hl (k := 0) rfl (by decide) (by decide) rfl (fun ls hl => ?_)
    refine lv_goto (tgt := 21) hx hb dX6_become_37 (by decide) ?_
    refine lv_iload_n hx hb dX6_become_21 rfl (lv_at hl 0 rfl) ?_
    refine lv_bipush (v := 40) hx hb dX6_become_22 (by decide) ?_
    refine lv_icmp_ge (tgt := 40) hx hb dX6_become_24 (by decide) (fun c2113 => ?_) (fun c2113 => ?_)
    · exact absurd c2113 (by decide)
    · refine lv_aload_n hx hb dX6_become_27 rfl (lv_at hl 1 rfl) ?_
      refine va_get (D := D) (ci := 6) (v := .ref h1) (C := RX6) (T := TX6) (N := 3) hx hb hts hin6 hown hK hP 0 rfl rfl 0 (by decide) (hts (.fieldLink RX6 9 "MissedPoints$Sheet" "numbers" "[I") (by decide +kernel)) (fun _ h9 => h9) rfl dX6_become_28 ?_
      refine lv_iload_n hx hb dX6_become_31 rfl (lv_at hl 0 rfl) ?_
      refine lv_iconst (v := 0) hx hb dX6_become_32 (by decide) ?_
      refine lz_astc hx hb hK hP hD hS 1 0 rfl rfl (lz_vp (x := 1) (n := 40) (by decide) (by decide)) dX6_become_33 (fun H locs hP hD hS => ?_)
      refine lv_iinc (v := 2) (lv' := [(3, .int 2), (0, .ref h0), (1, .int 1), (2, .int x0)]) hx hb dX6_become_34 hl (k := 0) rfl (by decide) (by decide) rfl (fun ls hl => ?_)
      refine lv_goto (tgt := 21) hx hb dX6_become_37 (by decide) ?_
      refine lv_iload_n hx hb dX6_become_21 rfl (lv_at hl 0 rfl) ?_
      refine lv_bipush (v := 40) hx hb dX6_become_22 (by decide) ?_
      refine lv_icmp_ge (tgt := 40) hx hb dX6_become_24 (by decide) (fun c2114 => ?_) (fun c2114 => ?_)
      · exact absurd c2114 (by decide)
      · refine lv_aload_n hx hb dX6_become_27 rfl (lv_at hl 1 rfl) ?_
        refine va_get (D := D) (ci := 6) (v := .ref h1) (C := RX6) (T := TX6) (N := 3) hx hb hts hin6 hown hK hP 0 rfl rfl 0 (by decide) (hts (.fieldLink RX6 9 "MissedPoints$Sheet" "numbers" "[I") (by decide +kernel)) (fun _ h9 => h9) rfl dX6_become_28 ?_
        refine lv_iload_n hx hb dX6_become_31 rfl (lv_at hl 0 rfl) ?_
        refine lv_iconst (v := 0) hx hb dX6_become_32 (by decide) ?_
        refine lz_astc hx hb hK hP hD hS 1 0 rfl rfl (lz_vp (x := 2) (n := 40) (by decide) (by decide)) dX6_become_33 (fun H locs hP hD hS => ?_)
        refine lv_iinc (v := 3) (lv' := [(3, .int 3), (0, .ref h0), (1, .int 1), (2, .int x0)]) hx hb dX6_become_34 hl (k := 0) rfl (by decide) (by decide) rfl (fun ls hl => ?_)
        refine lv_goto (tgt := 21) hx hb dX6_become_37 (by decide) ?_
        refine lv_iload_n hx hb dX6_become_21 rfl (lv_at hl 0 rfl) ?_
        refine lv_bipush (v := 40) hx hb dX6_become_22 (by decide) ?_
        refine lv_icmp_ge (tgt := 40) hx hb dX6_become_24 (by decide) (fun c2115 => ?_) (fun c2115 => ?_)
        · exact absurd c2115 (by decide)
        · refine lv_aload_n hx hb dX6_become_27 rfl (lv_at hl 1 rfl) ?_
          refine va_get (D := D) (ci := 6) (v := .ref h1) (C := RX6) (T := TX6) (N := 3) hx hb hts hin6 hown hK hP 0 rfl rfl 0 (by decide) (hts (.fieldLink RX6 9 "MissedPoints$Sheet" "numbers" "[I") (by decide +kernel)) (fun _ h9 => h9) rfl dX6_become_28 ?_
          refine lv_iload_n hx hb dX6_become_31 rfl (lv_at hl 0 rfl) ?_
          refine lv_iconst (v := 0) hx hb dX6_become_32 (by decide) ?_
          refine lz_astc hx hb hK hP hD hS 1 0 rfl rfl (lz_vp (x := 3) (n := 40) (by decide) (by decide)) dX6_become_33 (fun H locs hP hD hS => ?_)
          refine lv_iinc (v := 4) (lv' := [(3, .int 4), (0, .ref h0), (1, .int 1), (2, .int x0)]) hx hb dX6_become_34 hl (k := 0) rfl (by decide) (by decide) rfl (fun ls hl => ?_)
          refine lv_goto (tgt := 21) hx hb dX6_become_37 (by decide) ?_
          refine lv_iload_n hx hb dX6_become_21 rfl (lv_at hl 0 rfl) ?_
          refine lv_bipush (v := 40) hx hb dX6_become_22 (by decide) ?_
          refine lv_icmp_ge (tgt := 40) hx hb dX6_become_24 (by decide) (fun c2116 => ?_) (fun c2116 => ?_)
          · exact absurd c2116 (by decide)
          · refine lv_aload_n hx hb dX6_become_27 rfl (lv_at hl 1 rfl) ?_
            refine va_get (D := D) (ci := 6) (v := .ref h1) (C := RX6) (T := TX6) (N := 3) hx hb hts hin6 hown hK hP 0 rfl rfl 0 (by decide) (hts (.fieldLink RX6 9 "MissedPoints$Sheet" "numbers" "[I") (by decide +kernel)) (fun _ h9 => h9) rfl dX6_become_28 ?_
            refine lv_iload_n hx hb dX6_become_31 rfl (lv_at hl 0 rfl) ?_
            refine lv_iconst (v := 0) hx hb dX6_become_32 (by decide) ?_
            refine lz_astc hx hb hK hP hD hS 1 0 rfl rfl (lz_vp (x := 4) (n := 40) (by decide) (by decide)) dX6_become_33 (fun H locs hP hD hS => ?_)
            refine lv_iinc (v := 5) (lv' := [(3, .int 5), (0, .ref h0), (1, .int 1), (2, .int x0)]) hx hb dX6_become_34 hl (k := 0) rfl (by decide) (by decide) rfl (fun ls hl => ?_)
            refine lv_goto (tgt := 21) hx hb dX6_become_37 (by decide) ?_
            refine lv_iload_n hx hb dX6_become_21 rfl (lv_at hl 0 rfl) ?_
            refine lv_bipush (v := 40) hx hb dX6_become_22 (by decide) ?_
            refine lv_icmp_ge (tgt := 40) hx hb dX6_become_24 (by decide) (fun c2117 => ?_) (fun c2117 => ?_)
            · exact absurd c2117 (by decide)
            · refine lv_aload_n hx hb dX6_become_27 rfl (lv_at hl 1 rfl) ?_
              refine va_get (D := D) (ci := 6) (v := .ref h1) (C := RX6) (T := TX6) (N := 3) hx hb hts hin6 hown hK hP 0 rfl rfl 0 (by decide) (hts (.fieldLink RX6 9 "MissedPoints$Sheet" "numbers" "[I") (by decide +kernel)) (fun _ h9 => h9) rfl dX6_become_28 ?_
              refine lv_iload_n hx hb dX6_become_31 rfl (lv_at hl 0 rfl) ?_
              refine lv_iconst (v := 0) hx hb dX6_become_32 (by decide) ?_
              refine lz_astc hx hb hK hP hD hS 1 0 rfl rfl (lz_vp (x := 5) (n := 40) (by decide) (by decide)) dX6_become_33 (fun H locs hP hD hS => ?_)
              refine lv_iinc (v := 6) (lv' := [(3, .int 6), (0, .ref h0), (1, .int 1), (2, .int x0)]) hx hb dX6_become_34 hl (k := 0) rfl (by decide) (by decide) rfl (fun ls hl => ?_)
              refine lv_goto (tgt := 21) hx hb dX6_become_37 (by decide) ?_
              refine lv_iload_n hx hb dX6_become_21 rfl (lv_at hl 0 rfl) ?_
              refine lv_bipush (v := 40) hx hb dX6_become_22 (by decide) ?_
              refine lv_icmp_ge (tgt := 40) hx hb dX6_become_24 (by decide) (fun c2118 => ?_) (fun c2118 => ?_)
              · exact absurd c2118 (by decide)
              · refine lv_aload_n hx hb dX6_become_27 rfl (lv_at hl 1 rfl) ?_
                refine va_get (D := D) (ci := 6) (v := .ref h1) (C := RX6) (T := TX6) (N := 3) hx hb hts hin6 hown hK hP 0 rfl rfl 0 (by decide) (hts (.fieldLink RX6 9 "MissedPoints$Sheet" "numbers" "[I") (by decide +kernel)) (fun _ h9 => h9) rfl dX6_become_28 ?_
                refine lv_iload_n hx hb dX6_become_31 rfl (lv_at hl 0 rfl) ?_
                refine lv_iconst (v := 0) hx hb dX6_become_32 (by decide) ?_
                refine lz_astc hx hb hK hP hD hS 1 0 rfl rfl (lz_vp (x := 6) (n := 40) (by decide) (by decide)) dX6_become_33 (fun H locs hP hD hS => ?_)
                refine lv_iinc (v := 7) (lv' := [(3, .int 7), (0, .ref h0), (1, .int 1), (2, .int x0)]) hx hb dX6_become_34 hl (k := 0) rfl (by decide) (by decide) rfl (fun ls hl => ?_)
                refine lv_goto (tgt := 21) hx hb dX6_become_37 (by decide) ?_
                refine lv_iload_n hx hb dX6_become_21 rfl (lv_at hl 0 rfl) ?_
                refine lv_bipush (v := 40) hx hb dX6_become_22 (by decide) ?_
                refine lv_icmp_ge (tgt := 40) hx hb dX6_become_24 (by decide) (fun c2119 => ?_) (fun c2119 => ?_)
                · exact absurd c2119 (by decide)
                · refine lv_aload_n hx hb dX6_become_27 rfl (lv_at hl 1 rfl) ?_
                  refine va_get (D := D) (ci := 6) (v := .ref h1) (C := RX6) (T := TX6) (N := 3) hx hb hts hin6 hown hK hP 0 rfl rfl 0 (by decide) (hts (.fieldLink RX6 9 "MissedPoints$Sheet" "numbers" "[I") (by decide +kernel)) (fun _ h9 => h9) rfl dX6_become_28 ?_
                  refine lv_iload_n hx hb dX6_become_31 rfl (lv_at hl 0 rfl) ?_
                  refine lv_iconst (v := 0) hx hb dX6_become_32 (by decide) ?_
                  refine lz_astc hx hb hK hP hD hS 1 0 rfl rfl (lz_vp (x := 7) (n := 40) (by decide) (by decide)) dX6_become_33 (fun H locs hP hD hS => ?_)
                  refine lv_iinc (v := 8) (lv' := [(3, .int 8), (0, .ref h0), (1, .int 1), (2, .int x0)]) hx hb dX6_become_34 hl (k := 0) rfl (by decide) (by decide) rfl (fun ls hl => ?_)
                  refine lv_goto (tgt := 21) hx hb dX6_become_37 (by decide) ?_
                  refine lv_iload_n hx hb dX6_become_21 rfl (lv_at hl 0 rfl) ?_
                  refine lv_bipush (v := 40) hx hb dX6_become_22 (by decide) ?_
                  refine lv_icmp_ge (tgt := 40) hx hb dX6_become_24 (by decide) (fun c2120 => ?_) (fun c2120 => ?_)
                  · exact absurd c2120 (by decide)
                  · refine lv_aload_n hx hb dX6_become_27 rfl (lv_at hl 1 rfl) ?_
                    refine va_get (D := D) (ci := 6) (v := .ref h1) (C := RX6) (T := TX6) (N := 3) hx hb hts hin6 hown hK hP 0 rfl rfl 0 (by decide) (hts (.fieldLink RX6 9 "MissedPoints$Sheet" "numbers" "[I") (by decide +kernel)) (fun _ h9 => h9) rfl dX6_become_28 ?_
                    refine lv_iload_n hx hb dX6_become_31 rfl (lv_at hl 0 rfl) ?_
                    refine lv_iconst (v := 0) hx hb dX6_become_32 (by decide) ?_
                    refine lz_astc hx hb hK hP hD hS 1 0 rfl rfl (lz_vp (x := 8) (n := 40) (by decide) (by decide)) dX6_become_33 (fun H locs hP hD hS => ?_)
                    refine lv_iinc (v := 9) (lv' := [(3, .int 9), (0, .ref h0), (1, .int 1), (2, .int x0)]) hx hb dX6_become_34 hl (k := 0) rfl (by decide) (by decide) rfl (fun ls hl => ?_)
                    refine lv_goto (tgt := 21) hx hb dX6_become_37 (by decide) ?_
                    refine lv_iload_n hx hb dX6_become_21 rfl (lv_at hl 0 rfl) ?_
                    refine lv_bipush (v := 40) hx hb dX6_become_22 (by decide) ?_
                    refine lv_icmp_ge (tgt := 40) hx hb dX6_become_24 (by decide) (fun c2121 => ?_) (fun c2121 => ?_)
                    · exact absurd c2121 (by decide)
                    · refine lv_aload_n hx hb dX6_become_27 rfl (lv_at hl 1 rfl) ?_
                      refine va_get (D := D) (ci := 6) (v := .ref h1) (C := RX6) (T := TX6) (N := 3) hx hb hts hin6 hown hK hP 0 rfl rfl 0 (by decide) (hts (.fieldLink RX6 9 "MissedPoints$Sheet" "numbers" "[I") (by decide +kernel)) (fun _ h9 => h9) rfl dX6_become_28 ?_
                      refine lv_iload_n hx hb dX6_become_31 rfl (lv_at hl 0 rfl) ?_
                      refine lv_iconst (v := 0) hx hb dX6_become_32 (by decide) ?_
                      refine lz_astc hx hb hK hP hD hS 1 0 rfl rfl (lz_vp (x := 9) (n := 40) (by decide) (by decide)) dX6_become_33 (fun H locs hP hD hS => ?_)
                      refine lv_iinc (v := 10) (lv' := [(3, .int 10), (0, .ref h0), (1, .int 1), (2, .int x0)]) hx hb dX6_become_34 hl (k := 0) rfl (by decide) (by decide) rfl (fun ls hl => ?_)
                      refine lv_goto (tgt := 21) hx hb dX6_become_37 (by decide) ?_
                      refine lv_iload_n hx hb dX6_become_21 rfl (lv_at hl 0 rfl) ?_
                      refine lv_bipush (v := 40) hx hb dX6_become_22 (by decide) ?_
                      refine lv_icmp_ge (tgt := 40) hx hb dX6_become_24 (by decide) (fun c2122 => ?_) (fun c2122 => ?_)
                      · exact absurd c2122 (by decide)
                      · refine lv_aload_n hx hb dX6_become_27 rfl (lv_at hl 1 rfl) ?_
                        refine va_get (D := D) (ci := 6) (v := .ref h1) (C := RX6) (T := TX6) (N := 3) hx hb hts hin6 hown hK hP 0 rfl rfl 0 (by decide) (hts (.fieldLink RX6 9 "MissedPoints$Sheet" "numbers" "[I") (by decide +kernel)) (fun _ h9 => h9) rfl dX6_become_28 ?_
                        refine lv_iload_n hx hb dX6_become_31 rfl (lv_at hl 0 rfl) ?_
                        refine lv_iconst (v := 0) hx hb dX6_become_32 (by decide) ?_
                        refine lz_astc hx hb hK hP hD hS 1 0 rfl rfl (lz_vp (x := 10) (n := 40) (by decide) (by decide)) dX6_become_33 (fun H locs hP hD hS => ?_)
                        refine lv_iinc (v := 11) (lv' := [(3, .int 11), (0, .ref h0), (1, .int 1), (2, .int x0)]) hx hb dX6_become_34 hl (k := 0) rfl (by decide) (by decide) rfl (fun ls hl => ?_)
                        refine lv_goto (tgt := 21) hx hb dX6_become_37 (by decide) ?_
                        refine lv_iload_n hx hb dX6_become_21 rfl (lv_at hl 0 rfl) ?_
                        refine lv_bipush (v := 40) hx hb dX6_become_22 (by decide) ?_
                        refine lv_icmp_ge (tgt := 40) hx hb dX6_become_24 (by decide) (fun c2123 => ?_) (fun c2123 => ?_)
                        · exact absurd c2123 (by decide)
                        · refine lv_aload_n hx hb dX6_become_27 rfl (lv_at hl 1 rfl) ?_
                          refine va_get (D := D) (ci := 6) (v := .ref h1) (C := RX6) (T := TX6) (N := 3) hx hb hts hin6 hown hK hP 0 rfl rfl 0 (by decide) (hts (.fieldLink RX6 9 "MissedPoints$Sheet" "numbers" "[I") (by decide +kernel)) (fun _ h9 => h9) rfl dX6_become_28 ?_
                          refine lv_iload_n hx hb dX6_become_31 rfl (lv_at hl 0 rfl) ?_
                          refine lv_iconst (v := 0) hx hb dX6_become_32 (by decide) ?_
                          refine lz_astc hx hb hK hP hD hS 1 0 rfl rfl (lz_vp (x := 11) (n := 40) (by decide) (by decide)) dX6_become_33 (fun H locs hP hD hS => ?_)
                          refine lv_iinc (v := 12) (lv' := [(3, .int 12), (0, .ref h0), (1, .int 1), (2, .int x0)]) hx hb dX6_become_34 hl (k := 0) rfl (by decide) (by decide) rfl (fun ls hl => ?_)
                          refine lv_goto (tgt := 21) hx hb dX6_become_37 (by decide) ?_
                          refine lv_iload_n hx hb dX6_become_21 rfl (lv_at hl 0 rfl) ?_
                          refine lv_bipush (v := 40) hx hb dX6_become_22 (by decide) ?_
                          refine lv_icmp_ge (tgt := 40) hx hb dX6_become_24 (by decide) (fun c2124 => ?_) (fun c2124 => ?_)
                          · exact absurd c2124 (by decide)
                          · refine lv_aload_n hx hb dX6_become_27 rfl (lv_at hl 1 rfl) ?_
                            refine va_get (D := D) (ci := 6) (v := .ref h1) (C := RX6) (T := TX6) (N := 3) hx hb hts hin6 hown hK hP 0 rfl rfl 0 (by decide) (hts (.fieldLink RX6 9 "MissedPoints$Sheet" "numbers" "[I") (by decide +kernel)) (fun _ h9 => h9) rfl dX6_become_28 ?_
                            refine lv_iload_n hx hb dX6_become_31 rfl (lv_at hl 0 rfl) ?_
                            refine lv_iconst (v := 0) hx hb dX6_become_32 (by decide) ?_
                            refine lz_astc hx hb hK hP hD hS 1 0 rfl rfl (lz_vp (x := 12) (n := 40) (by decide) (by decide)) dX6_become_33 (fun H locs hP hD hS => ?_)
                            refine lv_iinc (v := 13) (lv' := [(3, .int 13), (0, .ref h0), (1, .int 1), (2, .int x0)]) hx hb dX6_become_34 hl (k := 0) rfl (by decide) (by decide) rfl (fun ls hl => ?_)
                            refine lv_goto (tgt := 21) hx hb dX6_become_37 (by decide) ?_
                            refine lv_iload_n hx hb dX6_become_21 rfl (lv_at hl 0 rfl) ?_
                            refine lv_bipush (v := 40) hx hb dX6_become_22 (by decide) ?_
                            refine lv_icmp_ge (tgt := 40) hx hb dX6_become_24 (by decide) (fun c2125 => ?_) (fun c2125 => ?_)
                            · exact absurd c2125 (by decide)
                            · refine lv_aload_n hx hb dX6_become_27 rfl (lv_at hl 1 rfl) ?_
                              refine va_get (D := D) (ci := 6) (v := .ref h1) (C := RX6) (T := TX6) (N := 3) hx hb hts hin6 hown hK hP 0 rfl rfl 0 (by decide) (hts (.fieldLink RX6 9 "MissedPoints$Sheet" "numbers" "[I") (by decide +kernel)) (fun _ h9 => h9) rfl dX6_become_28 ?_
                              refine lv_iload_n hx hb dX6_become_31 rfl (lv_at hl 0 rfl) ?_
                              refine lv_iconst (v := 0) hx hb dX6_become_32 (by decide) ?_
                              refine lz_astc hx hb hK hP hD hS 1 0 rfl rfl (lz_vp (x := 13) (n := 40) (by decide) (by decide)) dX6_become_33 (fun H locs hP hD hS => ?_)
                              refine lv_iinc (v := 14) (lv' := [(3, .int 14), (0, .ref h0), (1, .int 1), (2, .int x0)]) hx hb dX6_become_34 hl (k := 0) rfl (by decide) (by decide) rfl (fun ls hl => ?_)
                              refine lv_goto (tgt := 21) hx hb dX6_become_37 (by decide) ?_
                              refine lv_iload_n hx hb dX6_become_21 rfl (lv_at hl 0 rfl) ?_
                              refine lv_bipush (v := 40) hx hb dX6_become_22 (by decide) ?_
                              refine lv_icmp_ge (tgt := 40) hx hb dX6_become_24 (by decide) (fun c2126 => ?_) (fun c2126 => ?_)
                              · exact absurd c2126 (by decide)
                              · refine lv_aload_n hx hb dX6_become_27 rfl (lv_at hl 1 rfl) ?_
                                refine va_get (D := D) (ci := 6) (v := .ref h1) (C := RX6) (T := TX6) (N := 3) hx hb hts hin6 hown hK hP 0 rfl rfl 0 (by decide) (hts (.fieldLink RX6 9 "MissedPoints$Sheet" "numbers" "[I") (by decide +kernel)) (fun _ h9 => h9) rfl dX6_become_28 ?_
                                refine lv_iload_n hx hb dX6_become_31 rfl (lv_at hl 0 rfl) ?_
                                refine lv_iconst (v := 0) hx hb dX6_become_32 (by decide) ?_
                                refine lz_astc hx hb hK hP hD hS 1 0 rfl rfl (lz_vp (x := 14) (n := 40) (by decide) (by decide)) dX6_become_33 (fun H locs hP hD hS => ?_)
                                refine lv_iinc (v := 15) (lv' := [(3, .int 15), (0, .ref h0), (1, .int 1), (2, .int x0)]) hx hb dX6_become_34 hl (k := 0) rfl (by decide) (by decide) rfl (fun ls hl => ?_)
                                refine lv_goto (tgt := 21) hx hb dX6_become_37 (by decide) ?_
                                refine lv_iload_n hx hb dX6_become_21 rfl (lv_at hl 0 rfl) ?_
                                refine lv_bipush (v := 40) hx hb dX6_become_22 (by decide) ?_
                                refine lv_icmp_ge (tgt := 40) hx hb dX6_become_24 (by decide) (fun c2127 => ?_) (fun c2127 => ?_)
                                · exact absurd c2127 (by decide)
                                · refine lv_aload_n hx hb dX6_become_27 rfl (lv_at hl 1 rfl) ?_
                                  refine va_get (D := D) (ci := 6) (v := .ref h1) (C := RX6) (T := TX6) (N := 3) hx hb hts hin6 hown hK hP 0 rfl rfl 0 (by decide) (hts (.fieldLink RX6 9 "MissedPoints$Sheet" "numbers" "[I") (by decide +kernel)) (fun _ h9 => h9) rfl dX6_become_28 ?_
                                  refine lv_iload_n hx hb dX6_become_31 rfl (lv_at hl 0 rfl) ?_
                                  refine lv_iconst (v := 0) hx hb dX6_become_32 (by decide) ?_
                                  refine lz_astc hx hb hK hP hD hS 1 0 rfl rfl (lz_vp (x := 15) (n := 40) (by decide) (by decide)) dX6_become_33 (fun H locs hP hD hS => ?_)
                                  refine lv_iinc (v := 16) (lv' := [(3, .int 16), (0, .ref h0), (1, .int 1), (2, .int x0)]) hx hb dX6_become_34 hl (k := 0) rfl (by decide) (by decide) rfl (fun ls hl => ?_)
                                  refine lv_goto (tgt := 21) hx hb dX6_become_37 (by decide) ?_
                                  refine lv_iload_n hx hb dX6_become_21 rfl (lv_at hl 0 rfl) ?_
                                  refine lv_bipush (v := 40) hx hb dX6_become_22 (by decide) ?_
                                  refine lv_icmp_ge (tgt := 40) hx hb dX6_become_24 (by decide) (fun c2128 => ?_) (fun c2128 => ?_)
                                  · exact absurd c2128 (by decide)
                                  · refine lv_aload_n hx hb dX6_become_27 rfl (lv_at hl 1 rfl) ?_
                                    refine va_get (D := D) (ci := 6) (v := .ref h1) (C := RX6) (T := TX6) (N := 3) hx hb hts hin6 hown hK hP 0 rfl rfl 0 (by decide) (hts (.fieldLink RX6 9 "MissedPoints$Sheet" "numbers" "[I") (by decide +kernel)) (fun _ h9 => h9) rfl dX6_become_28 ?_
                                    refine lv_iload_n hx hb dX6_become_31 rfl (lv_at hl 0 rfl) ?_
                                    refine lv_iconst (v := 0) hx hb dX6_become_32 (by decide) ?_
                                    refine lz_astc hx hb hK hP hD hS 1 0 rfl rfl (lz_vp (x := 16) (n := 40) (by decide) (by decide)) dX6_become_33 (fun H locs hP hD hS => ?_)
                                    refine lv_iinc (v := 17) (lv' := [(3, .int 17), (0, .ref h0), (1, .int 1), (2, .int x0)]) hx hb dX6_become_34 hl (k := 0) rfl (by decide) (by decide) rfl (fun ls hl => ?_)
                                    refine lv_goto (tgt := 21) hx hb dX6_become_37 (by decide) ?_
                                    refine lv_iload_n hx hb dX6_become_21 rfl (lv_at hl 0 rfl) ?_
                                    refine lv_bipush (v := 40) hx hb dX6_become_22 (by decide) ?_
                                    refine lv_icmp_ge (tgt := 40) hx hb dX6_become_24 (by decide) (fun c2129 => ?_) (fun c2129 => ?_)
                                    · exact absurd c2129 (by decide)
                                    · refine lv_aload_n hx hb dX6_become_27 rfl (lv_at hl 1 rfl) ?_
                                      refine va_get (D := D) (ci := 6) (v := .ref h1) (C := RX6) (T := TX6) (N := 3) hx hb hts hin6 hown hK hP 0 rfl rfl 0 (by decide) (hts (.fieldLink RX6 9 "MissedPoints$Sheet" "numbers" "[I") (by decide +kernel)) (fun _ h9 => h9) rfl dX6_become_28 ?_
                                      refine lv_iload_n hx hb dX6_become_31 rfl (lv_at hl 0 rfl) ?_
                                      refine lv_iconst (v := 0) hx hb dX6_become_32 (by decide) ?_
                                      refine lz_astc hx hb hK hP hD hS 1 0 rfl rfl (lz_vp (x := 17) (n := 40) (by decide) (by decide)) dX6_become_33 (fun H locs hP hD hS => ?_)
                                      refine lv_iinc (v := 18) (lv' := [(3, .int 18), (0, .ref h0), (1, .int 1), (2, .int x0)]) hx hb dX6_become_34 hl (k := 0) rfl (by decide) (by decide) rfl (fun ls hl => ?_)
                                      refine lv_goto (tgt := 21) hx hb dX6_become_37 (by decide) ?_
                                      refine lv_iload_n hx hb dX6_become_21 rfl (lv_at hl 0 rfl) ?_
                                      refine lv_bipush (v := 40) hx hb dX6_become_22 (by decide) ?_
                                      refine lv_icmp_ge (tgt := 40) hx hb dX6_become_24 (by decide) (fun c2130 => ?_) (fun c2130 => ?_)
                                      · exact absurd c2130 (by decide)
                                      · refine lv_aload_n hx hb dX6_become_27 rfl (lv_at hl 1 rfl) ?_
                                        refine va_get (D := D) (ci := 6) (v := .ref h1) (C := RX6) (T := TX6) (N := 3) hx hb hts hin6 hown hK hP 0 rfl rfl 0 (by decide) (hts (.fieldLink RX6 9 "MissedPoints$Sheet" "numbers" "[I") (by decide +kernel)) (fun _ h9 => h9) rfl dX6_become_28 ?_
                                        refine lv_iload_n hx hb dX6_become_31 rfl (lv_at hl 0 rfl) ?_
                                        refine lv_iconst (v := 0) hx hb dX6_become_32 (by decide) ?_
                                        refine lz_astc hx hb hK hP hD hS 1 0 rfl rfl (lz_vp (x := 18) (n := 40) (by decide) (by decide)) dX6_become_33 (fun H locs hP hD hS => ?_)
                                        refine lv_iinc (v := 19) (lv' := [(3, .int 19), (0, .ref h0), (1, .int 1), (2, .int x0)]) hx hb dX6_become_34 hl (k := 0) rfl (by decide) (by decide) rfl (fun ls hl => ?_)
                                        refine lv_goto (tgt := 21) hx hb dX6_become_37 (by decide) ?_
                                        refine lv_iload_n hx hb dX6_become_21 rfl (lv_at hl 0 rfl) ?_
                                        refine lv_bipush (v := 40) hx hb dX6_become_22 (by decide) ?_
                                        refine lv_icmp_ge (tgt := 40) hx hb dX6_become_24 (by decide) (fun c2131 => ?_) (fun c2131 => ?_)
                                        · exact absurd c2131 (by decide)
                                        · refine lv_aload_n hx hb dX6_become_27 rfl (lv_at hl 1 rfl) ?_
                                          refine va_get (D := D) (ci := 6) (v := .ref h1) (C := RX6) (T := TX6) (N := 3) hx hb hts hin6 hown hK hP 0 rfl rfl 0 (by decide) (hts (.fieldLink RX6 9 "MissedPoints$Sheet" "numbers" "[I") (by decide +kernel)) (fun _ h9 => h9) rfl dX6_become_28 ?_
                                          refine lv_iload_n hx hb dX6_become_31 rfl (lv_at hl 0 rfl) ?_
                                          refine lv_iconst (v := 0) hx hb dX6_become_32 (by decide) ?_
                                          refine lz_astc hx hb hK hP hD hS 1 0 rfl rfl (lz_vp (x := 19) (n := 40) (by decide) (by decide)) dX6_become_33 (fun H locs hP hD hS => ?_)
                                          refine lv_iinc (v := 20) (lv' := [(3, .int 20), (0, .ref h0), (1, .int 1), (2, .int x0)]) hx hb dX6_become_34 hl (k := 0) rfl (by decide) (by decide) rfl (fun ls hl => ?_)
                                          refine lv_goto (tgt := 21) hx hb dX6_become_37 (by decide) ?_
                                          refine lv_iload_n hx hb dX6_become_21 rfl (lv_at hl 0 rfl) ?_
                                          refine lv_bipush (v := 40) hx hb dX6_become_22 (by decide) ?_
                                          refine lv_icmp_ge (tgt := 40) hx hb dX6_become_24 (by decide) (fun c2132 => ?_) (fun c2132 => ?_)
                                          · exact absurd c2132 (by decide)
                                          · refine lv_aload_n hx hb dX6_become_27 rfl (lv_at hl 1 rfl) ?_
                                            refine va_get (D := D) (ci := 6) (v := .ref h1) (C := RX6) (T := TX6) (N := 3) hx hb hts hin6 hown hK hP 0 rfl rfl 0 (by decide) (hts (.fieldLink RX6 9 "MissedPoints$Sheet" "numbers" "[I") (by decide +kernel)) (fun _ h9 => h9) rfl dX6_become_28 ?_
                                            refine lv_iload_n hx hb dX6_become_31 rfl (lv_at hl 0 rfl) ?_
                                            refine lv_iconst (v := 0) hx hb dX6_become_32 (by decide) ?_
                                            refine lz_astc hx hb hK hP hD hS 1 0 rfl rfl (lz_vp (x := 20) (n := 40) (by decide) (by decide)) dX6_become_33 (fun H locs hP hD hS => ?_)
                                            refine lv_iinc (v := 21) (lv' := [(3, .int 21), (0, .ref h0), (1, .int 1), (2, .int x0)]) hx hb dX6_become_34 hl (k := 0) rfl (by decide) (by decide) rfl (fun ls hl => ?_)
                                            refine lv_goto (tgt := 21) hx hb dX6_become_37 (by decide) ?_
                                            refine lv_iload_n hx hb dX6_become_21 rfl (lv_at hl 0 rfl) ?_
                                            refine lv_bipush (v := 40) hx hb dX6_become_22 (by decide) ?_
                                            refine lv_icmp_ge (tgt := 40) hx hb dX6_become_24 (by decide) (fun c2133 => ?_) (fun c2133 => ?_)
                                            · exact absurd c2133 (by decide)
                                            · refine lv_aload_n hx hb dX6_become_27 rfl (lv_at hl 1 rfl) ?_
                                              refine va_get (D := D) (ci := 6) (v := .ref h1) (C := RX6) (T := TX6) (N := 3) hx hb hts hin6 hown hK hP 0 rfl rfl 0 (by decide) (hts (.fieldLink RX6 9 "MissedPoints$Sheet" "numbers" "[I") (by decide +kernel)) (fun _ h9 => h9) rfl dX6_become_28 ?_
                                              refine lv_iload_n hx hb dX6_become_31 rfl (lv_at hl 0 rfl) ?_
                                              refine lv_iconst (v := 0) hx hb dX6_become_32 (by decide) ?_
                                              refine lz_astc hx hb hK hP hD hS 1 0 rfl rfl (lz_vp (x := 21) (n := 40) (by decide) (by decide)) dX6_become_33 (fun H locs hP hD hS => ?_)
                                              refine lv_iinc (v := 22) (lv' := [(3, .int 22), (0, .ref h0), (1, .int 1), (2, .int x0)]) hx hb dX6_become_34 hl (k := 0) rfl (by decide) (by decide) rfl (fun ls hl => ?_)
                                              refine lv_goto (tgt := 21) hx hb dX6_become_37 (by decide) ?_
                                              refine lv_iload_n hx hb dX6_become_21 rfl (lv_at hl 0 rfl) ?_
                                              refine lv_bipush (v := 40) hx hb dX6_become_22 (by decide) ?_
                                              refine lv_icmp_ge (tgt := 40) hx hb dX6_become_24 (by decide) (fun c2134 => ?_) (fun c2134 => ?_)
                                              · exact absurd c2134 (by decide)
                                              · refine lv_aload_n hx hb dX6_become_27 rfl (lv_at hl 1 rfl) ?_
                                                refine va_get (D := D) (ci := 6) (v := .ref h1) (C := RX6) (T := TX6) (N := 3) hx hb hts hin6 hown hK hP 0 rfl rfl 0 (by decide) (hts (.fieldLink RX6 9 "MissedPoints$Sheet" "numbers" "[I") (by decide +kernel)) (fun _ h9 => h9) rfl dX6_become_28 ?_
                                                refine lv_iload_n hx hb dX6_become_31 rfl (lv_at hl 0 rfl) ?_
                                                refine lv_iconst (v := 0) hx hb dX6_become_32 (by decide) ?_
                                                refine lz_astc hx hb hK hP hD hS 1 0 rfl rfl (lz_vp (x := 22) (n := 40) (by decide) (by decide)) dX6_become_33 (fun H locs hP hD hS => ?_)
                                                refine lv_iinc (v := 23) (lv' := [(3, .int 23), (0, .ref h0), (1, .int 1), (2, .int x0)]) hx hb dX6_become_34 hl (k := 0) rfl (by decide) (by decide) rfl (fun ls hl => ?_)
                                                refine lv_goto (tgt := 21) hx hb dX6_become_37 (by decide) ?_
                                                refine lv_iload_n hx hb dX6_become_21 rfl (lv_at hl 0 rfl) ?_
                                                refine lv_bipush (v := 40) hx hb dX6_become_22 (by decide) ?_
                                                refine lv_icmp_ge (tgt := 40) hx hb dX6_become_24 (by decide) (fun c2135 => ?_) (fun c2135 => ?_)
                                                · exact absurd c2135 (by decide)
                                                · refine lv_aload_n hx hb dX6_become_27 rfl (lv_at hl 1 rfl) ?_
                                                  refine va_get (D := D) (ci := 6) (v := .ref h1) (C := RX6) (T := TX6) (N := 3) hx hb hts hin6 hown hK hP 0 rfl rfl 0 (by decide) (hts (.fieldLink RX6 9 "MissedPoints$Sheet" "numbers" "[I") (by decide +kernel)) (fun _ h9 => h9) rfl dX6_become_28 ?_
                                                  refine lv_iload_n hx hb dX6_become_31 rfl (lv_at hl 0 rfl) ?_
                                                  refine lv_iconst (v := 0) hx hb dX6_become_32 (by decide) ?_
                                                  refine lz_astc hx hb hK hP hD hS 1 0 rfl rfl (lz_vp (x := 23) (n := 40) (by decide) (by decide)) dX6_become_33 (fun H locs hP hD hS => ?_)
                                                  refine lv_iinc (v := 24) (lv' := [(3, .int 24), (0, .ref h0), (1, .int 1), (2, .int x0)]) hx hb dX6_become_34 hl (k := 0) rfl (by decide) (by decide) rfl (fun ls hl => ?_)
                                                  refine lv_goto (tgt := 21) hx hb dX6_become_37 (by decide) ?_
                                                  refine lv_iload_n hx hb dX6_become_21 rfl (lv_at hl 0 rfl) ?_
                                                  refine lv_bipush (v := 40) hx hb dX6_become_22 (by decide) ?_
                                                  refine lv_icmp_ge (tgt := 40) hx hb dX6_become_24 (by decide) (fun c2136 => ?_) (fun c2136 => ?_)
                                                  · exact absurd c2136 (by decide)
                                                  · refine lv_aload_n hx hb dX6_become_27 rfl (lv_at hl 1 rfl) ?_
                                                    refine va_get (D := D) (ci := 6) (v := .ref h1) (C := RX6) (T := TX6) (N := 3) hx hb hts hin6 hown hK hP 0 rfl rfl 0 (by decide) (hts (.fieldLink RX6 9 "MissedPoints$Sheet" "numbers" "[I") (by decide +kernel)) (fun _ h9 => h9) rfl dX6_become_28 ?_
                                                    refine lv_iload_n hx hb dX6_become_31 rfl (lv_at hl 0 rfl) ?_
                                                    refine lv_iconst (v := 0) hx hb dX6_become_32 (by decide) ?_
                                                    refine lz_astc hx hb hK hP hD hS 1 0 rfl rfl (lz_vp (x := 24) (n := 40) (by decide) (by decide)) dX6_become_33 (fun H locs hP hD hS => ?_)
                                                    refine lv_iinc (v := 25) (lv' := [(3, .int 25), (0, .ref h0), (1, .int 1), (2, .int x0)]) hx hb dX6_become_34 hl (k := 0) rfl (by decide) (by decide) rfl (fun ls hl => ?_)
                                                    refine lv_goto (tgt := 21) hx hb dX6_become_37 (by decide) ?_
                                                    refine lv_iload_n hx hb dX6_become_21 rfl (lv_at hl 0 rfl) ?_
                                                    refine lv_bipush (v := 40) hx hb dX6_become_22 (by decide) ?_
                                                    refine lv_icmp_ge (tgt := 40) hx hb dX6_become_24 (by decide) (fun c2137 => ?_) (fun c2137 => ?_)
                                                    · exact absurd c2137 (by decide)
                                                    · refine lv_aload_n hx hb dX6_become_27 rfl (lv_at hl 1 rfl) ?_
                                                      refine va_get (D := D) (ci := 6) (v := .ref h1) (C := RX6) (T := TX6) (N := 3) hx hb hts hin6 hown hK hP 0 rfl rfl 0 (by decide) (hts (.fieldLink RX6 9 "MissedPoints$Sheet" "numbers" "[I") (by decide +kernel)) (fun _ h9 => h9) rfl dX6_become_28 ?_
                                                      refine lv_iload_n hx hb dX6_become_31 rfl (lv_at hl 0 rfl) ?_
                                                      refine lv_iconst (v := 0) hx hb dX6_become_32 (by decide) ?_
                                                      refine lz_astc hx hb hK hP hD hS 1 0 rfl rfl (lz_vp (x := 25) (n := 40) (by decide) (by decide)) dX6_become_33 (fun H locs hP hD hS => ?_)
                                                      refine lv_iinc (v := 26) (lv' := [(3, .int 26), (0, .ref h0), (1, .int 1), (2, .int x0)]) hx hb dX6_become_34 hl (k := 0) rfl (by decide) (by decide) rfl (fun ls hl => ?_)
                                                      refine lv_goto (tgt := 21) hx hb dX6_become_37 (by decide) ?_
                                                      refine lv_iload_n hx hb dX6_become_21 rfl (lv_at hl 0 rfl) ?_
                                                      refine lv_bipush (v := 40) hx hb dX6_become_22 (by decide) ?_
                                                      refine lv_icmp_ge (tgt := 40) hx hb dX6_become_24 (by decide) (fun c2138 => ?_) (fun c2138 => ?_)
                                                      · exact absurd c2138 (by decide)
                                                      · refine lv_aload_n hx hb dX6_become_27 rfl (lv_at hl 1 rfl) ?_
                                                        refine va_get (D := D) (ci := 6) (v := .ref h1) (C := RX6) (T := TX6) (N := 3) hx hb hts hin6 hown hK hP 0 rfl rfl 0 (by decide) (hts (.fieldLink RX6 9 "MissedPoints$Sheet" "numbers" "[I") (by decide +kernel)) (fun _ h9 => h9) rfl dX6_become_28 ?_
                                                        refine lv_iload_n hx hb dX6_become_31 rfl (lv_at hl 0 rfl) ?_
                                                        refine lv_iconst (v := 0) hx hb dX6_become_32 (by decide) ?_
                                                        refine lz_astc hx hb hK hP hD hS 1 0 rfl rfl (lz_vp (x := 26) (n := 40) (by decide) (by decide)) dX6_become_33 (fun H locs hP hD hS => ?_)
                                                        refine lv_iinc (v := 27) (lv' := [(3, .int 27), (0, .ref h0), (1, .int 1), (2, .int x0)]) hx hb dX6_become_34 hl (k := 0) rfl (by decide) (by decide) rfl (fun ls hl => ?_)
                                                        refine lv_goto (tgt := 21) hx hb dX6_become_37 (by decide) ?_
                                                        refine lv_iload_n hx hb dX6_become_21 rfl (lv_at hl 0 rfl) ?_
                                                        refine lv_bipush (v := 40) hx hb dX6_become_22 (by decide) ?_
                                                        refine lv_icmp_ge (tgt := 40) hx hb dX6_become_24 (by decide) (fun c2139 => ?_) (fun c2139 => ?_)
                                                        · exact absurd c2139 (by decide)
                                                        · refine lv_aload_n hx hb dX6_become_27 rfl (lv_at hl 1 rfl) ?_
                                                          refine va_get (D := D) (ci := 6) (v := .ref h1) (C := RX6) (T := TX6) (N := 3) hx hb hts hin6 hown hK hP 0 rfl rfl 0 (by decide) (hts (.fieldLink RX6 9 "MissedPoints$Sheet" "numbers" "[I") (by decide +kernel)) (fun _ h9 => h9) rfl dX6_become_28 ?_
                                                          refine lv_iload_n hx hb dX6_become_31 rfl (lv_at hl 0 rfl) ?_
                                                          refine lv_iconst (v := 0) hx hb dX6_become_32 (by decide) ?_
                                                          refine lz_astc hx hb hK hP hD hS 1 0 rfl rfl (lz_vp (x := 27) (n := 40) (by decide) (by decide)) dX6_become_33 (fun H locs hP hD hS => ?_)
                                                          refine lv_iinc (v := 28) (lv' := [(3, .int 28), (0, .ref h0), (1, .int 1), (2, .int x0)]) hx hb dX6_become_34 hl (k := 0) rfl (by decide) (by decide) rfl (fun ls hl => ?_)
                                                          refine lv_goto (tgt := 21) hx hb dX6_become_37 (by decide) ?_
                                                          refine lv_iload_n hx hb dX6_become_21 rfl (lv_at hl 0 rfl) ?_
                                                          refine lv_bipush (v := 40) hx hb dX6_become_22 (by decide) ?_
                                                          refine lv_icmp_ge (tgt := 40) hx hb dX6_become_24 (by decide) (fun c2140 => ?_) (fun c2140 => ?_)
                                                          · exact absurd c2140 (by decide)
                                                          · refine lv_aload_n hx hb dX6_become_27 rfl (lv_at hl 1 rfl) ?_
                                                            refine va_get (D := D) (ci := 6) (v := .ref h1) (C := RX6) (T := TX6) (N := 3) hx hb hts hin6 hown hK hP 0 rfl rfl 0 (by decide) (hts (.fieldLink RX6 9 "MissedPoints$Sheet" "numbers" "[I") (by decide +kernel)) (fun _ h9 => h9) rfl dX6_become_28 ?_
                                                            refine lv_iload_n hx hb dX6_become_31 rfl (lv_at hl 0 rfl) ?_
                                                            refine lv_iconst (v := 0) hx hb dX6_become_32 (by decide) ?_
                                                            refine lz_astc hx hb hK hP hD hS 1 0 rfl rfl (lz_vp (x := 28) (n := 40) (by decide) (by decide)) dX6_become_33 (fun H locs hP hD hS => ?_)
                                                            refine lv_iinc (v := 29) (lv' := [(3, .int 29), (0, .ref h0), (1, .int 1), (2, .int x0)]) hx hb dX6_become_34 hl (k := 0) rfl (by decide) (by decide) rfl (fun ls hl => ?_)
                                                            refine lv_goto (tgt := 21) hx hb dX6_become_37 (by decide) ?_
                                                            refine lv_iload_n hx hb dX6_become_21 rfl (lv_at hl 0 rfl) ?_
                                                            refine lv_bipush (v := 40) hx hb dX6_become_22 (by decide) ?_
                                                            refine lv_icmp_ge (tgt := 40) hx hb dX6_become_24 (by decide) (fun c2141 => ?_) (fun c2141 => ?_)
                                                            · exact absurd c2141 (by decide)
                                                            · refine lv_aload_n hx hb dX6_become_27 rfl (lv_at hl 1 rfl) ?_
                                                              refine va_get (D := D) (ci := 6) (v := .ref h1) (C := RX6) (T := TX6) (N := 3) hx hb hts hin6 hown hK hP 0 rfl rfl 0 (by decide) (hts (.fieldLink RX6 9 "MissedPoints$Sheet" "numbers" "[I") (by decide +kernel)) (fun _ h9 => h9) rfl dX6_become_28 ?_
                                                              refine lv_iload_n hx hb dX6_become_31 rfl (lv_at hl 0 rfl) ?_
                                                              refine lv_iconst (v := 0) hx hb dX6_become_32 (by decide) ?_
                                                              refine lz_astc hx hb hK hP hD hS 1 0 rfl rfl (lz_vp (x := 29) (n := 40) (by decide) (by decide)) dX6_become_33 (fun H locs hP hD hS => ?_)
                                                              refine lv_iinc (v := 30) (lv' := [(3, .int 30), (0, .ref h0), (1, .int 1), (2, .int x0)]) hx hb dX6_become_34 hl (k := 0) rfl (by decide) (by decide) rfl (fun ls hl => ?_)
                                                              refine lv_goto (tgt := 21) hx hb dX6_become_37 (by decide) ?_
                                                              refine lv_iload_n hx hb dX6_become_21 rfl (lv_at hl 0 rfl) ?_
                                                              refine lv_bipush (v := 40) hx hb dX6_become_22 (by decide) ?_
                                                              refine lv_icmp_ge (tgt := 40) hx hb dX6_become_24 (by decide) (fun c2142 => ?_) (fun c2142 => ?_)
                                                              · exact absurd c2142 (by decide)
                                                              · refine lv_aload_n hx hb dX6_become_27 rfl (lv_at hl 1 rfl) ?_
                                                                refine va_get (D := D) (ci := 6) (v := .ref h1) (C := RX6) (T := TX6) (N := 3) hx hb hts hin6 hown hK hP 0 rfl rfl 0 (by decide) (hts (.fieldLink RX6 9 "MissedPoints$Sheet" "numbers" "[I") (by decide +kernel)) (fun _ h9 => h9) rfl dX6_become_28 ?_
                                                                refine lv_iload_n hx hb dX6_become_31 rfl (lv_at hl 0 rfl) ?_
                                                                refine lv_iconst (v := 0) hx hb dX6_become_32 (by decide) ?_
                                                                refine lz_astc hx hb hK hP hD hS 1 0 rfl rfl (lz_vp (x := 30) (n := 40) (by decide) (by decide)) dX6_become_33 (fun H locs hP hD hS => ?_)
                                                                refine lv_iinc (v := 31) (lv' := [(3, .int 31), (0, .ref h0), (1, .int 1), (2, .int x0)]) hx hb dX6_become_34 hl (k := 0) rfl (by decide) (by decide) rfl (fun ls hl => ?_)
                                                                refine lv_goto (tgt := 21) hx hb dX6_become_37 (by decide) ?_
                                                                refine lv_iload_n hx hb dX6_become_21 rfl (lv_at hl 0 rfl) ?_
                                                                refine lv_bipush (v := 40) hx hb dX6_become_22 (by decide) ?_
                                                                refine lv_icmp_ge (tgt := 40) hx hb dX6_become_24 (by decide) (fun c2143 => ?_) (fun c2143 => ?_)
                                                                · exact absurd c2143 (by decide)
                                                                · refine lv_aload_n hx hb dX6_become_27 rfl (lv_at hl 1 rfl) ?_
                                                                  refine va_get (D := D) (ci := 6) (v := .ref h1) (C := RX6) (T := TX6) (N := 3) hx hb hts hin6 hown hK hP 0 rfl rfl 0 (by decide) (hts (.fieldLink RX6 9 "MissedPoints$Sheet" "numbers" "[I") (by decide +kernel)) (fun _ h9 => h9) rfl dX6_become_28 ?_
                                                                  refine lv_iload_n hx hb dX6_become_31 rfl (lv_at hl 0 rfl) ?_
                                                                  refine lv_iconst (v := 0) hx hb dX6_become_32 (by decide) ?_
                                                                  refine lz_astc hx hb hK hP hD hS 1 0 rfl rfl (lz_vp (x := 31) (n := 40) (by decide) (by decide)) dX6_become_33 (fun H locs hP hD hS => ?_)
                                                                  refine lv_iinc (v := 32) (lv' := [(3, .int 32), (0, .ref h0), (1, .int 1), (2, .int x0)]) hx hb dX6_become_34 hl (k := 0) rfl (by decide) (by decide) rfl (fun ls hl => ?_)
                                                                  refine lv_goto (tgt := 21) hx hb dX6_become_37 (by decide) ?_
                                                                  refine lv_iload_n hx hb dX6_become_21 rfl (lv_at hl 0 rfl) ?_
                                                                  refine lv_bipush (v := 40) hx hb dX6_become_22 (by decide) ?_
                                                                  refine lv_icmp_ge (tgt := 40) hx hb dX6_become_24 (by decide) (fun c2144 => ?_) (fun c2144 => ?_)
                                                                  · exact absurd c2144 (by decide)
                                                                  · refine lv_aload_n hx hb dX6_become_27 rfl (lv_at hl 1 rfl) ?_
                                                                    refine va_get (D := D) (ci := 6) (v := .ref h1) (C := RX6) (T := TX6) (N := 3) hx hb hts hin6 hown hK hP 0 rfl rfl 0 (by decide) (hts (.fieldLink RX6 9 "MissedPoints$Sheet" "numbers" "[I") (by decide +kernel)) (fun _ h9 => h9) rfl dX6_become_28 ?_
                                                                    refine lv_iload_n hx hb dX6_become_31 rfl (lv_at hl 0 rfl) ?_
                                                                    refine lv_iconst (v := 0) hx hb dX6_become_32 (by decide) ?_
                                                                    refine lz_astc hx hb hK hP hD hS 1 0 rfl rfl (lz_vp (x := 32) (n := 40) (by decide) (by decide)) dX6_become_33 (fun H locs hP hD hS => ?_)
                                                                    refine lv_iinc (v := 33) (lv' := [(3, .int 33), (0, .ref h0), (1, .int 1), (2, .int x0)]) hx hb dX6_become_34 hl (k := 0) rfl (by decide) (by decide) rfl (fun ls hl => ?_)
                                                                    refine lv_goto (tgt := 21) hx hb dX6_become_37 (by decide) ?_
                                                                    refine lv_iload_n hx hb dX6_become_21 rfl (lv_at hl 0 rfl) ?_
                                                                    refine lv_bipush (v := 40) hx hb dX6_become_22 (by decide) ?_
                                                                    refine lv_icmp_ge (tgt := 40) hx hb dX6_become_24 (by decide) (fun c2145 => ?_) (fun c2145 => ?_)
                                                                    · exact absurd c2145 (by decide)
                                                                    · refine lv_aload_n hx hb dX6_become_27 rfl (lv_at hl 1 rfl) ?_
                                                                      refine va_get (D := D) (ci := 6) (v := .ref h1) (C := RX6) (T := TX6) (N := 3) hx hb hts hin6 hown hK hP 0 rfl rfl 0 (by decide) (hts (.fieldLink RX6 9 "MissedPoints$Sheet" "numbers" "[I") (by decide +kernel)) (fun _ h9 => h9) rfl dX6_become_28 ?_
                                                                      refine lv_iload_n hx hb dX6_become_31 rfl (lv_at hl 0 rfl) ?_
                                                                      refine lv_iconst (v := 0) hx hb dX6_become_32 (by decide) ?_
                                                                      refine lz_astc hx hb hK hP hD hS 1 0 rfl rfl (lz_vp (x := 33) (n := 40) (by decide) (by decide)) dX6_become_33 (fun H locs hP hD hS => ?_)
                                                                      refine lv_iinc (v := 34) (lv' := [(3, .int 34), (0, .ref h0), (1, .int 1), (2, .int x0)]) hx hb dX6_become_34 hl (k := 0) rfl (by decide) (by decide) rfl (fun ls hl => ?_)
                                                                      refine lv_goto (tgt := 21) hx hb dX6_become_37 (by decide) ?_
                                                                      refine lv_iload_n hx hb dX6_become_21 rfl (lv_at hl 0 rfl) ?_
                                                                      refine lv_bipush (v := 40) hx hb dX6_become_22 (by decide) ?_
                                                                      refine lv_icmp_ge (tgt := 40) hx hb dX6_become_24 (by decide) (fun c2146 => ?_) (fun c2146 => ?_)
                                                                      · exact absurd c2146 (by decide)
                                                                      · refine lv_aload_n hx hb dX6_become_27 rfl (lv_at hl 1 rfl) ?_
                                                                        refine va_get (D := D) (ci := 6) (v := .ref h1) (C := RX6) (T := TX6) (N := 3) hx hb hts hin6 hown hK hP 0 rfl rfl 0 (by decide) (hts (.fieldLink RX6 9 "MissedPoints$Sheet" "numbers" "[I") (by decide +kernel)) (fun _ h9 => h9) rfl dX6_become_28 ?_
                                                                        refine lv_iload_n hx hb dX6_become_31 rfl (lv_at hl 0 rfl) ?_
                                                                        refine lv_iconst (v := 0) hx hb dX6_become_32 (by decide) ?_
                                                                        refine lz_astc hx hb hK hP hD hS 1 0 rfl rfl (lz_vp (x := 34) (n := 40) (by decide) (by decide)) dX6_become_33 (fun H locs hP hD hS => ?_)
                                                                        refine lv_iinc (v := 35) (lv' := [(3, .int 35), (0, .ref h0), (1, .int 1), (2, .int x0)]) hx hb dX6_become_34 hl (k := 0) rfl (by decide) (by decide) rfl (fun ls hl => ?_)
                                                                        refine lv_goto (tgt := 21) hx hb dX6_become_37 (by decide) ?_
                                                                        refine lv_iload_n hx hb dX6_become_21 rfl (lv_at hl 0 rfl) ?_
                                                                        refine lv_bipush (v := 40) hx hb dX6_become_22 (by decide) ?_
                                                                        refine lv_icmp_ge (tgt := 40) hx hb dX6_become_24 (by decide) (fun c2147 => ?_) (fun c2147 => ?_)
                                                                        · exact absurd c2147 (by decide)
                                                                        · refine lv_aload_n hx hb dX6_become_27 rfl (lv_at hl 1 rfl) ?_
                                                                          refine va_get (D := D) (ci := 6) (v := .ref h1) (C := RX6) (T := TX6) (N := 3) hx hb hts hin6 hown hK hP 0 rfl rfl 0 (by decide) (hts (.fieldLink RX6 9 "MissedPoints$Sheet" "numbers" "[I") (by decide +kernel)) (fun _ h9 => h9) rfl dX6_become_28 ?_
                                                                          refine lv_iload_n hx hb dX6_become_31 rfl (lv_at hl 0 rfl) ?_
                                                                          refine lv_iconst (v := 0) hx hb dX6_become_32 (by decide) ?_
                                                                          refine lz_astc hx hb hK hP hD hS 1 0 rfl rfl (lz_vp (x := 35) (n := 40) (by decide) (by decide)) dX6_become_33 (fun H locs hP hD hS => ?_)
                                                                          refine lv_iinc (v := 36) (lv' := [(3, .int 36), (0, .ref h0), (1, .int 1), (2, .int x0)]) hx hb dX6_become_34 hl (k := 0) rfl (by decide) (by decide) rfl (fun ls hl => ?_)
                                                                          refine lv_goto (tgt := 21) hx hb dX6_become_37 (by decide) ?_
                                                                          refine lv_iload_n hx hb dX6_become_21 rfl (lv_at hl 0 rfl) ?_
                                                                          refine lv_bipush (v := 40) hx hb dX6_become_22 (by decide) ?_
                                                                          refine lv_icmp_ge (tgt := 40) hx hb dX6_become_24 (by decide) (fun c2148 => ?_) (fun c2148 => ?_)
                                                                          · exact absurd c2148 (by decide)
                                                                          · refine lv_aload_n hx hb dX6_become_27 rfl (lv_at hl 1 rfl) ?_
                                                                            refine va_get (D := D) (ci := 6) (v := .ref h1) (C := RX6) (T := TX6) (N := 3) hx hb hts hin6 hown hK hP 0 rfl rfl 0 (by decide) (hts (.fieldLink RX6 9 "MissedPoints$Sheet" "numbers" "[I") (by decide +kernel)) (fun _ h9 => h9) rfl dX6_become_28 ?_
                                                                            refine lv_iload_n hx hb dX6_become_31 rfl (lv_at hl 0 rfl) ?_
                                                                            refine lv_iconst (v := 0) hx hb dX6_become_32 (by decide) ?_
                                                                            refine lz_astc hx hb hK hP hD hS 1 0 rfl rfl (lz_vp (x := 36) (n := 40) (by decide) (by decide)) dX6_become_33 (fun H locs hP hD hS => ?_)
                                                                            refine lv_iinc (v := 37) (lv' := [(3, .int 37), (0, .ref h0), (1, .int 1), (2, .int x0)]) hx hb dX6_become_34 hl (k := 0) rfl (by decide) (by decide) rfl (fun ls hl => ?_)
                                                                            refine lv_goto (tgt := 21) hx hb dX6_become_37 (by decide) ?_
                                                                            refine lv_iload_n hx hb dX6_become_21 rfl (lv_at hl 0 rfl) ?_
                                                                            refine lv_bipush (v := 40) hx hb dX6_become_22 (by decide) ?_
                                                                            refine lv_icmp_ge (tgt := 40) hx hb dX6_become_24 (by decide) (fun c2149 => ?_) (fun c2149 => ?_)
                                                                            · exact absurd c2149 (by decide)
                                                                            · refine lv_aload_n hx hb dX6_become_27 rfl (lv_at hl 1 rfl) ?_
                                                                              refine va_get (D := D) (ci := 6) (v := .ref h1) (C := RX6) (T := TX6) (N := 3) hx hb hts hin6 hown hK hP 0 rfl rfl 0 (by decide) (hts (.fieldLink RX6 9 "MissedPoints$Sheet" "numbers" "[I") (by decide +kernel)) (fun _ h9 => h9) rfl dX6_become_28 ?_
                                                                              refine lv_iload_n hx hb dX6_become_31 rfl (lv_at hl 0 rfl) ?_
                                                                              refine lv_iconst (v := 0) hx hb dX6_become_32 (by decide) ?_
                                                                              refine lz_astc hx hb hK hP hD hS 1 0 rfl rfl (lz_vp (x := 37) (n := 40) (by decide) (by decide)) dX6_become_33 (fun H locs hP hD hS => ?_)
                                                                              refine lv_iinc (v := 38) (lv' := [(3, .int 38), (0, .ref h0), (1, .int 1), (2, .int x0)]) hx hb dX6_become_34 hl (k := 0) rfl (by decide) (by decide) rfl (fun ls hl => ?_)
                                                                              refine lv_goto (tgt := 21) hx hb dX6_become_37 (by decide) ?_
                                                                              refine lv_iload_n hx hb dX6_become_21 rfl (lv_at hl 0 rfl) ?_
                                                                              refine lv_bipush (v := 40) hx hb dX6_become_22 (by decide) ?_
                                                                              refine lv_icmp_ge (tgt := 40) hx hb dX6_become_24 (by decide) (fun c2150 => ?_) (fun c2150 => ?_)
                                                                              · exact absurd c2150 (by decide)
                                                                              · refine lv_aload_n hx hb dX6_become_27 rfl (lv_at hl 1 rfl) ?_
                                                                                refine va_get (D := D) (ci := 6) (v := .ref h1) (C := RX6) (T := TX6) (N := 3) hx hb hts hin6 hown hK hP 0 rfl rfl 0 (by decide) (hts (.fieldLink RX6 9 "MissedPoints$Sheet" "numbers" "[I") (by decide +kernel)) (fun _ h9 => h9) rfl dX6_become_28 ?_
                                                                                refine lv_iload_n hx hb dX6_become_31 rfl (lv_at hl 0 rfl) ?_
                                                                                refine lv_iconst (v := 0) hx hb dX6_become_32 (by decide) ?_
                                                                                refine lz_astc hx hb hK hP hD hS 1 0 rfl rfl (lz_vp (x := 38) (n := 40) (by decide) (by decide)) dX6_become_33 (fun H locs hP hD hS => ?_)
                                                                                refine lv_iinc (v := 39) (lv' := [(3, .int 39), (0, .ref h0), (1, .int 1), (2, .int x0)]) hx hb dX6_become_34 hl (k := 0) rfl (by decide) (by decide) rfl (fun ls hl => ?_)
                                                                                refine lv_goto (tgt := 21) hx hb dX6_become_37 (by decide) ?_
                                                                                refine lv_iload_n hx hb dX6_become_21 rfl (lv_at hl 0 rfl) ?_
                                                                                refine lv_bipush (v := 40) hx hb dX6_become_22 (by decide) ?_
                                                                                refine lv_icmp_ge (tgt := 40) hx hb dX6_become_24 (by decide) (fun c2151 => ?_) (fun c2151 => ?_)
                                                                                · exact absurd c2151 (by decide)
                                                                                · refine lv_aload_n hx hb dX6_become_27 rfl (lv_at hl 1 rfl) ?_
                                                                                  refine va_get (D := D) (ci := 6) (v := .ref h1) (C := RX6) (T := TX6) (N := 3) hx hb hts hin6 hown hK hP 0 rfl rfl 0 (by decide) (hts (.fieldLink RX6 9 "MissedPoints$Sheet" "numbers" "[I") (by decide +kernel)) (fun _ h9 => h9) rfl dX6_become_28 ?_
                                                                                  refine lv_iload_n hx hb dX6_become_31 rfl (lv_at hl 0 rfl) ?_
                                                                                  refine lv_iconst (v := 0) hx hb dX6_become_32 (by decide) ?_
                                                                                  refine lz_astc hx hb hK hP hD hS 1 0 rfl rfl (lz_vp (x := 39) (n := 40) (by decide) (by decide)) dX6_become_33 (fun H locs hP hD hS => ?_)
                                                                                  refine lv_iinc (v := 40) (lv' := [(3, .int 40), (0, .ref h0), (1, .int 1), (2, .int x0)]) hx hb dX6_become_34 hl (k := 0) rfl (by decide) (by decide) rfl (fun ls hl => ?_)
                                                                                  refine lv_goto (tgt := 21) hx hb dX6_become_37 (by decide) ?_
                                                                                  refine lv_iload_n hx hb dX6_become_21 rfl (lv_at hl 0 rfl) ?_
                                                                                  refine lv_bipush (v := 40) hx hb dX6_become_22 (by decide) ?_
                                                                                  refine lv_icmp_ge (tgt := 40) hx hb dX6_become_24 (by decide) (fun c2152 => ?_) (fun c2152 => ?_)
                                                                                  · have hP9 := hP.sub (ws' := [(h0, .inr (6, [.ref h1, .int 1, .int (if (0 : Int32) < (if (40 : Int32) < x0 then (40 : Int32) else x0) then (if (40 : Int32) < x0 then (40 : Int32) else x0) else (0 : Int32))])), (h1, .inl (cI, 40, .inl (fun _ => 0)))]) [0, 1] rfl
                                                                                    have hD9 := hD.sub (ws' := [(h0, .inr (6, [.ref h1, .int 1, .int (if (0 : Int32) < (if (40 : Int32) < x0 then (40 : Int32) else x0) then (if (40 : Int32) < x0 then (40 : Int32) else x0) else (0 : Int32))])), (h1, .inl (cI, 40, .inl (fun _ => 0)))]) [0, 1] (by decide) rfl
                                                                                    subst hAe
                                                                                    exact W.vret hx hb hr (fun t ht hW => ⟨⟨(), rfl, trivial, by rw [ht]; exact hP9, hD9⟩, hS.F ht⟩) hS.2.2 dX6_become_40
                                                                                  · exact absurd c2152 (by decide)
set_option maxHeartbeats 4000000 in
set_option maxRecDepth 100000 in
theorem c_X6_become_4 (l : Launch) (D : va_G) (cI cS : ClassId) (sz : Nat) (h0 h1 : Nat) : Met l yX6_become wsX6_become ({ frames := 1, cells := 0, slots := 0, locals := 40 }) (PQ D cI cS [(h0, .inr (6, [.ref h1, .int (-1), .int 0])), (h1, .inl (cI, 40, .inl (fun _ => 0)))] sz [.ref h0, .int (-1), .int 0]) (QV D [(h0, .inr (6, [.ref h1, .int (-1), .int 0])), (h1, .inl (cI, 40, .inl (fun _ => 0)))] [(h0, .inr (6, [.ref h1, .int (-1), .int 0])), (h1, .inl (cI, 40, .inl (fun _ => 0)))] sz) 0 0 (va_A [(h0, .inr (6, [.ref h1, .int (-1), .int 0])), (h1, .inl (cI, 40, .inl (fun _ => 0)))] sz) := by
  refine Met.ofW (cc := cX6_become) (maxL := 4) (ret := none) (by decide) rfl ?_
  intro p e s m args below meth c s₁ B hml hv
  obtain ⟨rfl, hsz, hP, hKK, hD0⟩ := hv
  have hx := B.exec
  have hb := B.bytes
  have hr := B.returns
  have hts := atoms_spec (ws := wsX6_become) B.pre
  have hown : s.vm.findClass RX6 = some m.cls := findClass_of_methodNamed B.named
  have hlocks := B.notSynchronized
  have hK := hKK.1
  have hN := hKK.2
  have hin6 : ∀ w ∈ wsX60, w ∈ wsX6_become := by decide +kernel
  subst hsz
  have hD := hD0.self (sz := s.heap.size)
  obtain ⟨A, hAe⟩ : ∃ A, A = va_A [(h0, .inr (6, [.ref h1, .int (-1), .int 0])), (h1, .inl (cI, 40, .inl (fun _ => 0)))] s.heap.size := ⟨_, rfl⟩
  rw [← hAe] at hD
  have hA : ∀ q : Nat, s.heap.size ≤ q → A q := fun q h => by rw [hAe]; exact Or.inr h
  have hS : va_S A s.heap s.heap [] := va_S.rf
  have hl := lv_entry ([.ref h0, .int (-1), .int 0]) (n := 4) (Nat.le_of_ble_eq_true rfl)
  rw [lg_entry_eq]
  generalize (lg_sl ([.ref h0, .int (-1), .int 0]) ++ List.replicate (4 - (lg_sl ([.ref h0, .int (-1), .int 0])).length) Slot.unset).toArray = ls at hl ⊢
  have hl : lv_has ls 4 [(0, .ref h0), (1, .int (-1)), (2, .int 0)] := hl
  refine lv_aload_n hx hb dX6_become_0 rfl (lv_at hl 0 rfl) ?_
  refine lv_iload_n hx hb dX6_become_1 rfl (lv_at hl 1 rfl) ?_
  refine va_put (D := D) (ci := 6) (v := .int (-1)) (ty := .int) (C := RX6) (T := TX6) (N := 3) hx hb hts hin6 tyX6 tyX6_ok nmX6 hown hK hP hD hS 0 rfl rfl 1 (by decide) (hts (.fieldLink RX6 15 "MissedPoints$Sheet" "sort" "I") (by decide +kernel)) (fun _ h9 => h9) rfl (by decide +kernel) rfl rfl (Nat.le_of_ble_eq_true rfl) dX6_become_2 (fun H locs hP hD hS => ?_)
  have hP : va_P D cls [(h0, .inr (6, [.ref h1, .int (-1), .int 0])), (h1, .inl (cI, 40, .inl (fun _ => 0)))] H := hP
  have hD : va_D A [(h0, .inr (6, [.ref h1, .int (-1), .int 0])), (h1, .inl (cI, 40, .inl (fun _ => 0)))] := hD
  refine lv_aload_n hx hb dX6_become_5 rfl (lv_at hl 0 rfl) ?_
  refine lv_iconst (v := 0) hx hb dX6_become_6 (by decide) ?_
  refine lv_iload_n hx hb dX6_become_7 rfl (lv_at hl 2 rfl) ?_
  refine lv_bipush (v := 40) hx hb dX6_become_8 (by decide) ?_
  refine va_mmin hx hb (by rw [hml]; exact hl.1.symm) hown (hts (.methodLink RX6 19 Lib.Math.min.name) (by decide +kernel)) (hts (.static Lib.Math.min.name) (by decide +kernel)) (hts (.initialized "java/lang/Math") (by decide +kernel)) (hts (.code Lib.Math.min.name Lib.Math.min.code 2 (some .int)) (by decide +kernel)) (Nat.le_of_ble_eq_true rfl) (Nat.le_of_ble_eq_true rfl) (Nat.le_of_ble_eq_true rfl) (Nat.le_of_ble_eq_true rfl) dX6_become_10 ?_
  refine lz_top (y := 0) (by decide) ?_
  refine va_mmax hx hb (by rw [hml]; exact hl.1.symm) hown (hts (.methodLink RX6 25 Lib.Math.max.name) (by decide +kernel)) (hts (.static Lib.Math.max.name) (by decide +kernel)) (hts (.initialized "java/lang/Math") (by decide +kernel)) (hts (.code Lib.Math.max.name Lib.Math.max.code 2 (some .int)) (by decide +kernel)) (Nat.le_of_ble_eq_true rfl) (Nat.le_of_ble_eq_true rfl) (Nat.le_of_ble_eq_true rfl) (Nat.le_of_ble_eq_true rfl) dX6_become_13 ?_
  refine lz_top (y := 0) (by decide) ?_
  refine va_put (D := D) (ci := 6) (v := .int 0) (ty := .int) (C := RX6) (T := TX6) (N := 3) hx hb hts hin6 tyX6 tyX6_ok nmX6 hown hK hP hD hS 0 rfl rfl 2 (by decide) (hts (.fieldLink RX6 28 "MissedPoints$Sheet" "size" "I") (by decide +kernel)) (fun _ h9 => h9) rfl (by decide +kernel) rfl rfl (Nat.le_of_ble_eq_true rfl) dX6_become_16 (fun H locs hP hD hS => ?_)
  have hP : va_P D cls [(h0, .inr (6, [.ref h1, .int (-1), .int 0])), (h1, .inl (cI, 40, .inl (fun _ => 0)))] H := hP
  have hD : va_D A [(h0, .inr (6, [.ref h1, .int (-1), .int 0])), (h1, .inl (cI, 40, .inl (fun _ => 0)))] := hD
  refine lv_iconst (v := 0) hx hb dX6_become_19 (by decide) ?_
  refine lv_istore_n (lv' := [(3, .int 0), (0, .ref h0), (1, .int (-1)), (2, .int 0)]) hx hb dX6_become_20 rfl hl (by decide) rfl (fun ls hl => ?_)
  refine lv_iload_n hx hb dX6_become_21 rfl (lv_at hl 0 rfl) ?_
  refine lv_bipush (v := 40) hx hb dX6_become_22 (by decide) ?_
  refine lv_icmp_ge (tgt := 40) hx hb dX6_become_24 (by decide) (fun c2161 => ?_) (fun c2161 => ?_)
  · exact absurd c2161 (by decide)
  · refine lv_aload_n hx hb dX6_become_27 rfl (lv_at hl 1 rfl) ?_
    refine va_get (D := D) (ci := 6) (v := .ref h1) (C := RX6) (T := TX6) (N := 3) hx hb hts hin6 hown hK hP 0 rfl rfl 0 (by decide) (hts (.fieldLink RX6 9 "MissedPoints$Sheet" "numbers" "[I") (by decide +kernel)) (fun _ h9 => h9) rfl dX6_become_28 ?_
    refine lv_iload_n hx hb dX6_become_31 rfl (lv_at hl 0 rfl) ?_
    refine lv_iconst (v := 0) hx hb dX6_become_32 (by decide) ?_
    refine lz_astc hx hb hK hP hD hS 1 0 rfl rfl (lz_vp (x := 0) (n := 40) (by decide) (by decide)) dX6_become_33 (fun H locs hP hD hS => ?_)
    refine lv_iinc (v := 1) (lv' := [(3, .int 1), (0, .ref h0), (1, .int (-1)), (2, .int 0)]) hx hb dX6_become_34 hl (k := 0) rfl (by decide) (by decide) rfl (fun ls hl => ?_)
    refine lv_goto (tgt := 21) hx hb dX6_become_37 (by decide) ?_
    refine lv_iload_n hx hb dX6_become_21 rfl (lv_at hl 0 rfl) ?_
    refine lv_bipush (v := 40) hx hb dX6_become_22 (by decide) ?_
    refine lv_icmp_ge (tgt := 40) hx hb dX6_become_24 (by decide) (fun c2162 => ?_) (fun c2162 => ?_)
    · exact absurd c2162 (by decide)
    · refine lv_aload_n hx hb dX6_become_27 rfl (lv_at hl 1 rfl) ?_
      refine va_get (D := D) (ci := 6) (v := .ref h1) (C := RX6) (T := TX6) (N := 3) hx hb hts hin6 hown hK hP 0 rfl rfl 0 (by decide) (hts (.fieldLink RX6 9 "MissedPoints$Sheet" "numbers" "[I") (by decide +kernel)) (fun _ h9 => h9) rfl dX6_become_28 ?_
      refine lv_iload_n hx hb dX6_become_31 rfl (lv_at hl 0 rfl) ?_
      refine lv_iconst (v := 0) hx hb dX6_become_32 (by decide) ?_
      refine lz_astc hx hb hK hP hD hS 1 0 rfl rfl (lz_vp (x := 1) (n := 40) (by decide) (by decide)) dX6_become_33 (fun H locs hP hD hS => ?_)
      refine lv_iinc (v := 2) (lv' := [(3, .int 2), (0, .ref h0), (1, .int (-1)), (2, .int 0)]) hx hb dX6_become_34 hl (k := 0) rfl (by decide) (by decide) rfl (fun ls hl => ?_)
      refine lv_goto (tgt := 21) hx hb dX6_become_37 (by decide) ?_
      refine lv_iload_n hx hb dX6_become_21 rfl (lv_at hl 0 rfl) ?_
      refine lv_bipush (v := 40) hx hb dX6_become_22 (by decide) ?_
      refine lv_icmp_ge (tgt := 40) hx hb dX6_become_24 (by decide) (fun c2163 => ?_) (fun c2163 => ?_)
      · exact absurd c2163 (by decide)
      · refine lv_aload_n hx hb dX6_become_27 rfl (lv_at hl 1 rfl) ?_
        refine va_get (D := D) (ci := 6) (v := .ref h1) (C := RX6) (T := TX6) (N := 3) hx hb hts hin6 hown hK hP 0 rfl rfl 0 (by decide) (hts (.fieldLink RX6 9 "MissedPoints$Sheet" "numbers" "[I") (by decide +kernel)) (fun _ h9 => h9) rfl dX6_become_28 ?_
        refine lv_iload_n hx hb dX6_become_31 rfl (lv_at hl 0 rfl) ?_
        refine lv_iconst (v := 0) hx hb dX6_become_32 (by decide) ?_
        refine lz_astc hx hb hK hP hD hS 1 0 rfl rfl (lz_vp (x := 2) (n := 40) (by decide) (by decide)) dX6_become_33 (fun H locs hP hD hS => ?_)
        refine lv_iinc (v := 3) (lv' := [(3, .int 3), (0, .ref h0), (1, .int (-1)), (2, .int 0)]) hx hb dX6_become_34 hl (k := 0) rfl (by decide) (by decide) rfl (fun ls hl => ?_)
        refine lv_goto (tgt := 21) hx hb dX6_become_37 (by decide) ?_
        refine lv_iload_n hx hb dX6_become_21 rfl (lv_at hl 0 rfl) ?_
        refine lv_bipush (v := 40) hx hb dX6_become_22 (by decide) ?_
        refine lv_icmp_ge (tgt := 40) hx hb dX6_become_24 (by decide) (fun c2164 => ?_) (fun c2164 => ?_)
        · exact absurd c2164 (by decide)
        · refine lv_aload_n hx hb dX6_become_27 rfl (lv_at hl 1 rfl) ?_
          refine va_get (D := D) (ci := 6) (v := .ref h1) (C := RX6) (T := TX6) (N := 3) hx hb hts hin6 hown hK hP 0 rfl rfl 0 (by decide) (hts (.fieldLink RX6 9 "MissedPoints$Sheet" "numbers" "[I") (by decide +kernel)) (fun _ h9 => h9) rfl dX6_become_28 ?_
          refine lv_iload_n hx hb dX6_become_31 rfl (lv_at hl 0 rfl) ?_
          refine lv_iconst (v := 0) hx hb dX6_become_32 (by decide) ?_
          refine lz_astc hx hb hK hP hD hS 1 0 rfl rfl (lz_vp (x := 3) (n := 40) (by decide) (by decide)) dX6_become_33 (fun H locs hP hD hS => ?_)
          refine lv_iinc (v := 4) (lv' := [(3, .int 4), (0, .ref h0), (1, .int (-1)), (2, .int 0)]) hx hb dX6_become_34 hl (k := 0) rfl (by decide) (by decide) rfl (fun ls hl => ?_)
          refine lv_goto (tgt := 21) hx hb dX6_become_37 (by decide) ?_
          refine lv_iload_n hx hb dX6_become_21 rfl (lv_at hl 0 rfl) ?_
          refine lv_bipush (v := 40) hx hb dX6_become_22 (by decide) ?_
          refine lv_icmp_ge (tgt := 40) hx hb dX6_become_24 (by decide) (fun c2165 => ?_) (fun c2165 => ?_)
          · exact absurd c2165 (by decide)
          · refine lv_aload_n hx hb dX6_become_27 rfl (lv_at hl 1 rfl) ?_
            refine va_get (D := D) (ci := 6) (v := .ref h1) (C := RX6) (T := TX6) (N := 3) hx hb hts hin6 hown hK hP 0 rfl rfl 0 (by decide) (hts (.fieldLink RX6 9 "MissedPoints$Sheet" "numbers" "[I") (by decide +kernel)) (fun _ h9 => h9) rfl dX6_become_28 ?_
            refine lv_iload_n hx hb dX6_become_31 rfl (lv_at hl 0 rfl) ?_
            refine lv_iconst (v := 0) hx hb dX6_become_32 (by decide) ?_
            refine lz_astc hx hb hK hP hD hS 1 0 rfl rfl (lz_vp (x := 4) (n := 40) (by decide) (by decide)) dX6_become_33 (fun H locs hP hD hS => ?_)
            refine lv_iinc (v := 5) (lv' := [(3, .int 5), (0, .ref h0), (1, .int (-1)), (2, .int 0)]) hx hb dX6_become_34 hl (k := 0) rfl (by decide) (by decide) rfl (fun ls hl => ?_)
            refine lv_goto (tgt := 21) hx hb dX6_become_37 (by decide) ?_
            refine lv_iload_n hx hb dX6_become_21 rfl (lv_at hl 0 rfl) ?_
            refine lv_bipush (v := 40) hx hb dX6_become_22 (by decide) ?_
            refine lv_icmp_ge (tgt := 40) hx hb dX6_become_24 (by decide) (fun c2166 => ?_) (fun c2166 => ?_)
            · exact absurd c2166 (by decide)
            · refine lv_aload_n hx hb dX6_become_27 rfl (lv_at hl 1 rfl) ?_
              refine va_get (D := D) (ci := 6) (v := .ref h1) (C := RX6) (T := TX6) (N := 3) hx hb hts hin6 hown hK hP 0 rfl rfl 0 (by decide) (hts (.fieldLink RX6 9 "MissedPoints$Sheet" "numbers" "[I") (by decide +kernel)) (fun _ h9 => h9) rfl dX6_become_28 ?_
              refine lv_iload_n hx hb dX6_become_31 rfl (lv_at hl 0 rfl) ?_
              refine lv_iconst (v := 0) hx hb dX6_become_32 (by decide) ?_
              refine lz_astc hx hb hK hP hD hS 1 0 rfl rfl (lz_vp (x := 5) (n := 40) (by decide) (by decide)) dX6_become_33 (fun H locs hP hD hS => ?_)
              refine lv_iinc (v := 6) (lv' := [(3, .int 6), (0, .ref h0), (1, .int (-1)), (2, .int 0)]) hx hb dX6_become_34 hl (k := 0) rfl (by decide) (by decide) rfl (fun ls hl => ?_)
              refine lv_goto (tgt := 21) hx hb dX6_become_37 (by decide) ?_
              refine lv_iload_n hx hb dX6_become_21 rfl (lv_at hl 0 rfl) ?_
              refine lv_bipush (v := 40) hx hb dX6_become_22 (by decide) ?_
              refine lv_icmp_ge (tgt := 40) hx hb dX6_become_24 (by decide) (fun c2167 => ?_) (fun c2167 => ?_)
              · exact absurd c2167 (by decide)
              · refine lv_aload_n hx hb dX6_become_27 rfl (lv_at hl 1 rfl) ?_
                refine va_get (D := D) (ci := 6) (v := .ref h1) (C := RX6) (T := TX6) (N := 3) hx hb hts hin6 hown hK hP 0 rfl rfl 0 (by decide) (hts (.fieldLink RX6 9 "MissedPoints$Sheet" "numbers" "[I") (by decide +kernel)) (fun _ h9 => h9) rfl dX6_become_28 ?_
                refine lv_iload_n hx hb dX6_become_31 rfl (lv_at hl 0 rfl) ?_
                refine lv_iconst (v := 0) hx hb dX6_become_32 (by decide) ?_
                refine lz_astc hx hb hK hP hD hS 1 0 rfl rfl (lz_vp (x := 6) (n := 40) (by decide) (by decide)) dX6_become_33 (fun H locs hP hD hS => ?_)
                refine lv_iinc (v := 7) (lv' := [(3, .int 7), (0, .ref h0), (1, .int (-1)), (2, .int 0)]) hx hb dX6_become_34 hl (k := 0) rfl (by decide) (by decide) rfl (fun ls hl => ?_)
                refine lv_goto (tgt := 21) hx hb dX6_become_37 (by decide) ?_
                refine lv_iload_n hx hb dX6_become_21 rfl (lv_at hl 0 rfl) ?_
                refine lv_bipush (v := 40) hx hb dX6_become_22 (by decide) ?_
                refine lv_icmp_ge (tgt := 40) hx hb dX6_become_24 (by decide) (fun c2168 => ?_) (fun c2168 => ?_)
                · exact absurd c2168 (by decide)
                · refine lv_aload_n hx hb dX6_become_27 rfl (lv_at hl 1 rfl) ?_
                  refine va_get (D := D) (ci := 6) (v := .ref h1) (C := RX6) (T := TX6) (N := 3) hx hb hts hin6 hown hK hP 0 rfl rfl 0 (by decide) (hts (.fieldLink RX6 9 "MissedPoints$Sheet" "numbers" "[I") (by decide +kernel)) (fun _ h9 => h9) rfl dX6_become_28 ?_
                  refine lv_iload_n hx hb dX6_become_31 rfl (lv_at hl 0 rfl) ?_
                  refine lv_iconst (v := 0) hx hb dX6_become_32 (by decide) ?_
                  refine lz_astc hx hb hK hP hD hS 1 0 rfl rfl (lz_vp (x := 7) (n := 40) (by decide) (by decide)) dX6_become_33 (fun H locs hP hD hS => ?_)
                  refine lv_iinc (v := 8) (lv' := [(3, .int 8), (0, .ref h0), (1, .int (-1)), (2, .int 0)]) hx hb dX6_become_34 hl (k := 0) rfl (by decide) (by decide) rfl (fun ls hl => ?_)
                  refine lv_goto (tgt := 21) hx hb dX6_become_37 (by decide) ?_
                  refine lv_iload_n hx hb dX6_become_21 rfl (lv_at hl 0 rfl) ?_
                  refine lv_bipush (v := 40) hx hb dX6_become_22 (by decide) ?_
                  refine lv_icmp_ge (tgt := 40) hx hb dX6_become_24 (by decide) (fun c2169 => ?_) (fun c2169 => ?_)
                  · exact absurd c2169 (by decide)
                  · refine lv_aload_n hx hb dX6_become_27 rfl (lv_at hl 1 rfl) ?_
                    refine va_get (D := D) (ci := 6) (v := .ref h1) (C := RX6) (T := TX6) (N := 3) hx hb hts hin6 hown hK hP 0 rfl rfl 0 (by decide) (hts (.fieldLink RX6 9 "MissedPoints$Sheet" "numbers" "[I") (by decide +kernel)) (fun _ h9 => h9) rfl dX6_become_28 ?_
                    refine lv_iload_n hx hb dX6_become_31 rfl (lv_at hl 0 rfl) ?_
                    refine lv_iconst (v := 0) hx hb dX6_become_32 (by decide) ?_
                    refine lz_astc hx hb hK hP hD hS 1 0 rfl rfl (lz_vp (x := 8) (n := 40) (by decide) (by decide)) dX6_become_33 (fun H locs hP hD hS => ?_)
                    refine lv_iinc (v := 9) (lv' := [(3, .int 9), (0, .ref h0), (1, .int (-1)), (2, .int 0)]) hx hb dX6_become_34 hl (k := 0) rfl (by decide) (by decide) rfl (fun ls hl => ?_)
                    refine lv_goto (tgt := 21) hx hb dX6_become_37 (by decide) ?_
                    refine lv_iload_n hx hb dX6_become_21 rfl (lv_at hl 0 rfl) ?_
                    refine lv_bipush (v := 40) hx hb dX6_become_22 (by decide) ?_
                    refine lv_icmp_ge (tgt := 40) hx hb dX6_become_24 (by decide) (fun c2170 => ?_) (fun c2170 => ?_)
                    · exact absurd c2170 (by decide)
                    · refine lv_aload_n hx hb dX6_become_27 rfl (lv_at hl 1 rfl) ?_
                      refine va_get (D := D) (ci := 6) (v := .ref h1) (C := RX6) (T := TX6) (N := 3) hx hb hts hin6 hown hK hP 0 rfl rfl 0 (by decide) (hts (.fieldLink RX6 9 "MissedPoints$Sheet" "numbers" "[I") (by decide +kernel)) (fun _ h9 => h9) rfl dX6_become_28 ?_
                      refine lv_iload_n hx hb dX6_become_31 rfl (lv_at hl 0 rfl) ?_
                      refine lv_iconst (v := 0) hx hb dX6_become_32 (by decide) ?_
                      refine lz_astc hx hb hK hP hD hS 1 0 rfl rfl (lz_vp (x := 9) (n := 40) (by decide) (by decide)) dX6_become_33 (fun H locs hP hD hS => ?_)
                      refine lv_iinc (v := 10) (lv' := [(3, .int 10), (0, .ref h0), (1, .int (-1)), (2, .int 0)]) hx hb dX6_become_34 hl (k := 0) rfl (by decide) (by decide) rfl (fun ls hl => ?_)
                      refine lv_goto (tgt := 21) hx hb dX6_become_37 (by decide) ?_
                      refine lv_iload_n hx hb dX6_become_21 rfl (lv_at hl 0 rfl) ?_
                      refine lv_bipush (v := 40) hx hb dX6_become_22 (by decide) ?_
                      refine lv_icmp_ge (tgt := 40) hx hb dX6_become_24 (by decide) (fun c2171 => ?_) (fun c2171 => ?_)
                      · exact absurd c2171 (by decide)
                      · refine lv_aload_n hx hb dX6_become_27 rfl (lv_at hl 1 rfl) ?_
                        refine va_get (D := D) (ci := 6) (v := .ref h1) (C := RX6) (T := TX6) (N := 3) hx hb hts hin6 hown hK hP 0 rfl rfl 0 (by decide) (hts (.fieldLink RX6 9 "MissedPoints$Sheet" "numbers" "[I") (by decide +kernel)) (fun _ h9 => h9) rfl dX6_become_28 ?_
                        refine lv_iload_n hx hb dX6_become_31 rfl (lv_at hl 0 rfl) ?_
                        refine lv_iconst (v := 0) hx hb dX6_become_32 (by decide) ?_
                        refine lz_astc hx hb hK hP hD hS 1 0 rfl rfl (lz_vp (x := 10) (n := 40) (by decide) (by decide)) dX6_become_33 (fun H locs hP hD hS => ?_)
                        refine lv_iinc (v := 11) (lv' := [(3, .int 11), (0, .ref h0), (1, .int (-1)), (2, .int 0)]) hx hb dX6_become_34 hl (k := 0) rfl (by decide) (by decide) rfl (fun ls hl => ?_)
                        refine lv_goto (tgt := 21) hx hb dX6_become_37 (by decide) ?_
                        refine lv_iload_n hx hb dX6_become_21 rfl (lv_at hl 0 rfl) ?_
                        refine lv_bipush (v := 40) hx hb dX6_become_22 (by decide) ?_
                        refine lv_icmp_ge (tgt := 40) hx hb dX6_become_24 (by decide) (fun c2172 => ?_) (fun c2172 => ?_)
                        · exact absurd c2172 (by decide)
                        · refine lv_aload_n hx hb dX6_become_27 rfl (lv_at hl 1 rfl) ?_
                          refine va_get (D := D) (ci := 6) (v := .ref h1) (C := RX6) (T := TX6) (N := 3) hx hb hts hin6 hown hK hP 0 rfl rfl 0 (by decide) (hts (.fieldLink RX6 9 "MissedPoints$Sheet" "numbers" "[I") (by decide +kernel)) (fun _ h9 => h9) rfl dX6_become_28 ?_
                          refine lv_iload_n hx hb dX6_become_31 rfl (lv_at hl 0 rfl) ?_
                          refine lv_iconst (v := 0) hx hb dX6_become_32 (by decide) ?_
                          refine lz_astc hx hb hK hP hD hS 1 0 rfl rfl (lz_vp (x := 11) (n := 40) (by decide) (by decide)) dX6_become_33 (fun H locs hP hD hS => ?_)
                          refine lv_iinc (v := 12) (lv' := [(3, .int 12), (0, .ref h0), (1, .int (-1)), (2, .int 0)]) hx hb dX6_become_34 hl (k := 0) rfl (by decide) (by decide) rfl (fun ls hl => ?_)
                          refine lv_goto (tgt := 21) hx hb dX6_become_37 (by decide) ?_
                          refine lv_iload_n hx hb dX6_become_21 rfl (lv_at hl 0 rfl) ?_
                          refine lv_bipush (v := 40) hx hb dX6_become_22 (by decide) ?_
                          refine lv_icmp_ge (tgt := 40) hx hb dX6_become_24 (by decide) (fun c2173 => ?_) (fun c2173 => ?_)
                          · exact absurd c2173 (by decide)
                          · refine lv_aload_n hx hb dX6_become_27 rfl (lv_at hl 1 rfl) ?_
                            refine va_get (D := D) (ci := 6) (v := .ref h1) (C := RX6) (T := TX6) (N := 3) hx hb hts hin6 hown hK hP 0 rfl rfl 0 (by decide) (hts (.fieldLink RX6 9 "MissedPoints$Sheet" "numbers" "[I") (by decide +kernel)) (fun _ h9 => h9) rfl dX6_become_28 ?_
                            refine lv_iload_n hx hb dX6_become_31 rfl (lv_at hl 0 rfl) ?_
                            refine lv_iconst (v := 0) hx hb dX6_become_32 (by decide) ?_
                            refine lz_astc hx hb hK hP hD hS 1 0 rfl rfl (lz_vp (x := 12) (n := 40) (by decide) (by decide)) dX6_become_33 (fun H locs hP hD hS => ?_)
                            refine lv_iinc (v := 13) (lv' := [(3, .int 13), (0, .ref h0), (1, .int (-1)), (2, .int 0)]) hx hb dX6_become_34 hl (k := 0) rfl (by decide) (by decide) rfl (fun ls hl => ?_)
                            refine lv_goto (tgt := 21) hx hb dX6_become_37 (by decide) ?_
                            refine lv_iload_n hx hb dX6_become_21 rfl (lv_at hl 0 rfl) ?_
                            refine lv_bipush (v := 40) hx hb dX6_become_22 (by decide) ?_
                            refine lv_icmp_ge (tgt := 40) hx hb dX6_become_24 (by decide) (fun c2174 => ?_) (fun c2174 => ?_)
                            · exact absurd c2174 (by decide)
                            · refine lv_aload_n hx hb dX6_become_27 rfl (lv_at hl 1 rfl) ?_
                              refine va_get (D := D) (ci := 6) (v := .ref h1) (C := RX6) (T := TX6) (N := 3) hx hb hts hin6 hown hK hP 0 rfl rfl 0 (by decide) (hts (.fieldLink RX6 9 "MissedPoints$Sheet" "numbers" "[I") (by decide +kernel)) (fun _ h9 => h9) rfl dX6_become_28 ?_
                              refine lv_iload_n hx hb dX6_become_31 rfl (lv_at hl 0 rfl) ?_
                              refine lv_iconst (v := 0) hx hb dX6_become_32 (by decide) ?_
                              refine lz_astc hx hb hK hP hD hS 1 0 rfl rfl (lz_vp (x := 13) (n := 40) (by decide) (by decide)) dX6_become_33 (fun H locs hP hD hS => ?_)
                              refine lv_iinc (v := 14) (lv' := [(3, .int 14), (0, .ref h0), (1, .int (-1)), (2, .int 0)]) hx hb dX6_become_34 hl (k := 0) rfl (by decide) (by decide) rfl (fun ls hl => ?_)
                              refine lv_goto (tgt := 21) hx hb dX6_become_37 (by decide) ?_
                              refine lv_iload_n hx hb dX6_become_21 rfl (lv_at hl 0 rfl) ?_
                              refine lv_bipush (v := 40) hx hb dX6_become_22 (by decide) ?_
                              refine lv_icmp_ge (tgt := 40) hx hb dX6_become_24 (by decide) (fun c2175 => ?_) (fun c2175 => ?_)
                              · exact absurd c2175 (by decide)
                              · refine lv_aload_n hx hb dX6_become_27 rfl (lv_at hl 1 rfl) ?_
                                refine va_get (D := D) (ci := 6) (v := .ref h1) (C := RX6) (T := TX6) (N := 3) hx hb hts hin6 hown hK hP 0 rfl rfl 0 (by decide) (hts (.fieldLink RX6 9 "MissedPoints$Sheet" "numbers" "[I") (by decide +kernel)) (fun _ h9 => h9) rfl dX6_become_28 ?_
                                refine lv_iload_n hx hb dX6_become_31 rfl (lv_at hl 0 rfl) ?_
                                refine lv_iconst (v := 0) hx hb dX6_become_32 (by decide) ?_
                                refine lz_astc hx hb hK hP hD hS 1 0 rfl rfl (lz_vp (x := 14) (n := 40) (by decide) (by decide)) dX6_become_33 (fun H locs hP hD hS => ?_)
                                refine lv_iinc (v := 15) (lv' := [(3, .int 15), (0, .ref h0), (1, .int (-1)), (2, .int 0)]) hx hb dX6_become_34 hl (k := 0) rfl (by decide) (by decide) rfl (fun ls hl => ?_)
                                refine lv_goto (tgt := 21) hx hb dX6_become_37 (by decide) ?_
                                refine lv_iload_n hx hb dX6_become_21 rfl (lv_at hl 0 rfl) ?_
                                refine lv_bipush (v := 40) hx hb dX6_become_22 (by decide) ?_
                                refine lv_icmp_ge (tgt := 40) hx hb dX6_become_24 (by decide) (fun c2176 => ?_) (fun c2176 => ?_)
                                · exact absurd c2176 (by decide)
                                · refine lv_aload_n hx hb dX6_become_27 rfl (lv_at hl 1 rfl) ?_
                                  refine va_get (D := D) (ci := 6) (v := .ref h1) (C := RX6) (T := TX6) (N := 3) hx hb hts hin6 hown hK hP 0 rfl rfl 0 (by decide) (hts (.fieldLink RX6 9 "MissedPoints$Sheet" "numbers" "[I") (by decide +kernel)) (fun _ h9 => h9) rfl dX6_become_28 ?_
                                  refine lv_iload_n hx hb dX6_become_31 rfl (lv_at hl 0 rfl) ?_
                                  refine lv_iconst (v := 0) hx hb dX6_become_32 (by decide) ?_
                                  refine lz_astc hx hb hK hP hD hS 1 0 rfl rfl (lz_vp (x := 15) (n := 40) (by decide) (by decide)) dX6_become_33 (fun H locs hP hD hS => ?_)
                                  refine lv_iinc (v := 16) (lv' := [(3, .int 16), (0, .ref h0), (1, .int (-1)), (2, .int 0)]) hx hb dX6_become_34 hl (k := 0) rfl (by decide) (by decide) rfl (fun ls hl => ?_)
                                  refine lv_goto (tgt := 21) hx hb dX6_become_37 (by decide) ?_
                                  refine lv_iload_n hx hb dX6_become_21 rfl (lv_at hl 0 rfl) ?_
                                  refine lv_bipush (v := 40) hx hb dX6_become_22 (by decide) ?_
                                  refine lv_icmp_ge (tgt := 40) hx hb dX6_become_24 (by decide) (fun c2177 => ?_) (fun c2177 => ?_)
                                  · exact absurd c2177 (by decide)
                                  · refine lv_aload_n hx hb dX6_become_27 rfl (lv_at hl 1 rfl) ?_
                                    refine va_get (D := D) (ci := 6) (v := .ref h1) (C := RX6) (T := TX6) (N := 3) hx hb hts hin6 hown hK hP 0 rfl rfl 0 (by decide) (hts (.fieldLink RX6 9 "MissedPoints$Sheet" "numbers" "[I") (by decide +kernel)) (fun _ h9 => h9) rfl dX6_become_28 ?_
                                    refine lv_iload_n hx hb dX6_become_31 rfl (lv_at hl 0 rfl) ?_
                                    refine lv_iconst (v := 0) hx hb dX6_become_32 (by decide) ?_
                                    refine lz_astc hx hb hK hP hD hS 1 0 rfl rfl (lz_vp (x := 16) (n := 40) (by decide) (by decide)) dX6_become_33 (fun H locs hP hD hS => ?_)
                                    refine lv_iinc (v := 17) (lv' := [(3, .int 17), (0, .ref h0), (1, .int (-1)), (2, .int 0)]) hx hb dX6_become_34 hl (k := 0) rfl (by decide) (by decide) rfl (fun ls hl => ?_)
                                    refine lv_goto (tgt := 21) hx hb dX6_become_37 (by decide) ?_
                                    refine lv_iload_n hx hb dX6_become_21 rfl (lv_at hl 0 rfl) ?_
                                    refine lv_bipush (v := 40) hx hb dX6_become_22 (by decide) ?_
                                    refine lv_icmp_ge (tgt := 40) hx hb dX6_become_24 (by decide) (fun c2178 => ?_) (fun c2178 => ?_)
                                    · exact absurd c2178 (by decide)
                                    · refine lv_aload_n hx hb dX6_become_27 rfl (lv_at hl 1 rfl) ?_
                                      refine va_get (D := D) (ci := 6) (v := .ref h1) (C := RX6) (T := TX6) (N := 3) hx hb hts hin6 hown hK hP 0 rfl rfl 0 (by decide) (hts (.fieldLink RX6 9 "MissedPoints$Sheet" "numbers" "[I") (by decide +kernel)) (fun _ h9 => h9) rfl dX6_become_28 ?_
                                      refine lv_iload_n hx hb dX6_become_31 rfl (lv_at hl 0 rfl) ?_
                                      refine lv_iconst (v := 0) hx hb dX6_become_32 (by decide) ?_
                                      refine lz_astc hx hb hK hP hD hS 1 0 rfl rfl (lz_vp (x := 17) (n := 40) (by decide) (by decide)) dX6_become_33 (fun H locs hP hD hS => ?_)
                                      refine lv_iinc (v := 18) (lv' := [(3, .int 18), (0, .ref h0), (1, .int (-1)), (2, .int 0)]) hx hb dX6_become_34 hl (k := 0) rfl (by decide) (by decide) rfl (fun ls hl => ?_)
                                      refine lv_goto (tgt := 21) hx hb dX6_become_37 (by decide) ?_
                                      refine lv_iload_n hx hb dX6_become_21 rfl (lv_at hl 0 rfl) ?_
                                      refine lv_bipush (v := 40) hx hb dX6_become_22 (by decide) ?_
                                      refine lv_icmp_ge (tgt := 40) hx hb dX6_become_24 (by decide) (fun c2179 => ?_) (fun c2179 => ?_)
                                      · exact absurd c2179 (by decide)
                                      · refine lv_aload_n hx hb dX6_become_27 rfl (lv_at hl 1 rfl) ?_
                                        refine va_get (D := D) (ci := 6) (v := .ref h1) (C := RX6) (T := TX6) (N := 3) hx hb hts hin6 hown hK hP 0 rfl rfl 0 (by decide) (hts (.fieldLink RX6 9 "MissedPoints$Sheet" "numbers" "[I") (by decide +kernel)) (fun _ h9 => h9) rfl dX6_become_28 ?_
                                        refine lv_iload_n hx hb dX6_become_31 rfl (lv_at hl 0 rfl) ?_
                                        refine lv_iconst (v := 0) hx hb dX6_become_32 (by decide) ?_
                                        refine lz_astc hx hb hK hP hD hS 1 0 rfl rfl (lz_vp (x := 18) (n := 40) (by decide) (by decide)) dX6_become_33 (fun H locs hP hD hS => ?_)
                                        refine lv_iinc (v := 19) (lv' := [(3, .int 19), (0, .ref h0), (1, .int (-1)), (2, .int 0)]) hx hb dX6_become_34 hl (k := 0) rfl (by decide) (by decide) rfl (fun ls hl => ?_)
                                        refine lv_goto (tgt := 21) hx hb dX6_become_37 (by decide) ?_
                                        refine lv_iload_n hx hb dX6_become_21 rfl (lv_at hl 0 rfl) ?_
                                        refine lv_bipush (v := 40) hx hb dX6_become_22 (by decide) ?_
                                        refine lv_icmp_ge (tgt := 40) hx hb dX6_become_24 (by decide) (fun c2180 => ?_) (fun c2180 => ?_)
                                        · exact absurd c2180 (by decide)
                                        · refine lv_aload_n hx hb dX6_become_27 rfl (lv_at hl 1 rfl) ?_
                                          refine va_get (D := D) (ci := 6) (v := .ref h1) (C := RX6) (T := TX6) (N := 3) hx hb hts hin6 hown hK hP 0 rfl rfl 0 (by decide) (hts (.fieldLink RX6 9 "MissedPoints$Sheet" "numbers" "[I") (by decide +kernel)) (fun _ h9 => h9) rfl dX6_become_28 ?_
                                          refine lv_iload_n hx hb dX6_become_31 rfl (lv_at hl 0 rfl) ?_
                                          refine lv_iconst (v := 0) hx hb dX6_become_32 (by decide) ?_
                                          refine lz_astc hx hb hK hP hD hS 1 0 rfl rfl (lz_vp (x := 19) (n := 40) (by decide) (by decide)) dX6_become_33 (fun H locs hP hD hS => ?_)
                                          refine lv_iinc (v := 20) (lv' := [(3, .int 20), (0, .ref h0), (1, .int (-1)), (2, .int 0)]) hx hb dX6_become_34 hl (k := 0) rfl (by decide) (by decide) rfl (fun ls hl => ?_)
                                          refine lv_goto (tgt := 21) hx hb dX6_become_37 (by decide) ?_
                                          refine lv_iload_n hx hb dX6_become_21 rfl (lv_at hl 0 rfl) ?_
                                          refine lv_bipush (v := 40) hx hb dX6_become_22 (by decide) ?_
                                          refine lv_icmp_ge (tgt := 40) hx hb dX6_become_24 (by decide) (fun c2181 => ?_) (fun c2181 => ?_)
                                          · exact absurd c2181 (by decide)
                                          · refine lv_aload_n hx hb dX6_become_27 rfl (lv_at hl 1 rfl) ?_
                                            refine va_get (D := D) (ci := 6) (v := .ref h1) (C := RX6) (T := TX6) (N := 3) hx hb hts hin6 hown hK hP 0 rfl rfl 0 (by decide) (hts (.fieldLink RX6 9 "MissedPoints$Sheet" "numbers" "[I") (by decide +kernel)) (fun _ h9 => h9) rfl dX6_become_28 ?_
                                            refine lv_iload_n hx hb dX6_become_31 rfl (lv_at hl 0 rfl) ?_
                                            refine lv_iconst (v := 0) hx hb dX6_become_32 (by decide) ?_
                                            refine lz_astc hx hb hK hP hD hS 1 0 rfl rfl (lz_vp (x := 20) (n := 40) (by decide) (by decide)) dX6_become_33 (fun H locs hP hD hS => ?_)
                                            refine lv_iinc (v := 21) (lv' := [(3, .int 21), (0, .ref h0), (1, .int (-1)), (2, .int 0)]) hx hb dX6_become_34 hl (k := 0) rfl (by decide) (by decide) rfl (fun ls hl => ?_)
                                            refine lv_goto (tgt := 21) hx hb dX6_become_37 (by decide) ?_
                                            refine lv_iload_n hx hb dX6_become_21 rfl (lv_at hl 0 rfl) ?_
                                            refine lv_bipush (v := 40) hx hb dX6_become_22 (by decide) ?_
                                            refine lv_icmp_ge (tgt := 40) hx hb dX6_become_24 (by decide) (fun c2182 => ?_) (fun c2182 => ?_)
                                            · exact absurd c2182 (by decide)
                                            · refine lv_aload_n hx hb dX6_become_27 rfl (lv_at hl 1 rfl) ?_
                                              refine va_get (D := D) (ci := 6) (v := .ref h1) (C := RX6) (T := TX6) (N := 3) hx hb hts hin6 hown hK hP 0 rfl rfl 0 (by decide) (hts (.fieldLink RX6 9 "MissedPoints$Sheet" "numbers" "[I") (by decide +kernel)) (fun _ h9 => h9) rfl dX6_become_28 ?_
                                              refine lv_iload_n hx hb dX6_become_31 rfl (lv_at hl 0 rfl) ?_
                                              refine lv_iconst (v := 0) hx hb dX6_become_32 (by decide) ?_
                                              refine lz_astc hx hb hK hP hD hS 1 0 rfl rfl (lz_vp (x := 21) (n := 40) (by decide) (by decide)) dX6_become_33 (fun H locs hP hD hS => ?_)
                                              refine lv_iinc (v := 22) (lv' := [(3, .int 22), (0, .ref h0), (1, .int (-1)), (2, .int 0)]) hx hb dX6_become_34 hl (k := 0) rfl (by decide) (by decide) rfl (fun ls hl => ?_)
                                              refine lv_goto (tgt := 21) hx hb dX6_become_37 (by decide) ?_
                                              refine lv_iload_n hx hb dX6_become_21 rfl (lv_at hl 0 rfl) ?_
                                              refine lv_bipush (v := 40) hx hb dX6_become_22 (by decide) ?_
                                              refine lv_icmp_ge (tgt := 40) hx hb dX6_become_24 (by decide) (fun c2183 => ?_) (fun c2183 => ?_)
                                              · exact absurd c2183 (by decide)
                                              · refine lv_aload_n hx hb dX6_become_27 rfl (lv_at hl 1 rfl) ?_
                                                refine va_get (D := D) (ci := 6) (v := .ref h1) (C := RX6) (T := TX6) (N := 3) hx hb hts hin6 hown hK hP 0 rfl rfl 0 (by decide) (hts (.fieldLink RX6 9 "MissedPoints$Sheet" "numbers" "[I") (by decide +kernel)) (fun _ h9 => h9) rfl dX6_become_28 ?_
                                                refine lv_iload_n hx hb dX6_become_31 rfl (lv_at hl 0 rfl) ?_
                                                refine lv_iconst (v := 0) hx hb dX6_become_32 (by decide) ?_
                                                refine lz_astc hx hb hK hP hD hS 1 0 rfl rfl (lz_vp (x := 22) (n := 40) (by decide) (by decide)) dX6_become_33 (fun H locs hP hD hS => ?_)
                                                refine lv_iinc (v := 23) (lv' := [(3, .int 23), (0, .ref h0), (1, .int (-1)), (2, .int 0)]) hx hb dX6_become_34 hl (k := 0) rfl (by decide) (by decide) rfl (fun ls hl => ?_)
                                                refine lv_goto (tgt := 21) hx hb dX6_become_37 (by decide) ?_
                                                refine lv_iload_n hx hb dX6_become_21 rfl (lv_at hl 0 rfl) ?_
                                                refine lv_bipush (v := 40) hx hb dX6_become_22 (by decide) ?_
                                                refine lv_icmp_ge (tgt := 40) hx hb dX6_become_24 (by decide) (fun c2184 => ?_) (fun c2184 => ?_)
                                                · exact absurd c2184 (by decide)
                                                · refine lv_aload_n hx hb dX6_become_27 rfl (lv_at hl 1 rfl) ?_
                                                  refine va_get (D := D) (ci := 6) (v := .ref h1) (C := RX6) (T := TX6) (N := 3) hx hb hts hin6 hown hK hP 0 rfl rfl 0 (by decide) (hts (.fieldLink RX6 9 "MissedPoints$Sheet" "numbers" "[I") (by decide +kernel)) (fun _ h9 => h9) rfl dX6_become_28 ?_
                                                  refine lv_iload_n hx hb dX6_become_31 rfl (lv_at hl 0 rfl) ?_
                                                  refine lv_iconst (v := 0) hx hb dX6_become_32 (by decide) ?_
                                                  refine lz_astc hx hb hK hP hD hS 1 0 rfl rfl (lz_vp (x := 23) (n := 40) (by decide) (by decide)) dX6_become_33 (fun H locs hP hD hS => ?_)
                                                  refine lv_iinc (v := 24) (lv' := [(3, .int 24), (0, .ref h0), (1, .int (-1)), (2, .int 0)]) hx hb dX6_become_34 hl (k := 0) rfl (by decide) (by decide) rfl (fun ls hl => ?_)
                                                  refine lv_goto (tgt := 21) hx hb dX6_become_37 (by decide) ?_
                                                  refine lv_iload_n hx hb dX6_become_21 rfl (lv_at hl 0 rfl) ?_
                                                  refine lv_bipush (v := 40) hx hb dX6_become_22 (by decide) ?_
                                                  refine lv_icmp_ge (tgt := 40) hx hb dX6_become_24 (by decide) (fun c2185 => ?_) (fun c2185 => ?_)
                                                  · exact absurd c2185 (by decide)
                                                  · refine lv_aload_n hx hb dX6_become_27 rfl (lv_at hl 1 rfl) ?_
                                                    refine va_get (D := D) (ci := 6) (v := .ref h1) (C := RX6) (T := TX6) (N := 3) hx hb hts hin6 hown hK hP 0 rfl rfl 0 (by decide) (hts (.fieldLink RX6 9 "MissedPoints$Sheet" "numbers" "[I") (by decide +kernel)) (fun _ h9 => h9) rfl dX6_become_28 ?_
                                                    refine lv_iload_n hx hb dX6_become_31 rfl (lv_at hl 0 rfl) ?_
                                                    refine lv_iconst (v := 0) hx hb dX6_become_32 (by decide) ?_
                                                    refine lz_astc hx hb hK hP hD hS 1 0 rfl rfl (lz_vp (x := 24) (n := 40) (by decide) (by decide)) dX6_become_33 (fun H locs hP hD hS => ?_)
                                                    refine lv_iinc (v := 25) (lv' := [(3, .int 25), (0, .ref h0), (1, .int (-1)), (2, .int 0)]) hx hb dX6_become_34 hl (k := 0) rfl (by decide) (by decide) rfl (fun ls hl => ?_)
                                                    refine lv_goto (tgt := 21) hx hb dX6_become_37 (by decide) ?_
                                                    refine lv_iload_n hx hb dX6_become_21 rfl (lv_at hl 0 rfl) ?_
                                                    refine lv_bipush (v := 40) hx hb dX6_become_22 (by decide) ?_
                                                    refine lv_icmp_ge (tgt := 40) hx hb dX6_become_24 (by decide) (fun c2186 => ?_) (fun c2186 => ?_)
                                                    · exact absurd c2186 (by decide)
                                                    · refine lv_aload_n hx hb dX6_become_27 rfl (lv_at hl 1 rfl) ?_
                                                      refine va_get (D := D) (ci := 6) (v := .ref h1) (C := RX6) (T := TX6) (N := 3) hx hb hts hin6 hown hK hP 0 rfl rfl 0 (by decide) (hts (.fieldLink RX6 9 "MissedPoints$Sheet" "numbers" "[I") (by decide +kernel)) (fun _ h9 => h9) rfl dX6_become_28 ?_
                                                      refine lv_iload_n hx hb dX6_become_31 rfl (lv_at hl 0 rfl) ?_
                                                      refine lv_iconst (v := 0) hx hb dX6_become_32 (by decide) ?_
                                                      refine lz_astc hx hb hK hP hD hS 1 0 rfl rfl (lz_vp (x := 25) (n := 40) (by decide) (by decide)) dX6_become_33 (fun H locs hP hD hS => ?_)
                                                      refine lv_iinc (v := 26) (lv' := [(3, .int 26), (0, .ref h0), (1, .int (-1)), (2, .int 0)]) hx hb dX6_become_34 hl (k := 0) rfl (by decide) (by decide) rfl (fun ls hl => ?_)
                                                      refine lv_goto (tgt := 21) hx hb dX6_become_37 (by decide) ?_
                                                      refine lv_iload_n hx hb dX6_become_21 rfl (lv_at hl 0 rfl) ?_
                                                      refine lv_bipush (v := 40) hx hb dX6_become_22 (by decide) ?_
                                                      refine lv_icmp_ge (tgt := 40) hx hb dX6_become_24 (by decide) (fun c2187 => ?_) (fun c2187 => ?_)
                                                      · exact absurd c2187 (by decide)
                                                      · refine lv_aload_n hx hb dX6_become_27 rfl (lv_at hl 1 rfl) ?_
                                                        refine va_get (D := D) (ci := 6) (v := .ref h1) (C := RX6) (T := TX6) (N := 3) hx hb hts hin6 hown hK hP 0 rfl rfl 0 (by decide) (hts (.fieldLink RX6 9 "MissedPoints$Sheet" "numbers" "[I") (by decide +kernel)) (fun _ h9 => h9) rfl dX6_become_28 ?_
                                                        refine lv_iload_n hx hb dX6_become_31 rfl (lv_at hl 0 rfl) ?_
                                                        refine lv_iconst (v := 0) hx hb dX6_become_32 (by decide) ?_
                                                        refine lz_astc hx hb hK hP hD hS 1 0 rfl rfl (lz_vp (x := 26) (n := 40) (by decide) (by decide)) dX6_become_33 (fun H locs hP hD hS => ?_)
                                                        refine lv_iinc (v := 27) (lv' := [(3, .int 27), (0, .ref h0), (1, .int (-1)), (2, .int 0)]) hx hb dX6_become_34 hl (k := 0) rfl (by decide) (by decide) rfl (fun ls hl => ?_)
                                                        refine lv_goto (tgt := 21) hx hb dX6_become_37 (by decide) ?_
                                                        refine lv_iload_n hx hb dX6_become_21 rfl (lv_at hl 0 rfl) ?_
                                                        refine lv_bipush (v := 40) hx hb dX6_become_22 (by decide) ?_
                                                        refine lv_icmp_ge (tgt := 40) hx hb dX6_become_24 (by decide) (fun c2188 => ?_) (fun c2188 => ?_)
                                                        · exact absurd c2188 (by decide)
                                                        · refine lv_aload_n hx hb dX6_become_27 rfl (lv_at hl 1 rfl) ?_
                                                          refine va_get (D := D) (ci := 6) (v := .ref h1) (C := RX6) (T := TX6) (N := 3) hx hb hts hin6 hown hK hP 0 rfl rfl 0 (by decide) (hts (.fieldLink RX6 9 "MissedPoints$Sheet" "numbers" "[I") (by decide +kernel)) (fun _ h9 => h9) rfl dX6_become_28 ?_
                                                          refine lv_iload_n hx hb dX6_become_31 rfl (lv_at hl 0 rfl) ?_
                                                          refine lv_iconst (v := 0) hx hb dX6_become_32 (by decide) ?_
                                                          refine lz_astc hx hb hK hP hD hS 1 0 rfl rfl (lz_vp (x := 27) (n := 40) (by decide) (by decide)) dX6_become_33 (fun H locs hP hD hS => ?_)
                                                          refine lv_iinc (v := 28) (lv' := [(3, .int 28), (0, .ref h0), (1, .int (-1)), (2, .int 0)]) hx hb dX6_become_34 hl (k := 0) rfl (by decide) (by decide) rfl (fun ls hl => ?_)
                                                          refine lv_goto (tgt := 21) hx hb dX6_become_37 (by decide) ?_
                                                          refine lv_iload_n hx hb dX6_become_21 rfl (lv_at hl 0 rfl) ?_
                                                          refine lv_bipush (v := 40) hx hb dX6_become_22 (by decide) ?_
                                                          refine lv_icmp_ge (tgt := 40) hx hb dX6_become_24 (by decide) (fun c2189 => ?_) (fun c2189 => ?_)
                                                          · exact absurd c2189 (by decide)
                                                          · refine lv_aload_n hx hb dX6_become_27 rfl (lv_at hl 1 rfl) ?_
                                                            refine va_get (D := D) (ci := 6) (v := .ref h1) (C := RX6) (T := TX6) (N := 3) hx hb hts hin6 hown hK hP 0 rfl rfl 0 (by decide) (hts (.fieldLink RX6 9 "MissedPoints$Sheet" "numbers" "[I") (by decide +kernel)) (fun _ h9 => h9) rfl dX6_become_28 ?_
                                                            refine lv_iload_n hx hb dX6_become_31 rfl (lv_at hl 0 rfl) ?_
                                                            refine lv_iconst (v := 0) hx hb dX6_become_32 (by decide) ?_
                                                            refine lz_astc hx hb hK hP hD hS 1 0 rfl rfl (lz_vp (x := 28) (n := 40) (by decide) (by decide)) dX6_become_33 (fun H locs hP hD hS => ?_)
                                                            refine lv_iinc (v := 29) (lv' := [(3, .int 29), (0, .ref h0), (1, .int (-1)), (2, .int 0)]) hx hb dX6_become_34 hl (k := 0) rfl (by decide) (by decide) rfl (fun ls hl => ?_)
                                                            refine lv_goto (tgt := 21) hx hb dX6_become_37 (by decide) ?_
                                                            refine lv_iload_n hx hb dX6_become_21 rfl (lv_at hl 0 rfl) ?_
                                                            refine lv_bipush (v := 40) hx hb dX6_become_22 (by decide) ?_
                                                            refine lv_icmp_ge (tgt := 40) hx hb dX6_become_24 (by decide) (fun c2190 => ?_) (fun c2190 => ?_)
                                                            · exact absurd c2190 (by decide)
                                                            · refine lv_aload_n hx hb dX6_become_27 rfl (lv_at hl 1 rfl) ?_
                                                              refine va_get (D := D) (ci := 6) (v := .ref h1) (C := RX6) (T := TX6) (N := 3) hx hb hts hin6 hown hK hP 0 rfl rfl 0 (by decide) (hts (.fieldLink RX6 9 "MissedPoints$Sheet" "numbers" "[I") (by decide +kernel)) (fun _ h9 => h9) rfl dX6_become_28 ?_
                                                              refine lv_iload_n hx hb dX6_become_31 rfl (lv_at hl 0 rfl) ?_
                                                              refine lv_iconst (v := 0) hx hb dX6_become_32 (by decide) ?_
                                                              refine lz_astc hx hb hK hP hD hS 1 0 rfl rfl (lz_vp (x := 29) (n := 40) (by decide) (by decide)) dX6_become_33 (fun H locs hP hD hS => ?_)
                                                              refine lv_iinc (v := 30) (lv' := [(3, .int 30), (0, .ref h0), (1, .int (-1)), (2, .int 0)]) hx hb dX6_become_34 hl (k := 0) rfl (by decide) (by decide) rfl (fun ls hl => ?_)
                                                              refine lv_goto (tgt := 21) hx hb dX6_become_37 (by decide) ?_
                                                              refine lv_iload_n hx hb dX6_become_21 rfl (lv_at hl 0 rfl) ?_
                                                              refine lv_bipush (v := 40) hx hb dX6_become_22 (by decide) ?_
                                                              refine lv_icmp_ge (tgt := 40) hx hb dX6_become_24 (by decide) (fun c2191 => ?_) (fun c2191 => ?_)
                                                              · exact absurd c2191 (by decide)
                                                              · refine lv_aload_n hx hb dX6_become_27 rfl (lv_at hl 1 rfl) ?_
                                                                refine va_get (D := D) (ci := 6) (v := .ref h1) (C := RX6) (T := TX6) (N := 3) hx hb hts hin6 hown hK hP 0 rfl rfl 0 (by decide) (hts (.fieldLink RX6 9 "MissedPoints$Sheet" "numbers" "[I") (by decide +kernel)) (fun _ h9 => h9) rfl dX6_become_28 ?_
                                                                refine lv_iload_n hx hb dX6_become_31 rfl (lv_at hl 0 rfl) ?_
                                                                refine lv_iconst (v := 0) hx hb dX6_become_32 (by decide) ?_
                                                                refine lz_astc hx hb hK hP hD hS 1 0 rfl rfl (lz_vp (x := 30) (n := 40) (by decide) (by decide)) dX6_become_33 (fun H locs hP hD hS => ?_)
                                                                refine lv_iinc (v := 31) (lv' := [(3, .int 31), (0, .ref h0), (1, .int (-1)), (2, .int 0)]) hx hb dX6_become_34 hl (k := 0) rfl (by decide) (by decide) rfl (fun ls hl => ?_)
                                                                refine lv_goto (tgt := 21) hx hb dX6_become_37 (by decide) ?_
                                                                refine lv_iload_n hx hb dX6_become_21 rfl (lv_at hl 0 rfl) ?_
                                                                refine lv_bipush (v := 40) hx hb dX6_become_22 (by decide) ?_
                                                                refine lv_icmp_ge (tgt := 40) hx hb dX6_become_24 (by decide) (fun c2192 => ?_) (fun c2192 => ?_)
                                                                · exact absurd c2192 (by decide)
                                                                · refine lv_aload_n hx hb dX6_become_27 rfl (lv_at hl 1 rfl) ?_
                                                                  refine va_get (D := D) (ci := 6) (v := .ref h1) (C := RX6) (T := TX6) (N := 3) hx hb hts hin6 hown hK hP 0 rfl rfl 0 (by decide) (hts (.fieldLink RX6 9 "MissedPoints$Sheet" "numbers" "[I") (by decide +kernel)) (fun _ h9 => h9) rfl dX6_become_28 ?_
                                                                  refine lv_iload_n hx hb dX6_become_31 rfl (lv_at hl 0 rfl) ?_
                                                                  refine lv_iconst (v := 0) hx hb dX6_become_32 (by decide) ?_
                                                                  refine lz_astc hx hb hK hP hD hS 1 0 rfl rfl (lz_vp (x := 31) (n := 40) (by decide) (by decide)) dX6_become_33 (fun H locs hP hD hS => ?_)
                                                                  refine lv_iinc (v := 32) (lv' := [(3, .int 32), (0, .ref h0), (1, .int (-1)), (2, .int 0)]) hx hb dX6_become_34 hl (k := 0) rfl (by decide) (by decide) rfl (fun ls hl => ?_)
                                                                  refine lv_goto (tgt := 21) hx hb dX6_become_37 (by decide) ?_
                                                                  refine lv_iload_n hx hb dX6_become_21 rfl (lv_at hl 0 rfl) ?_
                                                                  refine lv_bipush (v := 40) hx hb dX6_become_22 (by decide) ?_
                                                                  refine lv_icmp_ge (tgt := 40) hx hb dX6_become_24 (by decide) (fun c2193 => ?_) (fun c2193 => ?_)
                                                                  · exact absurd c2193 (by decide)
                                                                  · refine lv_aload_n hx hb dX6_become_27 rfl (lv_at hl 1 rfl) ?_
                                                                    refine va_get (D := D) (ci := 6) (v := .ref h1) (C := RX6) (T := TX6) (N := 3) hx hb hts hin6 hown hK hP 0 rfl rfl 0 (by decide) (hts (.fieldLink RX6 9 "MissedPoints$Sheet" "numbers" "[I") (by decide +kernel)) (fun _ h9 => h9) rfl dX6_become_28 ?_
                                                                    refine lv_iload_n hx hb dX6_become_31 rfl (lv_at hl 0 rfl) ?_
                                                                    refine lv_iconst (v := 0) hx hb dX6_become_32 (by decide) ?_
                                                                    refine lz_astc hx hb hK hP hD hS 1 0 rfl rfl (lz_vp (x := 32) (n := 40) (by decide) (by decide)) dX6_become_33 (fun H locs hP hD hS => ?_)
                                                                    refine lv_iinc (v := 33) (lv' := [(3, .int 33), (0, .ref h0), (1, .int (-1)), (2, .int 0)]) hx hb dX6_become_34 hl (k := 0) rfl (by decide) (by decide) rfl (fun ls hl => ?_)
                                                                    refine lv_goto (tgt := 21) hx hb dX6_become_37 (by decide) ?_
                                                                    refine lv_iload_n hx hb dX6_become_21 rfl (lv_at hl 0 rfl) ?_
                                                                    refine lv_bipush (v := 40) hx hb dX6_become_22 (by decide) ?_
                                                                    refine lv_icmp_ge (tgt := 40) hx hb dX6_become_24 (by decide) (fun c2194 => ?_) (fun c2194 => ?_)
                                                                    · exact absurd c2194 (by decide)
                                                                    · refine lv_aload_n hx hb dX6_become_27 rfl (lv_at hl 1 rfl) ?_
                                                                      refine va_get (D := D) (ci := 6) (v := .ref h1) (C := RX6) (T := TX6) (N := 3) hx hb hts hin6 hown hK hP 0 rfl rfl 0 (by decide) (hts (.fieldLink RX6 9 "MissedPoints$Sheet" "numbers" "[I") (by decide +kernel)) (fun _ h9 => h9) rfl dX6_become_28 ?_
                                                                      refine lv_iload_n hx hb dX6_become_31 rfl (lv_at hl 0 rfl) ?_
                                                                      refine lv_iconst (v := 0) hx hb dX6_become_32 (by decide) ?_
                                                                      refine lz_astc hx hb hK hP hD hS 1 0 rfl rfl (lz_vp (x := 33) (n := 40) (by decide) (by decide)) dX6_become_33 (fun H locs hP hD hS => ?_)
                                                                      refine lv_iinc (v := 34) (lv' := [(3, .int 34), (0, .ref h0), (1, .int (-1)), (2, .int 0)]) hx hb dX6_become_34 hl (k := 0) rfl (by decide) (by decide) rfl (fun ls hl => ?_)
                                                                      refine lv_goto (tgt := 21) hx hb dX6_become_37 (by decide) ?_
                                                                      refine lv_iload_n hx hb dX6_become_21 rfl (lv_at hl 0 rfl) ?_
                                                                      refine lv_bipush (v := 40) hx hb dX6_become_22 (by decide) ?_
                                                                      refine lv_icmp_ge (tgt := 40) hx hb dX6_become_24 (by decide) (fun c2195 => ?_) (fun c2195 => ?_)
                                                                      · exact absurd c2195 (by decide)
                                                                      · refine lv_aload_n hx hb dX6_become_27 rfl (lv_at hl 1 rfl) ?_
                                                                        refine va_get (D := D) (ci := 6) (v := .ref h1) (C := RX6) (T := TX6) (N := 3) hx hb hts hin6 hown hK hP 0 rfl rfl 0 (by decide) (hts (.fieldLink RX6 9 "MissedPoints$Sheet" "numbers" "[I") (by decide +kernel)) (fun _ h9 => h9) rfl dX6_become_28 ?_
                                                                        refine lv_iload_n hx hb dX6_become_31 rfl (lv_at hl 0 rfl) ?_
                                                                        refine lv_iconst (v := 0) hx hb dX6_become_32 (by decide) ?_
                                                                        refine lz_astc hx hb hK hP hD hS 1 0 rfl rfl (lz_vp (x := 34) (n := 40) (by decide) (by decide)) dX6_become_33 (fun H locs hP hD hS => ?_)
                                                                        refine lv_iinc (v := 35) (lv' := [(3, .int 35), (0, .ref h0), (1, .int (-1)), (2, .int 0)]) hx hb dX6_become_34 hl (k := 0) rfl (by decide) (by decide) rfl (fun ls hl => ?_)
                                                                        refine lv_goto (tgt := 21) hx hb dX6_become_37 (by decide) ?_
                                                                        refine lv_iload_n hx hb dX6_become_21 rfl (lv_at hl 0 rfl) ?_
                                                                        refine lv_bipush (v := 40) hx hb dX6_become_22 (by decide) ?_
                                                                        refine lv_icmp_ge (tgt := 40) hx hb dX6_become_24 (by decide) (fun c2196 => ?_) (fun c2196 => ?_)
                                                                        · exact absurd c2196 (by decide)
                                                                        · refine lv_aload_n hx hb dX6_become_27 rfl (lv_at hl 1 rfl) ?_
                                                                          refine va_get (D := D) (ci := 6) (v := .ref h1) (C := RX6) (T := TX6) (N := 3) hx hb hts hin6 hown hK hP 0 rfl rfl 0 (by decide) (hts (.fieldLink RX6 9 "MissedPoints$Sheet" "numbers" "[I") (by decide +kernel)) (fun _ h9 => h9) rfl dX6_become_28 ?_
                                                                          refine lv_iload_n hx hb dX6_become_31 rfl (lv_at hl 0 rfl) ?_
                                                                          refine lv_iconst (v := 0) hx hb dX6_become_32 (by decide) ?_
                                                                          refine lz_astc hx hb hK hP hD hS 1 0 rfl rfl (lz_vp (x := 35) (n := 40) (by decide) (by decide)) dX6_become_33 (fun H locs hP hD hS => ?_)
                                                                          refine lv_iinc (v := 36) (lv' := [(3, .int 36), (0, .ref h0), (1, .int (-1)), (2, .int 0)]) hx hb dX6_become_34 hl (k := 0) rfl (by decide) (by decide) rfl (fun ls hl => ?_)
                                                                          refine lv_goto (tgt := 21) hx hb dX6_become_37 (by decide) ?_
                                                                          refine lv_iload_n hx hb dX6_become_21 rfl (lv_at hl 0 rfl) ?_
                                                                          refine lv_bipush (v := 40) hx hb dX6_become_22 (by decide) ?_
                                                                          refine lv_icmp_ge (tgt := 40) hx hb dX6_become_24 (by decide) (fun c2197 => ?_) (fun c2197 => ?_)
                                                                          · exact absurd c2197 (by decide)
                                                                          · refine lv_aload_n hx hb dX6_become_27 rfl (lv_at hl 1 rfl) ?_
                                                                            refine va_get (D := D) (ci := 6) (v := .ref h1) (C := RX6) (T := TX6) (N := 3) hx hb hts hin6 hown hK hP 0 rfl rfl 0 (by decide) (hts (.fieldLink RX6 9 "MissedPoints$Sheet" "numbers" "[I") (by decide +kernel)) (fun _ h9 => h9) rfl dX6_become_28 ?_
                                                                            refine lv_iload_n hx hb dX6_become_31 rfl (lv_at hl 0 rfl) ?_
                                                                            refine lv_iconst (v := 0) hx hb dX6_become_32 (by decide) ?_
                                                                            refine lz_astc hx hb hK hP hD hS 1 0 rfl rfl (lz_vp (x := 36) (n := 40) (by decide) (by decide)) dX6_become_33 (fun H locs hP hD hS => ?_)
                                                                            refine lv_iinc (v := 37) (lv' := [(3, .int 37), (0, .ref h0), (1, .int (-1)), (2, .int 0)]) hx hb dX6_become_34 hl (k := 0) rfl (by decide) (by decide) rfl (fun ls hl => ?_)
                                                                            refine lv_goto (tgt := 21) hx hb dX6_become_37 (by decide) ?_
                                                                            refine lv_iload_n hx hb dX6_become_21 rfl (lv_at hl 0 rfl) ?_
                                                                            refine lv_bipush (v := 40) hx hb dX6_become_22 (by decide) ?_
                                                                            refine lv_icmp_ge (tgt := 40) hx hb dX6_become_24 (by decide) (fun c2198 => ?_) (fun c2198 => ?_)
                                                                            · exact absurd c2198 (by decide)
                                                                            · refine lv_aload_n hx hb dX6_become_27 rfl (lv_at hl 1 rfl) ?_
                                                                              refine va_get (D := D) (ci := 6) (v := .ref h1) (C := RX6) (T := TX6) (N := 3) hx hb hts hin6 hown hK hP 0 rfl rfl 0 (by decide) (hts (.fieldLink RX6 9 "MissedPoints$Sheet" "numbers" "[I") (by decide +kernel)) (fun _ h9 => h9) rfl dX6_become_28 ?_
                                                                              refine lv_iload_n hx hb dX6_become_31 rfl (lv_at hl 0 rfl) ?_
                                                                              refine lv_iconst (v := 0) hx hb dX6_become_32 (by decide) ?_
                                                                              refine lz_astc hx hb hK hP hD hS 1 0 rfl rfl (lz_vp (x := 37) (n := 40) (by decide) (by decide)) dX6_become_33 (fun H locs hP hD hS => ?_)
                                                                              refine lv_iinc (v := 38) (lv' := [(3, .int 38), (0, .ref h0), (1, .int (-1)), (2, .int 0)]) hx hb dX6_become_34 hl (k := 0) rfl (by decide) (by decide) rfl (fun ls hl => ?_)
                                                                              refine lv_goto (tgt := 21) hx hb dX6_become_37 (by decide) ?_
                                                                              refine lv_iload_n hx hb dX6_become_21 rfl (lv_at hl 0 rfl) ?_
                                                                              refine lv_bipush (v := 40) hx hb dX6_become_22 (by decide) ?_
                                                                              refine lv_icmp_ge (tgt := 40) hx hb dX6_become_24 (by decide) (fun c2199 => ?_) (fun c2199 => ?_)
                                                                              · exact absurd c2199 (by decide)
                                                                              · refine lv_aload_n hx hb dX6_become_27 rfl (lv_at hl 1 rfl) ?_
                                                                                refine va_get (D := D) (ci := 6) (v := .ref h1) (C := RX6) (T := TX6) (N := 3) hx hb hts hin6 hown hK hP 0 rfl rfl 0 (by decide) (hts (.fieldLink RX6 9 "MissedPoints$Sheet" "numbers" "[I") (by decide +kernel)) (fun _ h9 => h9) rfl dX6_become_28 ?_
                                                                                refine lv_iload_n hx hb dX6_become_31 rfl (lv_at hl 0 rfl) ?_
                                                                                refine lv_iconst (v := 0) hx hb dX6_become_32 (by decide) ?_
                                                                                refine lz_astc hx hb hK hP hD hS 1 0 rfl rfl (lz_vp (x := 38) (n := 40) (by decide) (by decide)) dX6_become_33 (fun H locs hP hD hS => ?_)
                                                                                refine lv_iinc (v := 39) (lv' := [(3, .int 39), (0, .ref h0), (1, .int (-1)), (2, .int 0)]) hx hb dX6_become_34 hl (k := 0) rfl (by decide) (by decide) rfl (fun ls hl => ?_)
                                                                                refine lv_goto (tgt := 21) hx hb dX6_become_37 (by decide) ?_
                                                                                refine lv_iload_n hx hb dX6_become_21 rfl (lv_at hl 0 rfl) ?_
                                                                                refine lv_bipush (v := 40) hx hb dX6_become_22 (by decide) ?_
                                                                                refine lv_icmp_ge (tgt := 40) hx hb dX6_become_24 (by decide) (fun c2200 => ?_) (fun c2200 => ?_)
                                                                                · exact absurd c2200 (by decide)
                                                                                · refine lv_aload_n hx hb dX6_become_27 rfl (lv_at hl 1 rfl) ?_
                                                                                  refine va_get (D := D) (ci := 6) (v := .ref h1) (C := RX6) (T := TX6) (N := 3) hx hb hts hin6 hown hK hP 0 rfl rfl 0 (by decide) (hts (.fieldLink RX6 9 "MissedPoints$Sheet" "numbers" "[I") (by decide +kernel)) (fun _ h9 => h9) rfl dX6_become_28 ?_
                                                                                  refine lv_iload_n hx hb dX6_become_31 rfl (lv_at hl 0 rfl) ?_
                                                                                  refine lv_iconst (v := 0) hx hb dX6_become_32 (by decide) ?_
                                                                                  refine lz_astc hx hb hK hP hD hS 1 0 rfl rfl (lz_vp (x := 39) (n := 40) (by decide) (by decide)) dX6_become_33 (fun H locs hP hD hS => ?_)
                                                                                  refine lv_iinc (v := 40) (lv' := [(3, .int 40), (0, .ref h0), (1, .int (-1)), (2, .int 0)]) hx hb dX6_become_34 hl (k := 0) rfl (by decide) (by decide) rfl (fun ls hl => ?_)
                                                                                  refine lv_goto (tgt := 21) hx hb dX6_become_37 (by decide) ?_
                                                                                  refine lv_iload_n hx hb dX6_become_21 rfl (lv_at hl 0 rfl) ?_
                                                                                  refine lv_bipush (v := 40) hx hb dX6_become_22 (by decide) ?_
                                                                                  refine lv_icmp_ge (tgt := 40) hx hb dX6_become_24 (by decide) (fun c2201 => ?_) (fun c2201 => ?_)
                                                                                  · have hP9 := hP.sub (ws' := [(h0, .inr (6, [.ref h1, .int (-1), .int 0])), (h1, .inl (cI, 40, .inl (fun _ => 0)))]) [0, 1] rfl
                                                                                    have hD9 := hD.sub (ws' := [(h0, .inr (6, [.ref h1, .int (-1), .int 0])), (h1, .inl (cI, 40, .inl (fun _ => 0)))]) [0, 1] (by decide) rfl
                                                                                    subst hAe
                                                                                    exact W.vret hx hb hr (fun t ht hW => ⟨⟨(), rfl, trivial, by rw [ht]; exact hP9, hD9⟩, hS.F ht⟩) hS.2.2 dX6_become_40
                                                                                  · exact absurd c2201 (by decide)
set_option maxHeartbeats 4000000 in
set_option maxRecDepth 100000 in
theorem c_X11_sheet_0 (l : Launch) (D : va_G) (cI cS : ClassId) (sz : Nat) (h0 h1 h2 h3 h4 h5 h6 h7 h8 h9 h10 h11 h12 h13 h14 h25 h26 h27 h28 h41 h42 h43 h44 : Nat) (x0 x1 x2 : Int32) : Met l yX11_sheet wsX11_sheet ({ frames := 2, cells := 0, slots := 0, locals := 80 }) (PQ D cI cS [(h0, .inr (11, [.ref h1, .ref h2, .ref h3, .ref h4, .ref h5, .ref h6, .ref h7, .int 0, .int 0, .ref h8, .ref h9, .ref h10, .ref h11, .ref h12, .ref h13, .ref h14])), (h11, .inl (cS, 4, .inr (.inr (.inr (.inr (fun k => [h25, h26, h27, h28][k]?)))))), (h25, .inr (6, [.ref h41, .int (-1), .int 0])), (h26, .inr (6, [.ref h42, .int (-1), .int 0])), (h27, .inr (6, [.ref h43, .int (-1), .int 0])), (h28, .inr (6, [.ref h44, .int (-1), .int 0])), (h41, .inl (cI, 40, .inl (fun _ => 0))), (h42, .inl (cI, 40, .inl (fun _ => 0))), (h43, .inl (cI, 40, .inl (fun _ => 0))), (h44, .inl (cI, 40, .inl (fun _ => 0)))] sz [.ref h0, .int x0, .int x1, .int x2]) (QI D [(h0, .inr (11, [.ref h1, .ref h2, .ref h3, .ref h4, .ref h5, .ref h6, .ref h7, .int 0, .int 0, .ref h8, .ref h9, .ref h10, .ref h11, .ref h12, .ref h13, .ref h14])), (h11, .inl (cS, 4, .inr (.inr (.inr (.inr (fun k => [h25, h26, h27, h28][k]?)))))), (h25, .inr (6, [.ref h41, .int (-1), .int 0])), (h26, .inr (6, [.ref h42, .int (-1), .int 0])), (h27, .inr (6, [.ref h43, .int (-1), .int 0])), (h28, .inr (6, [.ref h44, .int (-1), .int 0])), (h41, .inl (cI, 40, .inl (fun _ => 0))), (h42, .inl (cI, 40, .inl (fun _ => 0))), (h43, .inl (cI, 40, .inl (fun _ => 0))), (h44, .inl (cI, 40, .inl (fun _ => 0)))] [] sz (fun r => r = if x0 < 0 then ((-2) : Int32) else (if (4 : Int32) ≤ x0 then ((-2) : Int32) else (if x1 = (-1) then (1 : Int32) else (if x1 = 0 then (if x2 ≤ 40 then (if (0 : Int32) ≤ x2 then (1 : Int32) else ((-14) : Int32)) else ((-2) : Int32)) else (if x1 = 1 then (if x2 ≤ 40 then (if (0 : Int32) ≤ x2 then (1 : Int32) else ((-14) : Int32)) else ((-2) : Int32)) else ((-2) : Int32))))))) 0 0 (va_A [(h0, .inr (11, [.ref h1, .ref h2, .ref h3, .ref h4, .ref h5, .ref h6, .ref h7, .int 0, .int 0, .ref h8, .ref h9, .ref h10, .ref h11, .ref h12, .ref h13, .ref h14])), (h11, .inl (cS, 4, .inr (.inr (.inr (.inr (fun k => [h25, h26, h27, h28][k]?)))))), (h25, .inr (6, [.ref h41, .int (-1), .int 0])), (h26, .inr (6, [.ref h42, .int (-1), .int 0])), (h27, .inr (6, [.ref h43, .int (-1), .int 0])), (h28, .inr (6, [.ref h44, .int (-1), .int 0])), (h41, .inl (cI, 40, .inl (fun _ => 0))), (h42, .inl (cI, 40, .inl (fun _ => 0))), (h43, .inl (cI, 40, .inl (fun _ => 0))), (h44, .inl (cI, 40, .inl (fun _ => 0)))] sz) := by
  refine Met.ofW (cc := cX11_sheet) (maxL := 4) (ret := (some .int)) (by decide) rfl ?_
  intro p e s m args below meth c s₁ B hml hv
  obtain ⟨rfl, hsz, hP, hKK, hD0⟩ := hv
  have hx := B.exec
  have hb := B.bytes
  have hr := B.returns
  have hts := atoms_spec (ws := wsX11_sheet) B.pre
  have hown : s.vm.findClass RX11 = some m.cls := findClass_of_methodNamed B.named
  have hlocks := B.notSynchronized
  have hK := hKK.1
  have hN := hKK.2
  have hin11 : ∀ w ∈ wsX110, w ∈ wsX11_sheet := by decide +kernel
  subst hsz
  have hD := hD0.self (sz := s.heap.size)
  obtain ⟨A, hAe⟩ : ∃ A, A = va_A [(h0, .inr (11, [.ref h1, .ref h2, .ref h3, .ref h4, .ref h5, .ref h6, .ref h7, .int 0, .int 0, .ref h8, .ref h9, .ref h10, .ref h11, .ref h12, .ref h13, .ref h14])), (h11, .inl (cS, 4, .inr (.inr (.inr (.inr (fun k => [h25, h26, h27, h28][k]?)))))), (h25, .inr (6, [.ref h41, .int (-1), .int 0])), (h26, .inr (6, [.ref h42, .int (-1), .int 0])), (h27, .inr (6, [.ref h43, .int (-1), .int 0])), (h28, .inr (6, [.ref h44, .int (-1), .int 0])), (h41, .inl (cI, 40, .inl (fun _ => 0))), (h42, .inl (cI, 40, .inl (fun _ => 0))), (h43, .inl (cI, 40, .inl (fun _ => 0))), (h44, .inl (cI, 40, .inl (fun _ => 0)))] s.heap.size := ⟨_, rfl⟩
  rw [← hAe] at hD
  have hA : ∀ q : Nat, s.heap.size ≤ q → A q := fun q h => by rw [hAe]; exact Or.inr h
  have hS : va_S A s.heap s.heap [] := va_S.rf
  have hl := lv_entry ([.ref h0, .int x0, .int x1, .int x2]) (n := 4) (Nat.le_of_ble_eq_true rfl)
  rw [lg_entry_eq]
  generalize (lg_sl ([.ref h0, .int x0, .int x1, .int x2]) ++ List.replicate (4 - (lg_sl ([.ref h0, .int x0, .int x1, .int x2])).length) Slot.unset).toArray = ls at hl ⊢
  have hl : lv_has ls 4 [(0, .ref h0), (1, .int x0), (2, .int x1), (3, .int x2)] := hl
  refine lv_iload_n hx hb dX11_sheet_0 rfl (lv_at hl 1 rfl) ?_
  have hPc := hP.sub (ws' := []) [] rfl
  refine lz_ss (As := [.int x0]) (rest := []) ⟨hx, hb, hml, hown, hts⟩ (c_X11_isSheet_0 l D cI cS x0) hKK hPc (va_cwS 1 hts gX11_sheet_X11_isSheet rfl rfl rfl (by decide +kernel) ⟨Nat.le_of_ble_eq_true rfl, Nat.le_of_ble_eq_true rfl⟩) rfl hl.1 rfl (Nat.le_of_ble_eq_true rfl) dX11_sheet_1 ⟨Nat.le_of_ble_eq_true rfl, Nat.le_of_ble_eq_true rfl⟩ (fun r2047 hw => ?_)
  by_cases k2048 : x0 < 0
  · rw [if_pos k2048] at hw
    subst hw
    refine lv_if_ne (tgt := 10) hx hb dX11_sheet_4 (by decide) (fun c2049 => ?_) (fun c2049 => ?_)
    · exact absurd c2049 (by decide)
    · refine lv_bipush (v := (-2)) hx hb dX11_sheet_7 (by decide) ?_
      have hP9 := hP.sub (ws' := []) [] rfl
      have hD9 := hD.sub (ws' := []) [] (by decide) rfl
      subst hAe
      exact W.iret (v := (-2)) hx hb hr (fun t ht hW => ⟨⟨_, (), rfl, by rw [if_pos k2048], by rw [ht]; exact hP9, hD9⟩, hS.F ht⟩) hS.2.2 dX11_sheet_9
  · rw [if_neg k2048] at hw
    by_cases k2050 : (4 : Int32) ≤ x0
    · rw [if_pos k2050] at hw
      subst hw
      refine lv_if_ne (tgt := 10) hx hb dX11_sheet_4 (by decide) (fun c2051 => ?_) (fun c2051 => ?_)
      · exact absurd c2051 (by decide)
      · refine lv_bipush (v := (-2)) hx hb dX11_sheet_7 (by decide) ?_
        have hP9 := hP.sub (ws' := []) [] rfl
        have hD9 := hD.sub (ws' := []) [] (by decide) rfl
        subst hAe
        exact W.iret (v := (-2)) hx hb hr (fun t ht hW => ⟨⟨_, (), rfl, by rw [if_neg k2048, if_pos k2050], by rw [ht]; exact hP9, hD9⟩, hS.F ht⟩) hS.2.2 dX11_sheet_9
    · rw [if_neg k2050] at hw
      subst hw
      refine lv_if_ne (tgt := 10) hx hb dX11_sheet_4 (by decide) (fun c2052 => ?_) (fun c2052 => ?_)
      · refine lv_iload_n hx hb dX11_sheet_10 rfl (lv_at hl 2 rfl) ?_
        refine lv_iconst (v := (-1)) hx hb dX11_sheet_11 (by decide) ?_
        refine lv_icmp_ne (tgt := 28) hx hb dX11_sheet_12 (by decide) (fun c2053 => ?_) (fun c2053 => ?_)
        · refine lv_iload_n hx hb dX11_sheet_28 rfl (lv_at hl 2 rfl) ?_
          have hPc := hP.sub (ws' := []) [] rfl
          refine lz_ss (As := [.int x1]) (rest := []) ⟨hx, hb, hml, hown, hts⟩ (c_X11_isSort_0 l D cI cS x1) hKK hPc (va_cwS 1 hts gX11_sheet_X11_isSort rfl rfl rfl (by decide +kernel) ⟨Nat.le_of_ble_eq_true rfl, Nat.le_of_ble_eq_true rfl⟩) rfl hl.1 rfl (Nat.le_of_ble_eq_true rfl) dX11_sheet_29 ⟨Nat.le_of_ble_eq_true rfl, Nat.le_of_ble_eq_true rfl⟩ (fun r2054 hw => ?_)
          by_cases k2055 : x1 = 0
          · rw [if_pos k2055] at hw
            subst k2055
            subst hw
            refine lv_if_eq (tgt := 41) hx hb dX11_sheet_32 (by decide) (fun c2056 => ?_) (fun c2056 => ?_)
            · exact absurd c2056 (by decide)
            · refine lv_iload_n hx hb dX11_sheet_35 rfl (lv_at hl 3 rfl) ?_
              refine lv_bipush (v := 40) hx hb dX11_sheet_36 (by decide) ?_
              refine lv_icmp_le (tgt := 44) hx hb dX11_sheet_38 (by decide) (fun c2057 => ?_) (fun c2057 => ?_)
              · refine lv_iload_n hx hb dX11_sheet_44 rfl (lv_at hl 3 rfl) ?_
                refine lv_if_ge (tgt := 51) hx hb dX11_sheet_45 (by decide) (fun c2058 => ?_) (fun c2058 => ?_)
                · refine lv_aload_n hx hb dX11_sheet_51 rfl (lv_at hl 0 rfl) ?_
                  refine va_get (D := D) (ci := 11) (v := .ref h11) (C := RX11) (T := TX11) (N := 16) hx hb hts hin11 hown hK hP 0 rfl rfl 12 (by decide) (hts (.fieldLink RX11 75 "MissedPoints" "sheets" "[LMissedPoints$Sheet;") (by decide +kernel)) (fun _ h9 => h9) rfl dX11_sheet_52 ?_
                  refine lv_iload_n hx hb dX11_sheet_55 rfl (lv_at hl 1 rfl) ?_
                  by_cases k2059 : x0 = 0
                  · subst k2059
                    refine va_aldq hx hb hK hP 11 1 rfl rfl (lz_vp (x := 0) (n := 4) (by decide) (by decide)) dX11_sheet_56 ?_
                    refine lz_va (y := .ref h25) rfl ?_
                    refine lv_iload_n hx hb dX11_sheet_57 rfl (lv_at hl 2 rfl) ?_
                    refine lv_iload_n hx hb dX11_sheet_58 rfl (lv_at hl 3 rfl) ?_
                    have hPc := hP.sub (ws' := [(h25, .inr (6, [.ref h41, .int (-1), .int 0])), (h41, .inl (cI, 40, .inl (fun _ => 0)))]) [25, 41] rfl
                    have hDc := hD.sub (ws' := [(h25, .inr (6, [.ref h41, .int (-1), .int 0])), (h41, .inl (cI, 40, .inl (fun _ => 0)))]) [25, 41] (by decide) rfl
                    refine lz_qv (wr := [(h0, .inr (11, [.ref h1, .ref h2, .ref h3, .ref h4, .ref h5, .ref h6, .ref h7, .int 0, .int 0, .ref h8, .ref h9, .ref h10, .ref h11, .ref h12, .ref h13, .ref h14])), (h1, .inr (2, [.ref h15, .int 0, .int 0])), (h2, .inr (3, [.ref h1, .ref h16, .ref h17, .int 0])), (h3, .inr (4, [.ref h1, .ref h2])), (h4, .inr (10, [.ref h1, .ref h2, .ref h18, .int 0, .int 0, .int 0, .int 0, .int (-1)])), (h5, .inr (2, [.ref h19, .int 0, .int 0])), (h6, .inr (3, [.ref h5, .ref h20, .ref h21, .int 0])), (h7, .inr (2, [.ref h22, .int 0, .int 0])), (h8, .inr (0, [.int 1])), (h9, .inr (8, [.ref h23, .int 0])), (h10, .inr (5, [.ref h9, .ref h1, .ref h24, .int 0, .int 0, .int 0, .int 0, .int 0])), (h11, .inl (cS, 4, .inr (.inr (.inr (.inr (fun k => [h25, h26, h27, h28][k]?)))))), (h12, .inr (9, [.ref h1, .ref h2, .ref h29, .ref h30, .ref h31, .int 0])), (h13, .inr (9, [.ref h1, .ref h2, .ref h32, .ref h33, .ref h34, .int 0])), (h14, .inr (7, [.ref h35, .ref h36])), (h15, .inl (cI, 12, .inl (fun _ => 0))), (h16, .inr (1, [.ref h37, .int 1])), (h17, .inr (1, [.ref h38, .int 1])), (h18, .inl (cI, 5, .inl (fun _ => 0))), (h19, .inl (cI, 12, .inl (fun _ => 0))), (h20, .inr (1, [.ref h39, .int 1])), (h21, .inr (1, [.ref h40, .int 1])), (h22, .inl (cI, 12, .inl (fun _ => 0))), (h23, .inl (cI, 120, .inl (fun _ => 0))), (h24, .inl (cI, 12, .inl (fun _ => 0))), (h26, .inr (6, [.ref h42, .int (-1), .int 0])), (h27, .inr (6, [.ref h43, .int (-1), .int 0])), (h28, .inr (6, [.ref h44, .int (-1), .int 0])), (h29, .inl (cI, 12, .inl (fun _ => 0))), (h30, .inl (cI, 12, .inl (fun _ => 0))), (h31, .inl (cI, 12, .inl (fun _ => 0))), (h32, .inl (cI, 12, .inl (fun _ => 0))), (h33, .inl (cI, 12, .inl (fun _ => 0))), (h34, .inl (cI, 12, .inl (fun _ => 0))), (h35, .inl (cI, 4, .inl (fun _ => -1))), (h36, .inl (cI, 4, .inl (fun _ => 0))), (h37, .inl (cI, 4096, .inl (fun _ => 0))), (h38, .inl (cI, 0, .inl (fun _ => 0))), (h39, .inl (cI, 4096, .inl (fun _ => 0))), (h40, .inl (cI, 0, .inl (fun _ => 0))), (h42, .inl (cI, 40, .inl (fun _ => 0))), (h43, .inl (cI, 40, .inl (fun _ => 0))), (h44, .inl (cI, 40, .inl (fun _ => 0)))]) (w1 := [(h25, .inr (6, [.ref h41, .int 0, .int (if (0 : Int32) < (if (40 : Int32) < x2 then (40 : Int32) else x2) then (if (40 : Int32) < x2 then (40 : Int32) else x2) else (0 : Int32))])), (h41, .inl (cI, 40, .inl (fun _ => 0)))]) (As := [.int 0, .int x2]) (rest := []) ⟨hx, hb, hml, hown, hts⟩ (c_X6_become_2 l D cI cS H.size h25 h41 x2) hKK hP hD hS hA [25, 41] [0, 1, 2, 3, 4, 5, 6, 7, 8, 9, 10, 11, 12, 13, 14, 15, 16, 17, 18, 19, 20, 21, 22, 23, 24, 26, 27, 28, 29, 30, 31, 32, 33, 34, 35, 36, 37, 38, 39, 40, 42, 43, 44] (by decide) rfl rfl (by decide) (by decide) hPc hDc (ci := 6) rfl rfl (cwV 2 hts gX11_sheet_X6_become rfl rfl rfl (by decide +kernel) ⟨Nat.le_of_ble_eq_true rfl, Nat.le_of_ble_eq_true rfl⟩) rfl hl.1 rfl (Nat.le_of_ble_eq_true rfl) dX11_sheet_59 ⟨Nat.le_of_ble_eq_true rfl, Nat.le_of_ble_eq_true rfl⟩ (fun H locs hP hD hS => ?_)
                    have hP : va_P D cls [(h0, .inr (11, [.ref h1, .ref h2, .ref h3, .ref h4, .ref h5, .ref h6, .ref h7, .int 0, .int 0, .ref h8, .ref h9, .ref h10, .ref h11, .ref h12, .ref h13, .ref h14])), (h1, .inr (2, [.ref h15, .int 0, .int 0])), (h2, .inr (3, [.ref h1, .ref h16, .ref h17, .int 0])), (h3, .inr (4, [.ref h1, .ref h2])), (h4, .inr (10, [.ref h1, .ref h2, .ref h18, .int 0, .int 0, .int 0, .int 0, .int (-1)])), (h5, .inr (2, [.ref h19, .int 0, .int 0])), (h6, .inr (3, [.ref h5, .ref h20, .ref h21, .int 0])), (h7, .inr (2, [.ref h22, .int 0, .int 0])), (h8, .inr (0, [.int 1])), (h9, .inr (8, [.ref h23, .int 0])), (h10, .inr (5, [.ref h9, .ref h1, .ref h24, .int 0, .int 0, .int 0, .int 0, .int 0])), (h11, .inl (cS, 4, .inr (.inr (.inr (.inr (fun k => [h25, h26, h27, h28][k]?)))))), (h12, .inr (9, [.ref h1, .ref h2, .ref h29, .ref h30, .ref h31, .int 0])), (h13, .inr (9, [.ref h1, .ref h2, .ref h32, .ref h33, .ref h34, .int 0])), (h14, .inr (7, [.ref h35, .ref h36])), (h15, .inl (cI, 12, .inl (fun _ => 0))), (h16, .inr (1, [.ref h37, .int 1])), (h17, .inr (1, [.ref h38, .int 1])), (h18, .inl (cI, 5, .inl (fun _ => 0))), (h19, .inl (cI, 12, .inl (fun _ => 0))), (h20, .inr (1, [.ref h39, .int 1])), (h21, .inr (1, [.ref h40, .int 1])), (h22, .inl (cI, 12, .inl (fun _ => 0))), (h23, .inl (cI, 120, .inl (fun _ => 0))), (h24, .inl (cI, 12, .inl (fun _ => 0))), (h26, .inr (6, [.ref h42, .int (-1), .int 0])), (h27, .inr (6, [.ref h43, .int (-1), .int 0])), (h28, .inr (6, [.ref h44, .int (-1), .int 0])), (h29, .inl (cI, 12, .inl (fun _ => 0))), (h30, .inl (cI, 12, .inl (fun _ => 0))), (h31, .inl (cI, 12, .inl (fun _ => 0))), (h32, .inl (cI, 12, .inl (fun _ => 0))), (h33, .inl (cI, 12, .inl (fun _ => 0))), (h34, .inl (cI, 12, .inl (fun _ => 0))), (h35, .inl (cI, 4, .inl (fun _ => -1))), (h36, .inl (cI, 4, .inl (fun _ => 0))), (h37, .inl (cI, 4096, .inl (fun _ => 0))), (h38, .inl (cI, 0, .inl (fun _ => 0))), (h39, .inl (cI, 4096, .inl (fun _ => 0))), (h40, .inl (cI, 0, .inl (fun _ => 0))), (h42, .inl (cI, 40, .inl (fun _ => 0))), (h43, .inl (cI, 40, .inl (fun _ => 0))), (h44, .inl (cI, 40, .inl (fun _ => 0))), (h25, .inr (6, [.ref h41, .int 0, .int (if (0 : Int32) < (if (40 : Int32) < x2 then (40 : Int32) else x2) then (if (40 : Int32) < x2 then (40 : Int32) else x2) else (0 : Int32))])), (h41, .inl (cI, 40, .inl (fun _ => 0)))] H := hP
                    have hD : va_D A [(h0, .inr (11, [.ref h1, .ref h2, .ref h3, .ref h4, .ref h5, .ref h6, .ref h7, .int 0, .int 0, .ref h8, .ref h9, .ref h10, .ref h11, .ref h12, .ref h13, .ref h14])), (h1, .inr (2, [.ref h15, .int 0, .int 0])), (h2, .inr (3, [.ref h1, .ref h16, .ref h17, .int 0])), (h3, .inr (4, [.ref h1, .ref h2])), (h4, .inr (10, [.ref h1, .ref h2, .ref h18, .int 0, .int 0, .int 0, .int 0, .int (-1)])), (h5, .inr (2, [.ref h19, .int 0, .int 0])), (h6, .inr (3, [.ref h5, .ref h20, .ref h21, .int 0])), (h7, .inr (2, [.ref h22, .int 0, .int 0])), (h8, .inr (0, [.int 1])), (h9, .inr (8, [.ref h23, .int 0])), (h10, .inr (5, [.ref h9, .ref h1, .ref h24, .int 0, .int 0, .int 0, .int 0, .int 0])), (h11, .inl (cS, 4, .inr (.inr (.inr (.inr (fun k => [h25, h26, h27, h28][k]?)))))), (h12, .inr (9, [.ref h1, .ref h2, .ref h29, .ref h30, .ref h31, .int 0])), (h13, .inr (9, [.ref h1, .ref h2, .ref h32, .ref h33, .ref h34, .int 0])), (h14, .inr (7, [.ref h35, .ref h36])), (h15, .inl (cI, 12, .inl (fun _ => 0))), (h16, .inr (1, [.ref h37, .int 1])), (h17, .inr (1, [.ref h38, .int 1])), (h18, .inl (cI, 5, .inl (fun _ => 0))), (h19, .inl (cI, 12, .inl (fun _ => 0))), (h20, .inr (1, [.ref h39, .int 1])), (h21, .inr (1, [.ref h40, .int 1])), (h22, .inl (cI, 12, .inl (fun _ => 0))), (h23, .inl (cI, 120, .inl (fun _ => 0))), (h24, .inl (cI, 12, .inl (fun _ => 0))), (h26, .inr (6, [.ref h42, .int (-1), .int 0])), (h27, .inr (6, [.ref h43, .int (-1), .int 0])), (h28, .inr (6, [.ref h44, .int (-1), .int 0])), (h29, .inl (cI, 12, .inl (fun _ => 0))), (h30, .inl (cI, 12, .inl (fun _ => 0))), (h31, .inl (cI, 12, .inl (fun _ => 0))), (h32, .inl (cI, 12, .inl (fun _ => 0))), (h33, .inl (cI, 12, .inl (fun _ => 0))), (h34, .inl (cI, 12, .inl (fun _ => 0))), (h35, .inl (cI, 4, .inl (fun _ => -1))), (h36, .inl (cI, 4, .inl (fun _ => 0))), (h37, .inl (cI, 4096, .inl (fun _ => 0))), (h38, .inl (cI, 0, .inl (fun _ => 0))), (h39, .inl (cI, 4096, .inl (fun _ => 0))), (h40, .inl (cI, 0, .inl (fun _ => 0))), (h42, .inl (cI, 40, .inl (fun _ => 0))), (h43, .inl (cI, 40, .inl (fun _ => 0))), (h44, .inl (cI, 40, .inl (fun _ => 0))), (h25, .inr (6, [.ref h41, .int 0, .int (if (0 : Int32) < (if (40 : Int32) < x2 then (40 : Int32) else x2) then (if (40 : Int32) < x2 then (40 : Int32) else x2) else (0 : Int32))])), (h41, .inl (cI, 40, .inl (fun _ => 0)))] := hD
                    refine lv_iconst (v := 1) hx hb dX11_sheet_62 (by decide) ?_
                    have hP9 := hP.sub (ws' := []) [] rfl
                    have hD9 := hD.sub (ws' := []) [] (by decide) rfl
                    subst hAe
                    exact W.iret (v := 1) hx hb hr (fun t ht hW => ⟨⟨_, (), rfl, by rw [if_neg k2048, if_neg k2050, if_neg c2053, if_pos rfl, if_pos c2057, if_pos c2058], by rw [ht]; exact hP9, hD9⟩, hS.F ht⟩) hS.2.2 dX11_sheet_63
                  · by_cases k2102 : x0 = 1
                    · subst k2102
                      refine va_aldq hx hb hK hP 11 1 rfl rfl (lz_vp (x := 1) (n := 4) (by decide) (by decide)) dX11_sheet_56 ?_
                      refine lz_va (y := .ref h26) rfl ?_
                      refine lv_iload_n hx hb dX11_sheet_57 rfl (lv_at hl 2 rfl) ?_
                      refine lv_iload_n hx hb dX11_sheet_58 rfl (lv_at hl 3 rfl) ?_
                      have hPc := hP.sub (ws' := [(h26, .inr (6, [.ref h42, .int (-1), .int 0])), (h42, .inl (cI, 40, .inl (fun _ => 0)))]) [26, 42] rfl
                      have hDc := hD.sub (ws' := [(h26, .inr (6, [.ref h42, .int (-1), .int 0])), (h42, .inl (cI, 40, .inl (fun _ => 0)))]) [26, 42] (by decide) rfl
                      refine lz_qv (wr := [(h0, .inr (11, [.ref h1, .ref h2, .ref h3, .ref h4, .ref h5, .ref h6, .ref h7, .int 0, .int 0, .ref h8, .ref h9, .ref h10, .ref h11, .ref h12, .ref h13, .ref h14])), (h1, .inr (2, [.ref h15, .int 0, .int 0])), (h2, .inr (3, [.ref h1, .ref h16, .ref h17, .int 0])), (h3, .inr (4, [.ref h1, .ref h2])), (h4, .inr (10, [.ref h1, .ref h2, .ref h18, .int 0, .int 0, .int 0, .int 0, .int (-1)])), (h5, .inr (2, [.ref h19, .int 0, .int 0])), (h6, .inr (3, [.ref h5, .ref h20, .ref h21, .int 0])), (h7, .inr (2, [.ref h22, .int 0, .int 0])), (h8, .inr (0, [.int 1])), (h9, .inr (8, [.ref h23, .int 0])), (h10, .inr (5, [.ref h9, .ref h1, .ref h24, .int 0, .int 0, .int 0, .int 0, .int 0])), (h11, .inl (cS, 4, .inr (.inr (.inr (.inr (fun k => [h25, h26, h27, h28][k]?)))))), (h12, .inr (9, [.ref h1, .ref h2, .ref h29, .ref h30, .ref h31, .int 0])), (h13, .inr (9, [.ref h1, .ref h2, .ref h32, .ref h33, .ref h34, .int 0])), (h14, .inr (7, [.ref h35, .ref h36])), (h15, .inl (cI, 12, .inl (fun _ => 0))), (h16, .inr (1, [.ref h37, .int 1])), (h17, .inr (1, [.ref h38, .int 1])), (h18, .inl (cI, 5, .inl (fun _ => 0))), (h19, .inl (cI, 12, .inl (fun _ => 0))), (h20, .inr (1, [.ref h39, .int 1])), (h21, .inr (1, [.ref h40, .int 1])), (h22, .inl (cI, 12, .inl (fun _ => 0))), (h23, .inl (cI, 120, .inl (fun _ => 0))), (h24, .inl (cI, 12, .inl (fun _ => 0))), (h25, .inr (6, [.ref h41, .int (-1), .int 0])), (h27, .inr (6, [.ref h43, .int (-1), .int 0])), (h28, .inr (6, [.ref h44, .int (-1), .int 0])), (h29, .inl (cI, 12, .inl (fun _ => 0))), (h30, .inl (cI, 12, .inl (fun _ => 0))), (h31, .inl (cI, 12, .inl (fun _ => 0))), (h32, .inl (cI, 12, .inl (fun _ => 0))), (h33, .inl (cI, 12, .inl (fun _ => 0))), (h34, .inl (cI, 12, .inl (fun _ => 0))), (h35, .inl (cI, 4, .inl (fun _ => -1))), (h36, .inl (cI, 4, .inl (fun _ => 0))), (h37, .inl (cI, 4096, .inl (fun _ => 0))), (h38, .inl (cI, 0, .inl (fun _ => 0))), (h39, .inl (cI, 4096, .inl (fun _ => 0))), (h40, .inl (cI, 0, .inl (fun _ => 0))), (h41, .inl (cI, 40, .inl (fun _ => 0))), (h43, .inl (cI, 40, .inl (fun _ => 0))), (h44, .inl (cI, 40, .inl (fun _ => 0)))]) (w1 := [(h26, .inr (6, [.ref h42, .int 0, .int (if (0 : Int32) < (if (40 : Int32) < x2 then (40 : Int32) else x2) then (if (40 : Int32) < x2 then (40 : Int32) else x2) else (0 : Int32))])), (h42, .inl (cI, 40, .inl (fun _ => 0)))]) (As := [.int 0, .int x2]) (rest := []) ⟨hx, hb, hml, hown, hts⟩ (c_X6_become_2 l D cI cS H.size h26 h42 x2) hKK hP hD hS hA [26, 42] [0, 1, 2, 3, 4, 5, 6, 7, 8, 9, 10, 11, 12, 13, 14, 15, 16, 17, 18, 19, 20, 21, 22, 23, 24, 25, 27, 28, 29, 30, 31, 32, 33, 34, 35, 36, 37, 38, 39, 40, 41, 43, 44] (by decide) rfl rfl (by decide) (by decide) hPc hDc (ci := 6) rfl rfl (cwV 2 hts gX11_sheet_X6_become rfl rfl rfl (by decide +kernel) ⟨Nat.le_of_ble_eq_true rfl, Nat.le_of_ble_eq_true rfl⟩) rfl hl.1 rfl (Nat.le_of_ble_eq_true rfl) dX11_sheet_59 ⟨Nat.le_of_ble_eq_true rfl, Nat.le_of_ble_eq_true rfl⟩ (fun H locs hP hD hS => ?_)
                      have hP : va_P D cls [(h0, .inr (11, [.ref h1, .ref h2, .ref h3, .ref h4, .ref h5, .ref h6, .ref h7, .int 0, .int 0, .ref h8, .ref h9, .ref h10, .ref h11, .ref h12, .ref h13, .ref h14])), (h1, .inr (2, [.ref h15, .int 0, .int 0])), (h2, .inr (3, [.ref h1, .ref h16, .ref h17, .int 0])), (h3, .inr (4, [.ref h1, .ref h2])), (h4, .inr (10, [.ref h1, .ref h2, .ref h18, .int 0, .int 0, .int 0, .int 0, .int (-1)])), (h5, .inr (2, [.ref h19, .int 0, .int 0])), (h6, .inr (3, [.ref h5, .ref h20, .ref h21, .int 0])), (h7, .inr (2, [.ref h22, .int 0, .int 0])), (h8, .inr (0, [.int 1])), (h9, .inr (8, [.ref h23, .int 0])), (h10, .inr (5, [.ref h9, .ref h1, .ref h24, .int 0, .int 0, .int 0, .int 0, .int 0])), (h11, .inl (cS, 4, .inr (.inr (.inr (.inr (fun k => [h25, h26, h27, h28][k]?)))))), (h12, .inr (9, [.ref h1, .ref h2, .ref h29, .ref h30, .ref h31, .int 0])), (h13, .inr (9, [.ref h1, .ref h2, .ref h32, .ref h33, .ref h34, .int 0])), (h14, .inr (7, [.ref h35, .ref h36])), (h15, .inl (cI, 12, .inl (fun _ => 0))), (h16, .inr (1, [.ref h37, .int 1])), (h17, .inr (1, [.ref h38, .int 1])), (h18, .inl (cI, 5, .inl (fun _ => 0))), (h19, .inl (cI, 12, .inl (fun _ => 0))), (h20, .inr (1, [.ref h39, .int 1])), (h21, .inr (1, [.ref h40, .int 1])), (h22, .inl (cI, 12, .inl (fun _ => 0))), (h23, .inl (cI, 120, .inl (fun _ => 0))), (h24, .inl (cI, 12, .inl (fun _ => 0))), (h25, .inr (6, [.ref h41, .int (-1), .int 0])), (h27, .inr (6, [.ref h43, .int (-1), .int 0])), (h28, .inr (6, [.ref h44, .int (-1), .int 0])), (h29, .inl (cI, 12, .inl (fun _ => 0))), (h30, .inl (cI, 12, .inl (fun _ => 0))), (h31, .inl (cI, 12, .inl (fun _ => 0))), (h32, .inl (cI, 12, .inl (fun _ => 0))), (h33, .inl (cI, 12, .inl (fun _ => 0))), (h34, .inl (cI, 12, .inl (fun _ => 0))), (h35, .inl (cI, 4, .inl (fun _ => -1))), (h36, .inl (cI, 4, .inl (fun _ => 0))), (h37, .inl (cI, 4096, .inl (fun _ => 0))), (h38, .inl (cI, 0, .inl (fun _ => 0))), (h39, .inl (cI, 4096, .inl (fun _ => 0))), (h40, .inl (cI, 0, .inl (fun _ => 0))), (h41, .inl (cI, 40, .inl (fun _ => 0))), (h43, .inl (cI, 40, .inl (fun _ => 0))), (h44, .inl (cI, 40, .inl (fun _ => 0))), (h26, .inr (6, [.ref h42, .int 0, .int (if (0 : Int32) < (if (40 : Int32) < x2 then (40 : Int32) else x2) then (if (40 : Int32) < x2 then (40 : Int32) else x2) else (0 : Int32))])), (h42, .inl (cI, 40, .inl (fun _ => 0)))] H := hP
                      have hD : va_D A [(h0, .inr (11, [.ref h1, .ref h2, .ref h3, .ref h4, .ref h5, .ref h6, .ref h7, .int 0, .int 0, .ref h8, .ref h9, .ref h10, .ref h11, .ref h12, .ref h13, .ref h14])), (h1, .inr (2, [.ref h15, .int 0, .int 0])), (h2, .inr (3, [.ref h1, .ref h16, .ref h17, .int 0])), (h3, .inr (4, [.ref h1, .ref h2])), (h4, .inr (10, [.ref h1, .ref h2, .ref h18, .int 0, .int 0, .int 0, .int 0, .int (-1)])), (h5, .inr (2, [.ref h19, .int 0, .int 0])), (h6, .inr (3, [.ref h5, .ref h20, .ref h21, .int 0])), (h7, .inr (2, [.ref h22, .int 0, .int 0])), (h8, .inr (0, [.int 1])), (h9, .inr (8, [.ref h23, .int 0])), (h10, .inr (5, [.ref h9, .ref h1, .ref h24, .int 0, .int 0, .int 0, .int 0, .int 0])), (h11, .inl (cS, 4, .inr (.inr (.inr (.inr (fun k => [h25, h26, h27, h28][k]?)))))), (h12, .inr (9, [.ref h1, .ref h2, .ref h29, .ref h30, .ref h31, .int 0])), (h13, .inr (9, [.ref h1, .ref h2, .ref h32, .ref h33, .ref h34, .int 0])), (h14, .inr (7, [.ref h35, .ref h36])), (h15, .inl (cI, 12, .inl (fun _ => 0))), (h16, .inr (1, [.ref h37, .int 1])), (h17, .inr (1, [.ref h38, .int 1])), (h18, .inl (cI, 5, .inl (fun _ => 0))), (h19, .inl (cI, 12, .inl (fun _ => 0))), (h20, .inr (1, [.ref h39, .int 1])), (h21, .inr (1, [.ref h40, .int 1])), (h22, .inl (cI, 12, .inl (fun _ => 0))), (h23, .inl (cI, 120, .inl (fun _ => 0))), (h24, .inl (cI, 12, .inl (fun _ => 0))), (h25, .inr (6, [.ref h41, .int (-1), .int 0])), (h27, .inr (6, [.ref h43, .int (-1), .int 0])), (h28, .inr (6, [.ref h44, .int (-1), .int 0])), (h29, .inl (cI, 12, .inl (fun _ => 0))), (h30, .inl (cI, 12, .inl (fun _ => 0))), (h31, .inl (cI, 12, .inl (fun _ => 0))), (h32, .inl (cI, 12, .inl (fun _ => 0))), (h33, .inl (cI, 12, .inl (fun _ => 0))), (h34, .inl (cI, 12, .inl (fun _ => 0))), (h35, .inl (cI, 4, .inl (fun _ => -1))), (h36, .inl (cI, 4, .inl (fun _ => 0))), (h37, .inl (cI, 4096, .inl (fun _ => 0))), (h38, .inl (cI, 0, .inl (fun _ => 0))), (h39, .inl (cI, 4096, .inl (fun _ => 0))), (h40, .inl (cI, 0, .inl (fun _ => 0))), (h41, .inl (cI, 40, .inl (fun _ => 0))), (h43, .inl (cI, 40, .inl (fun _ => 0))), (h44, .inl (cI, 40, .inl (fun _ => 0))), (h26, .inr (6, [.ref h42, .int 0, .int (if (0 : Int32) < (if (40 : Int32) < x2 then (40 : Int32) else x2) then (if (40 : Int32) < x2 then (40 : Int32) else x2) else (0 : Int32))])), (h42, .inl (cI, 40, .inl (fun _ => 0)))] := hD
                      refine lv_iconst (v := 1) hx hb dX11_sheet_62 (by decide) ?_
                      have hP9 := hP.sub (ws' := []) [] rfl
                      have hD9 := hD.sub (ws' := []) [] (by decide) rfl
                      subst hAe
                      exact W.iret (v := 1) hx hb hr (fun t ht hW => ⟨⟨_, (), rfl, by rw [if_neg k2048, if_neg k2050, if_neg c2053, if_pos rfl, if_pos c2057, if_pos c2058], by rw [ht]; exact hP9, hD9⟩, hS.F ht⟩) hS.2.2 dX11_sheet_63
                    · by_cases k2104 : x0 = 2
                      · subst k2104
                        refine va_aldq hx hb hK hP 11 1 rfl rfl (lz_vp (x := 2) (n := 4) (by decide) (by decide)) dX11_sheet_56 ?_
                        refine lz_va (y := .ref h27) rfl ?_
                        refine lv_iload_n hx hb dX11_sheet_57 rfl (lv_at hl 2 rfl) ?_
                        refine lv_iload_n hx hb dX11_sheet_58 rfl (lv_at hl 3 rfl) ?_
                        have hPc := hP.sub (ws' := [(h27, .inr (6, [.ref h43, .int (-1), .int 0])), (h43, .inl (cI, 40, .inl (fun _ => 0)))]) [27, 43] rfl
                        have hDc := hD.sub (ws' := [(h27, .inr (6, [.ref h43, .int (-1), .int 0])), (h43, .inl (cI, 40, .inl (fun _ => 0)))]) [27, 43] (by decide) rfl
                        refine lz_qv (wr := [(h0, .inr (11, [.ref h1, .ref h2, .ref h3, .ref h4, .ref h5, .ref h6, .ref h7, .int 0, .int 0, .ref h8, .ref h9, .ref h10, .ref h11, .ref h12, .ref h13, .ref h14])), (h1, .inr (2, [.ref h15, .int 0, .int 0])), (h2, .inr (3, [.ref h1, .ref h16, .ref h17, .int 0])), (h3, .inr (4, [.ref h1, .ref h2])), (h4, .inr (10, [.ref h1, .ref h2, .ref h18, .int 0, .int 0, .int 0, .int 0, .int (-1)])), (h5, .inr (2, [.ref h19, .int 0, .int 0])), (h6, .inr (3, [.ref h5, .ref h20, .ref h21, .int 0])), (h7, .inr (2, [.ref h22, .int 0, .int 0])), (h8, .inr (0, [.int 1])), (h9, .inr (8, [.ref h23, .int 0])), (h10, .inr (5, [.ref h9, .ref h1, .ref h24, .int 0, .int 0, .int 0, .int 0, .int 0])), (h11, .inl (cS, 4, .inr (.inr (.inr (.inr (fun k => [h25, h26, h27, h28][k]?)))))), (h12, .inr (9, [.ref h1, .ref h2, .ref h29, .ref h30, .ref h31, .int 0])), (h13, .inr (9, [.ref h1, .ref h2, .ref h32, .ref h33, .ref h34, .int 0])), (h14, .inr (7, [.ref h35, .ref h36])), (h15, .inl (cI, 12, .inl (fun _ => 0))), (h16, .inr (1, [.ref h37, .int 1])), (h17, .inr (1, [.ref h38, .int 1])), (h18, .inl (cI, 5, .inl (fun _ => 0))), (h19, .inl (cI, 12, .inl (fun _ => 0))), (h20, .inr (1, [.ref h39, .int 1])), (h21, .inr (1, [.ref h40, .int 1])), (h22, .inl (cI, 12, .inl (fun _ => 0))), (h23, .inl (cI, 120, .inl (fun _ => 0))), (h24, .inl (cI, 12, .inl (fun _ => 0))), (h25, .inr (6, [.ref h41, .int (-1), .int 0])), (h26, .inr (6, [.ref h42, .int (-1), .int 0])), (h28, .inr (6, [.ref h44, .int (-1), .int 0])), (h29, .inl (cI, 12, .inl (fun _ => 0))), (h30, .inl (cI, 12, .inl (fun _ => 0))), (h31, .inl (cI, 12, .inl (fun _ => 0))), (h32, .inl (cI, 12, .inl (fun _ => 0))), (h33, .inl (cI, 12, .inl (fun _ => 0))), (h34, .inl (cI, 12, .inl (fun _ => 0))), (h35, .inl (cI, 4, .inl (fun _ => -1))), (h36, .inl (cI, 4, .inl (fun _ => 0))), (h37, .inl (cI, 4096, .inl (fun _ => 0))), (h38, .inl (cI, 0, .inl (fun _ => 0))), (h39, .inl (cI, 4096, .inl (fun _ => 0))), (h40, .inl (cI, 0, .inl (fun _ => 0))), (h41, .inl (cI, 40, .inl (fun _ => 0))), (h42, .inl (cI, 40, .inl (fun _ => 0))), (h44, .inl (cI, 40, .inl (fun _ => 0)))]) (w1 := [(h27, .inr (6, [.ref h43, .int 0, .int (if (0 : Int32) < (if (40 : Int32) < x2 then (40 : Int32) else x2) then (if (40 : Int32) < x2 then (40 : Int32) else x2) else (0 : Int32))])), (h43, .inl (cI, 40, .inl (fun _ => 0)))]) (As := [.int 0, .int x2]) (rest := []) ⟨hx, hb, hml, hown, hts⟩ (c_X6_become_2 l D cI cS H.size h27 h43 x2) hKK hP hD hS hA [27, 43] [0, 1, 2, 3, 4, 5, 6, 7, 8, 9, 10, 11, 12, 13, 14, 15, 16, 17, 18, 19, 20, 21, 22, 23, 24, 25, 26, 28, 29, 30, 31, 32, 33, 34, 35, 36, 37, 38, 39, 40, 41, 42, 44] (by decide) rfl rfl (by decide) (by decide) hPc hDc (ci := 6) rfl rfl (cwV 2 hts gX11_sheet_X6_become rfl rfl rfl (by decide +kernel) ⟨Nat.le_of_ble_eq_true rfl, Nat.le_of_ble_eq_true rfl⟩) rfl hl.1 rfl (Nat.le_of_ble_eq_true rfl) dX11_sheet_59 ⟨Nat.le_of_ble_eq_true rfl, Nat.le_of_ble_eq_true rfl⟩ (fun H locs hP hD hS => ?_)
                        have hP : va_P D cls [(h0, .inr (11, [.ref h1, .ref h2, .ref h3, .ref h4, .ref h5, .ref h6, .ref h7, .int 0, .int 0, .ref h8, .ref h9, .ref h10, .ref h11, .ref h12, .ref h13, .ref h14])), (h1, .inr (2, [.ref h15, .int 0, .int 0])), (h2, .inr (3, [.ref h1, .ref h16, .ref h17, .int 0])), (h3, .inr (4, [.ref h1, .ref h2])), (h4, .inr (10, [.ref h1, .ref h2, .ref h18, .int 0, .int 0, .int 0, .int 0, .int (-1)])), (h5, .inr (2, [.ref h19, .int 0, .int 0])), (h6, .inr (3, [.ref h5, .ref h20, .ref h21, .int 0])), (h7, .inr (2, [.ref h22, .int 0, .int 0])), (h8, .inr (0, [.int 1])), (h9, .inr (8, [.ref h23, .int 0])), (h10, .inr (5, [.ref h9, .ref h1, .ref h24, .int 0, .int 0, .int 0, .int 0, .int 0])), (h11, .inl (cS, 4, .inr (.inr (.inr (.inr (fun k => [h25, h26, h27, h28][k]?)))))), (h12, .inr (9, [.ref h1, .ref h2, .ref h29, .ref h30, .ref h31, .int 0])), (h13, .inr (9, [.ref h1, .ref h2, .ref h32, .ref h33, .ref h34, .int 0])), (h14, .inr (7, [.ref h35, .ref h36])), (h15, .inl (cI, 12, .inl (fun _ => 0))), (h16, .inr (1, [.ref h37, .int 1])), (h17, .inr (1, [.ref h38, .int 1])), (h18, .inl (cI, 5, .inl (fun _ => 0))), (h19, .inl (cI, 12, .inl (fun _ => 0))), (h20, .inr (1, [.ref h39, .int 1])), (h21, .inr (1, [.ref h40, .int 1])), (h22, .inl (cI, 12, .inl (fun _ => 0))), (h23, .inl (cI, 120, .inl (fun _ => 0))), (h24, .inl (cI, 12, .inl (fun _ => 0))), (h25, .inr (6, [.ref h41, .int (-1), .int 0])), (h26, .inr (6, [.ref h42, .int (-1), .int 0])), (h28, .inr (6, [.ref h44, .int (-1), .int 0])), (h29, .inl (cI, 12, .inl (fun _ => 0))), (h30, .inl (cI, 12, .inl (fun _ => 0))), (h31, .inl (cI, 12, .inl (fun _ => 0))), (h32, .inl (cI, 12, .inl (fun _ => 0))), (h33, .inl (cI, 12, .inl (fun _ => 0))), (h34, .inl (cI, 12, .inl (fun _ => 0))), (h35, .inl (cI, 4, .inl (fun _ => -1))), (h36, .inl (cI, 4, .inl (fun _ => 0))), (h37, .inl (cI, 4096, .inl (fun _ => 0))), (h38, .inl (cI, 0, .inl (fun _ => 0))), (h39, .inl (cI, 4096, .inl (fun _ => 0))), (h40, .inl (cI, 0, .inl (fun _ => 0))), (h41, .inl (cI, 40, .inl (fun _ => 0))), (h42, .inl (cI, 40, .inl (fun _ => 0))), (h44, .inl (cI, 40, .inl (fun _ => 0))), (h27, .inr (6, [.ref h43, .int 0, .int (if (0 : Int32) < (if (40 : Int32) < x2 then (40 : Int32) else x2) then (if (40 : Int32) < x2 then (40 : Int32) else x2) else (0 : Int32))])), (h43, .inl (cI, 40, .inl (fun _ => 0)))] H := hP
                        have hD : va_D A [(h0, .inr (11, [.ref h1, .ref h2, .ref h3, .ref h4, .ref h5, .ref h6, .ref h7, .int 0, .int 0, .ref h8, .ref h9, .ref h10, .ref h11, .ref h12, .ref h13, .ref h14])), (h1, .inr (2, [.ref h15, .int 0, .int 0])), (h2, .inr (3, [.ref h1, .ref h16, .ref h17, .int 0])), (h3, .inr (4, [.ref h1, .ref h2])), (h4, .inr (10, [.ref h1, .ref h2, .ref h18, .int 0, .int 0, .int 0, .int 0, .int (-1)])), (h5, .inr (2, [.ref h19, .int 0, .int 0])), (h6, .inr (3, [.ref h5, .ref h20, .ref h21, .int 0])), (h7, .inr (2, [.ref h22, .int 0, .int 0])), (h8, .inr (0, [.int 1])), (h9, .inr (8, [.ref h23, .int 0])), (h10, .inr (5, [.ref h9, .ref h1, .ref h24, .int 0, .int 0, .int 0, .int 0, .int 0])), (h11, .inl (cS, 4, .inr (.inr (.inr (.inr (fun k => [h25, h26, h27, h28][k]?)))))), (h12, .inr (9, [.ref h1, .ref h2, .ref h29, .ref h30, .ref h31, .int 0])), (h13, .inr (9, [.ref h1, .ref h2, .ref h32, .ref h33, .ref h34, .int 0])), (h14, .inr (7, [.ref h35, .ref h36])), (h15, .inl (cI, 12, .inl (fun _ => 0))), (h16, .inr (1, [.ref h37, .int 1])), (h17, .inr (1, [.ref h38, .int 1])), (h18, .inl (cI, 5, .inl (fun _ => 0))), (h19, .inl (cI, 12, .inl (fun _ => 0))), (h20, .inr (1, [.ref h39, .int 1])), (h21, .inr (1, [.ref h40, .int 1])), (h22, .inl (cI, 12, .inl (fun _ => 0))), (h23, .inl (cI, 120, .inl (fun _ => 0))), (h24, .inl (cI, 12, .inl (fun _ => 0))), (h25, .inr (6, [.ref h41, .int (-1), .int 0])), (h26, .inr (6, [.ref h42, .int (-1), .int 0])), (h28, .inr (6, [.ref h44, .int (-1), .int 0])), (h29, .inl (cI, 12, .inl (fun _ => 0))), (h30, .inl (cI, 12, .inl (fun _ => 0))), (h31, .inl (cI, 12, .inl (fun _ => 0))), (h32, .inl (cI, 12, .inl (fun _ => 0))), (h33, .inl (cI, 12, .inl (fun _ => 0))), (h34, .inl (cI, 12, .inl (fun _ => 0))), (h35, .inl (cI, 4, .inl (fun _ => -1))), (h36, .inl (cI, 4, .inl (fun _ => 0))), (h37, .inl (cI, 4096, .inl (fun _ => 0))), (h38, .inl (cI, 0, .inl (fun _ => 0))), (h39, .inl (cI, 4096, .inl (fun _ => 0))), (h40, .inl (cI, 0, .inl (fun _ => 0))), (h41, .inl (cI, 40, .inl (fun _ => 0))), (h42, .inl (cI, 40, .inl (fun _ => 0))), (h44, .inl (cI, 40, .inl (fun _ => 0))), (h27, .inr (6, [.ref h43, .int 0, .int (if (0 : Int32) < (if (40 : Int32) < x2 then (40 : Int32) else x2) then (if (40 : Int32) < x2 then (40 : Int32) else x2) else (0 : Int32))])), (h43, .inl (cI, 40, .inl (fun _ => 0)))] := hD
                        refine lv_iconst (v := 1) hx hb dX11_sheet_62 (by decide) ?_
                        have hP9 := hP.sub (ws' := []) [] rfl
                        have hD9 := hD.sub (ws' := []) [] (by decide) rfl
                        subst hAe
                        exact W.iret (v := 1) hx hb hr (fun t ht hW => ⟨⟨_, (), rfl, by rw [if_neg k2048, if_neg k2050, if_neg c2053, if_pos rfl, if_pos c2057, if_pos c2058], by rw [ht]; exact hP9, hD9⟩, hS.F ht⟩) hS.2.2 dX11_sheet_63
                      · obtain rfl : x0 = 3 := by have zf1 := mt (lz_lt x0 (0 : Int32)).mpr k2048; have zf2 := mt (lz_le (4 : Int32) x0).mpr k2050; have zf3 := mt (lz_eq (0 : Int32) ((-1) : Int32)).mpr c2053; have zf4 := (lz_le x2 (40 : Int32)).mp c2057; have zf5 := (lz_le (0 : Int32) x2).mp c2058; have zf6 := mt (lz_eq x0 (0 : Int32)).mpr k2059; have zf7 := mt (lz_eq x0 (1 : Int32)).mpr k2102; have zf8 := mt (lz_eq x0 (2 : Int32)).mpr k2104; have zn0 : ((-1) : Int32).toInt = -1 := (by decide); have zn1 : (0 : Int32).toInt = 0 := (by decide); have zn2 : (1 : Int32).toInt = 1 := (by decide); have zn3 : (2 : Int32).toInt = 2 := (by decide); have zn4 : (3 : Int32).toInt = 3 := (by decide); have zn5 : (4 : Int32).toInt = 4 := (by decide); have zn6 : (40 : Int32).toInt = 40 := (by decide); rw [lz_eq]; omega
                        refine va_aldq hx hb hK hP 11 1 rfl rfl (lz_vp (x := 3) (n := 4) (by decide) (by decide)) dX11_sheet_56 ?_
                        refine lz_va (y := .ref h28) rfl ?_
                        refine lv_iload_n hx hb dX11_sheet_57 rfl (lv_at hl 2 rfl) ?_
                        refine lv_iload_n hx hb dX11_sheet_58 rfl (lv_at hl 3 rfl) ?_
                        have hPc := hP.sub (ws' := [(h28, .inr (6, [.ref h44, .int (-1), .int 0])), (h44, .inl (cI, 40, .inl (fun _ => 0)))]) [28, 44] rfl
                        have hDc := hD.sub (ws' := [(h28, .inr (6, [.ref h44, .int (-1), .int 0])), (h44, .inl (cI, 40, .inl (fun _ => 0)))]) [28, 44] (by decide) rfl
                        refine lz_qv (wr := [(h0, .inr (11, [.ref h1, .ref h2, .ref h3, .ref h4, .ref h5, .ref h6, .ref h7, .int 0, .int 0, .ref h8, .ref h9, .ref h10, .ref h11, .ref h12, .ref h13, .ref h14])), (h1, .inr (2, [.ref h15, .int 0, .int 0])), (h2, .inr (3, [.ref h1, .ref h16, .ref h17, .int 0])), (h3, .inr (4, [.ref h1, .ref h2])), (h4, .inr (10, [.ref h1, .ref h2, .ref h18, .int 0, .int 0, .int 0, .int 0, .int (-1)])), (h5, .inr (2, [.ref h19, .int 0, .int 0])), (h6, .inr (3, [.ref h5, .ref h20, .ref h21, .int 0])), (h7, .inr (2, [.ref h22, .int 0, .int 0])), (h8, .inr (0, [.int 1])), (h9, .inr (8, [.ref h23, .int 0])), (h10, .inr (5, [.ref h9, .ref h1, .ref h24, .int 0, .int 0, .int 0, .int 0, .int 0])), (h11, .inl (cS, 4, .inr (.inr (.inr (.inr (fun k => [h25, h26, h27, h28][k]?)))))), (h12, .inr (9, [.ref h1, .ref h2, .ref h29, .ref h30, .ref h31, .int 0])), (h13, .inr (9, [.ref h1, .ref h2, .ref h32, .ref h33, .ref h34, .int 0])), (h14, .inr (7, [.ref h35, .ref h36])), (h15, .inl (cI, 12, .inl (fun _ => 0))), (h16, .inr (1, [.ref h37, .int 1])), (h17, .inr (1, [.ref h38, .int 1])), (h18, .inl (cI, 5, .inl (fun _ => 0))), (h19, .inl (cI, 12, .inl (fun _ => 0))), (h20, .inr (1, [.ref h39, .int 1])), (h21, .inr (1, [.ref h40, .int 1])), (h22, .inl (cI, 12, .inl (fun _ => 0))), (h23, .inl (cI, 120, .inl (fun _ => 0))), (h24, .inl (cI, 12, .inl (fun _ => 0))), (h25, .inr (6, [.ref h41, .int (-1), .int 0])), (h26, .inr (6, [.ref h42, .int (-1), .int 0])), (h27, .inr (6, [.ref h43, .int (-1), .int 0])), (h29, .inl (cI, 12, .inl (fun _ => 0))), (h30, .inl (cI, 12, .inl (fun _ => 0))), (h31, .inl (cI, 12, .inl (fun _ => 0))), (h32, .inl (cI, 12, .inl (fun _ => 0))), (h33, .inl (cI, 12, .inl (fun _ => 0))), (h34, .inl (cI, 12, .inl (fun _ => 0))), (h35, .inl (cI, 4, .inl (fun _ => -1))), (h36, .inl (cI, 4, .inl (fun _ => 0))), (h37, .inl (cI, 4096, .inl (fun _ => 0))), (h38, .inl (cI, 0, .inl (fun _ => 0))), (h39, .inl (cI, 4096, .inl (fun _ => 0))), (h40, .inl (cI, 0, .inl (fun _ => 0))), (h41, .inl (cI, 40, .inl (fun _ => 0))), (h42, .inl (cI, 40, .inl (fun _ => 0))), (h43, .inl (cI, 40, .inl (fun _ => 0)))]) (w1 := [(h28, .inr (6, [.ref h44, .int 0, .int (if (0 : Int32) < (if (40 : Int32) < x2 then (40 : Int32) else x2) then (if (40 : Int32) < x2 then (40 : Int32) else x2) else (0 : Int32))])), (h44, .inl (cI, 40, .inl (fun _ => 0)))]) (As := [.int 0, .int x2]) (rest := []) ⟨hx, hb, hml, hown, hts⟩ (c_X6_become_2 l D cI cS H.size h28 h44 x2) hKK hP hD hS hA [28, 44] [0, 1, 2, 3, 4, 5, 6, 7, 8, 9, 10, 11, 12, 13, 14, 15, 16, 17, 18, 19, 20, 21, 22, 23, 24, 25, 26, 27, 29, 30, 31, 32, 33, 34, 35, 36, 37, 38, 39, 40, 41, 42, 43] (by decide) rfl rfl (by decide) (by decide) hPc hDc (ci := 6) rfl rfl (cwV 2 hts gX11_sheet_X6_become rfl rfl rfl (by decide +kernel) ⟨Nat.le_of_ble_eq_true rfl, Nat.le_of_ble_eq_true rfl⟩) rfl hl.1 rfl (Nat.le_of_ble_eq_true rfl) dX11_sheet_59 ⟨Nat.le_of_ble_eq_true rfl, Nat.le_of_ble_eq_true rfl⟩ (fun H locs hP hD hS => ?_)
                        have hP : va_P D cls [(h0, .inr (11, [.ref h1, .ref h2, .ref h3, .ref h4, .ref h5, .ref h6, .ref h7, .int 0, .int 0, .ref h8, .ref h9, .ref h10, .ref h11, .ref h12, .ref h13, .ref h14])), (h1, .inr (2, [.ref h15, .int 0, .int 0])), (h2, .inr (3, [.ref h1, .ref h16, .ref h17, .int 0])), (h3, .inr (4, [.ref h1, .ref h2])), (h4, .inr (10, [.ref h1, .ref h2, .ref h18, .int 0, .int 0, .int 0, .int 0, .int (-1)])), (h5, .inr (2, [.ref h19, .int 0, .int 0])), (h6, .inr (3, [.ref h5, .ref h20, .ref h21, .int 0])), (h7, .inr (2, [.ref h22, .int 0, .int 0])), (h8, .inr (0, [.int 1])), (h9, .inr (8, [.ref h23, .int 0])), (h10, .inr (5, [.ref h9, .ref h1, .ref h24, .int 0, .int 0, .int 0, .int 0, .int 0])), (h11, .inl (cS, 4, .inr (.inr (.inr (.inr (fun k => [h25, h26, h27, h28][k]?)))))), (h12, .inr (9, [.ref h1, .ref h2, .ref h29, .ref h30, .ref h31, .int 0])), (h13, .inr (9, [.ref h1, .ref h2, .ref h32, .ref h33, .ref h34, .int 0])), (h14, .inr (7, [.ref h35, .ref h36])), (h15, .inl (cI, 12, .inl (fun _ => 0))), (h16, .inr (1, [.ref h37, .int 1])), (h17, .inr (1, [.ref h38, .int 1])), (h18, .inl (cI, 5, .inl (fun _ => 0))), (h19, .inl (cI, 12, .inl (fun _ => 0))), (h20, .inr (1, [.ref h39, .int 1])), (h21, .inr (1, [.ref h40, .int 1])), (h22, .inl (cI, 12, .inl (fun _ => 0))), (h23, .inl (cI, 120, .inl (fun _ => 0))), (h24, .inl (cI, 12, .inl (fun _ => 0))), (h25, .inr (6, [.ref h41, .int (-1), .int 0])), (h26, .inr (6, [.ref h42, .int (-1), .int 0])), (h27, .inr (6, [.ref h43, .int (-1), .int 0])), (h29, .inl (cI, 12, .inl (fun _ => 0))), (h30, .inl (cI, 12, .inl (fun _ => 0))), (h31, .inl (cI, 12, .inl (fun _ => 0))), (h32, .inl (cI, 12, .inl (fun _ => 0))), (h33, .inl (cI, 12, .inl (fun _ => 0))), (h34, .inl (cI, 12, .inl (fun _ => 0))), (h35, .inl (cI, 4, .inl (fun _ => -1))), (h36, .inl (cI, 4, .inl (fun _ => 0))), (h37, .inl (cI, 4096, .inl (fun _ => 0))), (h38, .inl (cI, 0, .inl (fun _ => 0))), (h39, .inl (cI, 4096, .inl (fun _ => 0))), (h40, .inl (cI, 0, .inl (fun _ => 0))), (h41, .inl (cI, 40, .inl (fun _ => 0))), (h42, .inl (cI, 40, .inl (fun _ => 0))), (h43, .inl (cI, 40, .inl (fun _ => 0))), (h28, .inr (6, [.ref h44, .int 0, .int (if (0 : Int32) < (if (40 : Int32) < x2 then (40 : Int32) else x2) then (if (40 : Int32) < x2 then (40 : Int32) else x2) else (0 : Int32))])), (h44, .inl (cI, 40, .inl (fun _ => 0)))] H := hP
                        have hD : va_D A [(h0, .inr (11, [.ref h1, .ref h2, .ref h3, .ref h4, .ref h5, .ref h6, .ref h7, .int 0, .int 0, .ref h8, .ref h9, .ref h10, .ref h11, .ref h12, .ref h13, .ref h14])), (h1, .inr (2, [.ref h15, .int 0, .int 0])), (h2, .inr (3, [.ref h1, .ref h16, .ref h17, .int 0])), (h3, .inr (4, [.ref h1, .ref h2])), (h4, .inr (10, [.ref h1, .ref h2, .ref h18, .int 0, .int 0, .int 0, .int 0, .int (-1)])), (h5, .inr (2, [.ref h19, .int 0, .int 0])), (h6, .inr (3, [.ref h5, .ref h20, .ref h21, .int 0])), (h7, .inr (2, [.ref h22, .int 0, .int 0])), (h8, .inr (0, [.int 1])), (h9, .inr (8, [.ref h23, .int 0])), (h10, .inr (5, [.ref h9, .ref h1, .ref h24, .int 0, .int 0, .int 0, .int 0, .int 0])), (h11, .inl (cS, 4, .inr (.inr (.inr (.inr (fun k => [h25, h26, h27, h28][k]?)))))), (h12, .inr (9, [.ref h1, .ref h2, .ref h29, .ref h30, .ref h31, .int 0])), (h13, .inr (9, [.ref h1, .ref h2, .ref h32, .ref h33, .ref h34, .int 0])), (h14, .inr (7, [.ref h35, .ref h36])), (h15, .inl (cI, 12, .inl (fun _ => 0))), (h16, .inr (1, [.ref h37, .int 1])), (h17, .inr (1, [.ref h38, .int 1])), (h18, .inl (cI, 5, .inl (fun _ => 0))), (h19, .inl (cI, 12, .inl (fun _ => 0))), (h20, .inr (1, [.ref h39, .int 1])), (h21, .inr (1, [.ref h40, .int 1])), (h22, .inl (cI, 12, .inl (fun _ => 0))), (h23, .inl (cI, 120, .inl (fun _ => 0))), (h24, .inl (cI, 12, .inl (fun _ => 0))), (h25, .inr (6, [.ref h41, .int (-1), .int 0])), (h26, .inr (6, [.ref h42, .int (-1), .int 0])), (h27, .inr (6, [.ref h43, .int (-1), .int 0])), (h29, .inl (cI, 12, .inl (fun _ => 0))), (h30, .inl (cI, 12, .inl (fun _ => 0))), (h31, .inl (cI, 12, .inl (fun _ => 0))), (h32, .inl (cI, 12, .inl (fun _ => 0))), (h33, .inl (cI, 12, .inl (fun _ => 0))), (h34, .inl (cI, 12, .inl (fun _ => 0))), (h35, .inl (cI, 4, .inl (fun _ => -1))), (h36, .inl (cI, 4, .inl (fun _ => 0))), (h37, .inl (cI, 4096, .inl (fun _ => 0))), (h38, .inl (cI, 0, .inl (fun _ => 0))), (h39, .inl (cI, 4096, .inl (fun _ => 0))), (h40, .inl (cI, 0, .inl (fun _ => 0))), (h41, .inl (cI, 40, .inl (fun _ => 0))), (h42, .inl (cI, 40, .inl (fun _ => 0))), (h43, .inl (cI, 40, .inl (fun _ => 0))), (h28, .inr (6, [.ref h44, .int 0, .int (if (0 : Int32) < (if (40 : Int32) < x2 then (40 : Int32) else x2) then (if (40 : Int32) < x2 then (40 : Int32) else x2) else (0 : Int32))])), (h44, .inl (cI, 40, .inl (fun _ => 0)))] := hD
                        refine lv_iconst (v := 1) hx hb dX11_sheet_62 (by decide) ?_
                        have hP9 := hP.sub (ws' := []) [] rfl
                        have hD9 := hD.sub (ws' := []) [] (by decide) rfl
                        subst hAe
                        exact W.iret (v := 1) hx hb hr (fun t ht hW => ⟨⟨_, (), rfl, by rw [if_neg k2048, if_neg k2050, if_neg c2053, if_pos rfl, if_pos c2057, if_pos c2058], by rw [ht]; exact hP9, hD9⟩, hS.F ht⟩) hS.2.2 dX11_sheet_63
                · refine lv_bipush (v := (-14)) hx hb dX11_sheet_48 (by decide) ?_
                  have hP9 := hP.sub (ws' := []) [] rfl
                  have hD9 := hD.sub (ws' := []) [] (by decide) rfl
                  subst hAe
                  exact W.iret (v := (-14)) hx hb hr (fun t ht hW => ⟨⟨_, (), rfl, by rw [if_neg k2048, if_neg k2050, if_neg c2053, if_pos rfl, if_pos c2057, if_neg c2058], by rw [ht]; exact hP9, hD9⟩, hS.F ht⟩) hS.2.2 dX11_sheet_50
              · refine lv_bipush (v := (-2)) hx hb dX11_sheet_41 (by decide) ?_
                have hP9 := hP.sub (ws' := []) [] rfl
                have hD9 := hD.sub (ws' := []) [] (by decide) rfl
                subst hAe
                exact W.iret (v := (-2)) hx hb hr (fun t ht hW => ⟨⟨_, (), rfl, by rw [if_neg k2048, if_neg k2050, if_neg c2053, if_pos rfl, if_neg c2057], by rw [ht]; exact hP9, hD9⟩, hS.F ht⟩) hS.2.2 dX11_sheet_43
          · rw [if_neg k2055] at hw
            by_cases k2107 : x1 = 1
            · rw [if_pos k2107] at hw
              subst k2107
              subst hw
              refine lv_if_eq (tgt := 41) hx hb dX11_sheet_32 (by decide) (fun c2108 => ?_) (fun c2108 => ?_)
              · exact absurd c2108 (by decide)
              · refine lv_iload_n hx hb dX11_sheet_35 rfl (lv_at hl 3 rfl) ?_
                refine lv_bipush (v := 40) hx hb dX11_sheet_36 (by decide) ?_
                refine lv_icmp_le (tgt := 44) hx hb dX11_sheet_38 (by decide) (fun c2109 => ?_) (fun c2109 => ?_)
                · refine lv_iload_n hx hb dX11_sheet_44 rfl (lv_at hl 3 rfl) ?_
                  refine lv_if_ge (tgt := 51) hx hb dX11_sheet_45 (by decide) (fun c2110 => ?_) (fun c2110 => ?_)
                  · refine lv_aload_n hx hb dX11_sheet_51 rfl (lv_at hl 0 rfl) ?_
                    refine va_get (D := D) (ci := 11) (v := .ref h11) (C := RX11) (T := TX11) (N := 16) hx hb hts hin11 hown hK hP 0 rfl rfl 12 (by decide) (hts (.fieldLink RX11 75 "MissedPoints" "sheets" "[LMissedPoints$Sheet;") (by decide +kernel)) (fun _ h9 => h9) rfl dX11_sheet_52 ?_
                    refine lv_iload_n hx hb dX11_sheet_55 rfl (lv_at hl 1 rfl) ?_
                    by_cases k2111 : x0 = 0
                    · subst k2111
                      refine va_aldq hx hb hK hP 11 1 rfl rfl (lz_vp (x := 0) (n := 4) (by decide) (by decide)) dX11_sheet_56 ?_
                      refine lz_va (y := .ref h25) rfl ?_
                      refine lv_iload_n hx hb dX11_sheet_57 rfl (lv_at hl 2 rfl) ?_
                      refine lv_iload_n hx hb dX11_sheet_58 rfl (lv_at hl 3 rfl) ?_
                      have hPc := hP.sub (ws' := [(h25, .inr (6, [.ref h41, .int (-1), .int 0])), (h41, .inl (cI, 40, .inl (fun _ => 0)))]) [25, 41] rfl
                      have hDc := hD.sub (ws' := [(h25, .inr (6, [.ref h41, .int (-1), .int 0])), (h41, .inl (cI, 40, .inl (fun _ => 0)))]) [25, 41] (by decide) rfl
                      refine lz_qv (wr := [(h0, .inr (11, [.ref h1, .ref h2, .ref h3, .ref h4, .ref h5, .ref h6, .ref h7, .int 0, .int 0, .ref h8, .ref h9, .ref h10, .ref h11, .ref h12, .ref h13, .ref h14])), (h1, .inr (2, [.ref h15, .int 0, .int 0])), (h2, .inr (3, [.ref h1, .ref h16, .ref h17, .int 0])), (h3, .inr (4, [.ref h1, .ref h2])), (h4, .inr (10, [.ref h1, .ref h2, .ref h18, .int 0, .int 0, .int 0, .int 0, .int (-1)])), (h5, .inr (2, [.ref h19, .int 0, .int 0])), (h6, .inr (3, [.ref h5, .ref h20, .ref h21, .int 0])), (h7, .inr (2, [.ref h22, .int 0, .int 0])), (h8, .inr (0, [.int 1])), (h9, .inr (8, [.ref h23, .int 0])), (h10, .inr (5, [.ref h9, .ref h1, .ref h24, .int 0, .int 0, .int 0, .int 0, .int 0])), (h11, .inl (cS, 4, .inr (.inr (.inr (.inr (fun k => [h25, h26, h27, h28][k]?)))))), (h12, .inr (9, [.ref h1, .ref h2, .ref h29, .ref h30, .ref h31, .int 0])), (h13, .inr (9, [.ref h1, .ref h2, .ref h32, .ref h33, .ref h34, .int 0])), (h14, .inr (7, [.ref h35, .ref h36])), (h15, .inl (cI, 12, .inl (fun _ => 0))), (h16, .inr (1, [.ref h37, .int 1])), (h17, .inr (1, [.ref h38, .int 1])), (h18, .inl (cI, 5, .inl (fun _ => 0))), (h19, .inl (cI, 12, .inl (fun _ => 0))), (h20, .inr (1, [.ref h39, .int 1])), (h21, .inr (1, [.ref h40, .int 1])), (h22, .inl (cI, 12, .inl (fun _ => 0))), (h23, .inl (cI, 120, .inl (fun _ => 0))), (h24, .inl (cI, 12, .inl (fun _ => 0))), (h26, .inr (6, [.ref h42, .int (-1), .int 0])), (h27, .inr (6, [.ref h43, .int (-1), .int 0])), (h28, .inr (6, [.ref h44, .int (-1), .int 0])), (h29, .inl (cI, 12, .inl (fun _ => 0))), (h30, .inl (cI, 12, .inl (fun _ => 0))), (h31, .inl (cI, 12, .inl (fun _ => 0))), (h32, .inl (cI, 12, .inl (fun _ => 0))), (h33, .inl (cI, 12, .inl (fun _ => 0))), (h34, .inl (cI, 12, .inl (fun _ => 0))), (h35, .inl (cI, 4, .inl (fun _ => -1))), (h36, .inl (cI, 4, .inl (fun _ => 0))), (h37, .inl (cI, 4096, .inl (fun _ => 0))), (h38, .inl (cI, 0, .inl (fun _ => 0))), (h39, .inl (cI, 4096, .inl (fun _ => 0))), (h40, .inl (cI, 0, .inl (fun _ => 0))), (h42, .inl (cI, 40, .inl (fun _ => 0))), (h43, .inl (cI, 40, .inl (fun _ => 0))), (h44, .inl (cI, 40, .inl (fun _ => 0)))]) (w1 := [(h25, .inr (6, [.ref h41, .int 1, .int (if (0 : Int32) < (if (40 : Int32) < x2 then (40 : Int32) else x2) then (if (40 : Int32) < x2 then (40 : Int32) else x2) else (0 : Int32))])), (h41, .inl (cI, 40, .inl (fun _ => 0)))]) (As := [.int 1, .int x2]) (rest := []) ⟨hx, hb, hml, hown, hts⟩ (c_X6_become_3 l D cI cS H.size h25 h41 x2) hKK hP hD hS hA [25, 41] [0, 1, 2, 3, 4, 5, 6, 7, 8, 9, 10, 11, 12, 13, 14, 15, 16, 17, 18, 19, 20, 21, 22, 23, 24, 26, 27, 28, 29, 30, 31, 32, 33, 34, 35, 36, 37, 38, 39, 40, 42, 43, 44] (by decide) rfl rfl (by decide) (by decide) hPc hDc (ci := 6) rfl rfl (cwV 2 hts gX11_sheet_X6_become rfl rfl rfl (by decide +kernel) ⟨Nat.le_of_ble_eq_true rfl, Nat.le_of_ble_eq_true rfl⟩) rfl hl.1 rfl (Nat.le_of_ble_eq_true rfl) dX11_sheet_59 ⟨Nat.le_of_ble_eq_true rfl, Nat.le_of_ble_eq_true rfl⟩ (fun H locs hP hD hS => ?_)
                      have hP : va_P D cls [(h0, .inr (11, [.ref h1, .ref h2, .ref h3, .ref h4, .ref h5, .ref h6, .ref h7, .int 0, .int 0, .ref h8, .ref h9, .ref h10, .ref h11, .ref h12, .ref h13, .ref h14])), (h1, .inr (2, [.ref h15, .int 0, .int 0])), (h2, .inr (3, [.ref h1, .ref h16, .ref h17, .int 0])), (h3, .inr (4, [.ref h1, .ref h2])), (h4, .inr (10, [.ref h1, .ref h2, .ref h18, .int 0, .int 0, .int 0, .int 0, .int (-1)])), (h5, .inr (2, [.ref h19, .int 0, .int 0])), (h6, .inr (3, [.ref h5, .ref h20, .ref h21, .int 0])), (h7, .inr (2, [.ref h22, .int 0, .int 0])), (h8, .inr (0, [.int 1])), (h9, .inr (8, [.ref h23, .int 0])), (h10, .inr (5, [.ref h9, .ref h1, .ref h24, .int 0, .int 0, .int 0, .int 0, .int 0])), (h11, .inl (cS, 4, .inr (.inr (.inr (.inr (fun k => [h25, h26, h27, h28][k]?)))))), (h12, .inr (9, [.ref h1, .ref h2, .ref h29, .ref h30, .ref h31, .int 0])), (h13, .inr (9, [.ref h1, .ref h2, .ref h32, .ref h33, .ref h34, .int 0])), (h14, .inr (7, [.ref h35, .ref h36])), (h15, .inl (cI, 12, .inl (fun _ => 0))), (h16, .inr (1, [.ref h37, .int 1])), (h17, .inr (1, [.ref h38, .int 1])), (h18, .inl (cI, 5, .inl (fun _ => 0))), (h19, .inl (cI, 12, .inl (fun _ => 0))), (h20, .inr (1, [.ref h39, .int 1])), (h21, .inr (1, [.ref h40, .int 1])), (h22, .inl (cI, 12, .inl (fun _ => 0))), (h23, .inl (cI, 120, .inl (fun _ => 0))), (h24, .inl (cI, 12, .inl (fun _ => 0))), (h26, .inr (6, [.ref h42, .int (-1), .int 0])), (h27, .inr (6, [.ref h43, .int (-1), .int 0])), (h28, .inr (6, [.ref h44, .int (-1), .int 0])), (h29, .inl (cI, 12, .inl (fun _ => 0))), (h30, .inl (cI, 12, .inl (fun _ => 0))), (h31, .inl (cI, 12, .inl (fun _ => 0))), (h32, .inl (cI, 12, .inl (fun _ => 0))), (h33, .inl (cI, 12, .inl (fun _ => 0))), (h34, .inl (cI, 12, .inl (fun _ => 0))), (h35, .inl (cI, 4, .inl (fun _ => -1))), (h36, .inl (cI, 4, .inl (fun _ => 0))), (h37, .inl (cI, 4096, .inl (fun _ => 0))), (h38, .inl (cI, 0, .inl (fun _ => 0))), (h39, .inl (cI, 4096, .inl (fun _ => 0))), (h40, .inl (cI, 0, .inl (fun _ => 0))), (h42, .inl (cI, 40, .inl (fun _ => 0))), (h43, .inl (cI, 40, .inl (fun _ => 0))), (h44, .inl (cI, 40, .inl (fun _ => 0))), (h25, .inr (6, [.ref h41, .int 1, .int (if (0 : Int32) < (if (40 : Int32) < x2 then (40 : Int32) else x2) then (if (40 : Int32) < x2 then (40 : Int32) else x2) else (0 : Int32))])), (h41, .inl (cI, 40, .inl (fun _ => 0)))] H := hP
                      have hD : va_D A [(h0, .inr (11, [.ref h1, .ref h2, .ref h3, .ref h4, .ref h5, .ref h6, .ref h7, .int 0, .int 0, .ref h8, .ref h9, .ref h10, .ref h11, .ref h12, .ref h13, .ref h14])), (h1, .inr (2, [.ref h15, .int 0, .int 0])), (h2, .inr (3, [.ref h1, .ref h16, .ref h17, .int 0])), (h3, .inr (4, [.ref h1, .ref h2])), (h4, .inr (10, [.ref h1, .ref h2, .ref h18, .int 0, .int 0, .int 0, .int 0, .int (-1)])), (h5, .inr (2, [.ref h19, .int 0, .int 0])), (h6, .inr (3, [.ref h5, .ref h20, .ref h21, .int 0])), (h7, .inr (2, [.ref h22, .int 0, .int 0])), (h8, .inr (0, [.int 1])), (h9, .inr (8, [.ref h23, .int 0])), (h10, .inr (5, [.ref h9, .ref h1, .ref h24, .int 0, .int 0, .int 0, .int 0, .int 0])), (h11, .inl (cS, 4, .inr (.inr (.inr (.inr (fun k => [h25, h26, h27, h28][k]?)))))), (h12, .inr (9, [.ref h1, .ref h2, .ref h29, .ref h30, .ref h31, .int 0])), (h13, .inr (9, [.ref h1, .ref h2, .ref h32, .ref h33, .ref h34, .int 0])), (h14, .inr (7, [.ref h35, .ref h36])), (h15, .inl (cI, 12, .inl (fun _ => 0))), (h16, .inr (1, [.ref h37, .int 1])), (h17, .inr (1, [.ref h38, .int 1])), (h18, .inl (cI, 5, .inl (fun _ => 0))), (h19, .inl (cI, 12, .inl (fun _ => 0))), (h20, .inr (1, [.ref h39, .int 1])), (h21, .inr (1, [.ref h40, .int 1])), (h22, .inl (cI, 12, .inl (fun _ => 0))), (h23, .inl (cI, 120, .inl (fun _ => 0))), (h24, .inl (cI, 12, .inl (fun _ => 0))), (h26, .inr (6, [.ref h42, .int (-1), .int 0])), (h27, .inr (6, [.ref h43, .int (-1), .int 0])), (h28, .inr (6, [.ref h44, .int (-1), .int 0])), (h29, .inl (cI, 12, .inl (fun _ => 0))), (h30, .inl (cI, 12, .inl (fun _ => 0))), (h31, .inl (cI, 12, .inl (fun _ => 0))), (h32, .inl (cI, 12, .inl (fun _ => 0))), (h33, .inl (cI, 12, .inl (fun _ => 0))), (h34, .inl (cI, 12, .inl (fun _ => 0))), (h35, .inl (cI, 4, .inl (fun _ => -1))), (h36, .inl (cI, 4, .inl (fun _ => 0))), (h37, .inl (cI, 4096, .inl (fun _ => 0))), (h38, .inl (cI, 0, .inl (fun _ => 0))), (h39, .inl (cI, 4096, .inl (fun _ => 0))), (h40, .inl (cI, 0, .inl (fun _ => 0))), (h42, .inl (cI, 40, .inl (fun _ => 0))), (h43, .inl (cI, 40, .inl (fun _ => 0))), (h44, .inl (cI, 40, .inl (fun _ => 0))), (h25, .inr (6, [.ref h41, .int 1, .int (if (0 : Int32) < (if (40 : Int32) < x2 then (40 : Int32) else x2) then (if (40 : Int32) < x2 then (40 : Int32) else x2) else (0 : Int32))])), (h41, .inl (cI, 40, .inl (fun _ => 0)))] := hD
                      refine lv_iconst (v := 1) hx hb dX11_sheet_62 (by decide) ?_
                      have hP9 := hP.sub (ws' := []) [] rfl
                      have hD9 := hD.sub (ws' := []) [] (by decide) rfl
                      subst hAe
                      exact W.iret (v := 1) hx hb hr (fun t ht hW => ⟨⟨_, (), rfl, by rw [if_neg k2048, if_neg k2050, if_neg c2053, if_neg k2055, if_pos rfl, if_pos c2109, if_pos c2110], by rw [ht]; exact hP9, hD9⟩, hS.F ht⟩) hS.2.2 dX11_sheet_63
                    · by_cases k2154 : x0 = 1
                      · subst k2154
                        refine va_aldq hx hb hK hP 11 1 rfl rfl (lz_vp (x := 1) (n := 4) (by decide) (by decide)) dX11_sheet_56 ?_
                        refine lz_va (y := .ref h26) rfl ?_
                        refine lv_iload_n hx hb dX11_sheet_57 rfl (lv_at hl 2 rfl) ?_
                        refine lv_iload_n hx hb dX11_sheet_58 rfl (lv_at hl 3 rfl) ?_
                        have hPc := hP.sub (ws' := [(h26, .inr (6, [.ref h42, .int (-1), .int 0])), (h42, .inl (cI, 40, .inl (fun _ => 0)))]) [26, 42] rfl
                        have hDc := hD.sub (ws' := [(h26, .inr (6, [.ref h42, .int (-1), .int 0])), (h42, .inl (cI, 40, .inl (fun _ => 0)))]) [26, 42] (by decide) rfl
                        refine lz_qv (wr := [(h0, .inr (11, [.ref h1, .ref h2, .ref h3, .ref h4, .ref h5, .ref h6, .ref h7, .int 0, .int 0, .ref h8, .ref h9, .ref h10, .ref h11, .ref h12, .ref h13, .ref h14])), (h1, .inr (2, [.ref h15, .int 0, .int 0])), (h2, .inr (3, [.ref h1, .ref h16, .ref h17, .int 0])), (h3, .inr (4, [.ref h1, .ref h2])), (h4, .inr (10, [.ref h1, .ref h2, .ref h18, .int 0, .int 0, .int 0, .int 0, .int (-1)])), (h5, .inr (2, [.ref h19, .int 0, .int 0])), (h6, .inr (3, [.ref h5, .ref h20, .ref h21, .int 0])), (h7, .inr (2, [.ref h22, .int 0, .int 0])), (h8, .inr (0, [.int 1])), (h9, .inr (8, [.ref h23, .int 0])), (h10, .inr (5, [.ref h9, .ref h1, .ref h24, .int 0, .int 0, .int 0, .int 0, .int 0])), (h11, .inl (cS, 4, .inr (.inr (.inr (.inr (fun k => [h25, h26, h27, h28][k]?)))))), (h12, .inr (9, [.ref h1, .ref h2, .ref h29, .ref h30, .ref h31, .int 0])), (h13, .inr (9, [.ref h1, .ref h2, .ref h32, .ref h33, .ref h34, .int 0])), (h14, .inr (7, [.ref h35, .ref h36])), (h15, .inl (cI, 12, .inl (fun _ => 0))), (h16, .inr (1, [.ref h37, .int 1])), (h17, .inr (1, [.ref h38, .int 1])), (h18, .inl (cI, 5, .inl (fun _ => 0))), (h19, .inl (cI, 12, .inl (fun _ => 0))), (h20, .inr (1, [.ref h39, .int 1])), (h21, .inr (1, [.ref h40, .int 1])), (h22, .inl (cI, 12, .inl (fun _ => 0))), (h23, .inl (cI, 120, .inl (fun _ => 0))), (h24, .inl (cI, 12, .inl (fun _ => 0))), (h25, .inr (6, [.ref h41, .int (-1), .int 0])), (h27, .inr (6, [.ref h43, .int (-1), .int 0])), (h28, .inr (6, [.ref h44, .int (-1), .int 0])), (h29, .inl (cI, 12, .inl (fun _ => 0))), (h30, .inl (cI, 12, .inl (fun _ => 0))), (h31, .inl (cI, 12, .inl (fun _ => 0))), (h32, .inl (cI, 12, .inl (fun _ => 0))), (h33, .inl (cI, 12, .inl (fun _ => 0))), (h34, .inl (cI, 12, .inl (fun _ => 0))), (h35, .inl (cI, 4, .inl (fun _ => -1))), (h36, .inl (cI, 4, .inl (fun _ => 0))), (h37, .inl (cI, 4096, .inl (fun _ => 0))), (h38, .inl (cI, 0, .inl (fun _ => 0))), (h39, .inl (cI, 4096, .inl (fun _ => 0))), (h40, .inl (cI, 0, .inl (fun _ => 0))), (h41, .inl (cI, 40, .inl (fun _ => 0))), (h43, .inl (cI, 40, .inl (fun _ => 0))), (h44, .inl (cI, 40, .inl (fun _ => 0)))]) (w1 := [(h26, .inr (6, [.ref h42, .int 1, .int (if (0 : Int32) < (if (40 : Int32) < x2 then (40 : Int32) else x2) then (if (40 : Int32) < x2 then (40 : Int32) else x2) else (0 : Int32))])), (h42, .inl (cI, 40, .inl (fun _ => 0)))]) (As := [.int 1, .int x2]) (rest := []) ⟨hx, hb, hml, hown, hts⟩ (c_X6_become_3 l D cI cS H.size h26 h42 x2) hKK hP hD hS hA [26, 42] [0, 1, 2, 3, 4, 5, 6, 7, 8, 9, 10, 11, 12, 13, 14, 15, 16, 17, 18, 19, 20, 21, 22, 23, 24, 25, 27, 28, 29, 30, 31, 32, 33, 34, 35, 36, 37, 38, 39, 40, 41, 43, 44] (by decide) rfl rfl (by decide) (by decide) hPc hDc (ci := 6) rfl rfl (cwV 2 hts gX11_sheet_X6_become rfl rfl rfl (by decide +kernel) ⟨Nat.le_of_ble_eq_true rfl, Nat.le_of_ble_eq_true rfl⟩) rfl hl.1 rfl (Nat.le_of_ble_eq_true rfl) dX11_sheet_59 ⟨Nat.le_of_ble_eq_true rfl, Nat.le_of_ble_eq_true rfl⟩ (fun H locs hP hD hS => ?_)
                        have hP : va_P D cls [(h0, .inr (11, [.ref h1, .ref h2, .ref h3, .ref h4, .ref h5, .ref h6, .ref h7, .int 0, .int 0, .ref h8, .ref h9, .ref h10, .ref h11, .ref h12, .ref h13, .ref h14])), (h1, .inr (2, [.ref h15, .int 0, .int 0])), (h2, .inr (3, [.ref h1, .ref h16, .ref h17, .int 0])), (h3, .inr (4, [.ref h1, .ref h2])), (h4, .inr (10, [.ref h1, .ref h2, .ref h18, .int 0, .int 0, .int 0, .int 0, .int (-1)])), (h5, .inr (2, [.ref h19, .int 0, .int 0])), (h6, .inr (3, [.ref h5, .ref h20, .ref h21, .int 0])), (h7, .inr (2, [.ref h22, .int 0, .int 0])), (h8, .inr (0, [.int 1])), (h9, .inr (8, [.ref h23, .int 0])), (h10, .inr (5, [.ref h9, .ref h1, .ref h24, .int 0, .int 0, .int 0, .int 0, .int 0])), (h11, .inl (cS, 4, .inr (.inr (.inr (.inr (fun k => [h25, h26, h27, h28][k]?)))))), (h12, .inr (9, [.ref h1, .ref h2, .ref h29, .ref h30, .ref h31, .int 0])), (h13, .inr (9, [.ref h1, .ref h2, .ref h32, .ref h33, .ref h34, .int 0])), (h14, .inr (7, [.ref h35, .ref h36])), (h15, .inl (cI, 12, .inl (fun _ => 0))), (h16, .inr (1, [.ref h37, .int 1])), (h17, .inr (1, [.ref h38, .int 1])), (h18, .inl (cI, 5, .inl (fun _ => 0))), (h19, .inl (cI, 12, .inl (fun _ => 0))), (h20, .inr (1, [.ref h39, .int 1])), (h21, .inr (1, [.ref h40, .int 1])), (h22, .inl (cI, 12, .inl (fun _ => 0))), (h23, .inl (cI, 120, .inl (fun _ => 0))), (h24, .inl (cI, 12, .inl (fun _ => 0))), (h25, .inr (6, [.ref h41, .int (-1), .int 0])), (h27, .inr (6, [.ref h43, .int (-1), .int 0])), (h28, .inr (6, [.ref h44, .int (-1), .int 0])), (h29, .inl (cI, 12, .inl (fun _ => 0))), (h30, .inl (cI, 12, .inl (fun _ => 0))), (h31, .inl (cI, 12, .inl (fun _ => 0))), (h32, .inl (cI, 12, .inl (fun _ => 0))), (h33, .inl (cI, 12, .inl (fun _ => 0))), (h34, .inl (cI, 12, .inl (fun _ => 0))), (h35, .inl (cI, 4, .inl (fun _ => -1))), (h36, .inl (cI, 4, .inl (fun _ => 0))), (h37, .inl (cI, 4096, .inl (fun _ => 0))), (h38, .inl (cI, 0, .inl (fun _ => 0))), (h39, .inl (cI, 4096, .inl (fun _ => 0))), (h40, .inl (cI, 0, .inl (fun _ => 0))), (h41, .inl (cI, 40, .inl (fun _ => 0))), (h43, .inl (cI, 40, .inl (fun _ => 0))), (h44, .inl (cI, 40, .inl (fun _ => 0))), (h26, .inr (6, [.ref h42, .int 1, .int (if (0 : Int32) < (if (40 : Int32) < x2 then (40 : Int32) else x2) then (if (40 : Int32) < x2 then (40 : Int32) else x2) else (0 : Int32))])), (h42, .inl (cI, 40, .inl (fun _ => 0)))] H := hP
                        have hD : va_D A [(h0, .inr (11, [.ref h1, .ref h2, .ref h3, .ref h4, .ref h5, .ref h6, .ref h7, .int 0, .int 0, .ref h8, .ref h9, .ref h10, .ref h11, .ref h12, .ref h13, .ref h14])), (h1, .inr (2, [.ref h15, .int 0, .int 0])), (h2, .inr (3, [.ref h1, .ref h16, .ref h17, .int 0])), (h3, .inr (4, [.ref h1, .ref h2])), (h4, .inr (10, [.ref h1, .ref h2, .ref h18, .int 0, .int 0, .int 0, .int 0, .int (-1)])), (h5, .inr (2, [.ref h19, .int 0, .int 0])), (h6, .inr (3, [.ref h5, .ref h20, .ref h21, .int 0])), (h7, .inr (2, [.ref h22, .int 0, .int 0])), (h8, .inr (0, [.int 1])), (h9, .inr (8, [.ref h23, .int 0])), (h10, .inr (5, [.ref h9, .ref h1, .ref h24, .int 0, .int 0, .int 0, .int 0, .int 0])), (h11, .inl (cS, 4, .inr (.inr (.inr (.inr (fun k => [h25, h26, h27, h28][k]?)))))), (h12, .inr (9, [.ref h1, .ref h2, .ref h29, .ref h30, .ref h31, .int 0])), (h13, .inr (9, [.ref h1, .ref h2, .ref h32, .ref h33, .ref h34, .int 0])), (h14, .inr (7, [.ref h35, .ref h36])), (h15, .inl (cI, 12, .inl (fun _ => 0))), (h16, .inr (1, [.ref h37, .int 1])), (h17, .inr (1, [.ref h38, .int 1])), (h18, .inl (cI, 5, .inl (fun _ => 0))), (h19, .inl (cI, 12, .inl (fun _ => 0))), (h20, .inr (1, [.ref h39, .int 1])), (h21, .inr (1, [.ref h40, .int 1])), (h22, .inl (cI, 12, .inl (fun _ => 0))), (h23, .inl (cI, 120, .inl (fun _ => 0))), (h24, .inl (cI, 12, .inl (fun _ => 0))), (h25, .inr (6, [.ref h41, .int (-1), .int 0])), (h27, .inr (6, [.ref h43, .int (-1), .int 0])), (h28, .inr (6, [.ref h44, .int (-1), .int 0])), (h29, .inl (cI, 12, .inl (fun _ => 0))), (h30, .inl (cI, 12, .inl (fun _ => 0))), (h31, .inl (cI, 12, .inl (fun _ => 0))), (h32, .inl (cI, 12, .inl (fun _ => 0))), (h33, .inl (cI, 12, .inl (fun _ => 0))), (h34, .inl (cI, 12, .inl (fun _ => 0))), (h35, .inl (cI, 4, .inl (fun _ => -1))), (h36, .inl (cI, 4, .inl (fun _ => 0))), (h37, .inl (cI, 4096, .inl (fun _ => 0))), (h38, .inl (cI, 0, .inl (fun _ => 0))), (h39, .inl (cI, 4096, .inl (fun _ => 0))), (h40, .inl (cI, 0, .inl (fun _ => 0))), (h41, .inl (cI, 40, .inl (fun _ => 0))), (h43, .inl (cI, 40, .inl (fun _ => 0))), (h44, .inl (cI, 40, .inl (fun _ => 0))), (h26, .inr (6, [.ref h42, .int 1, .int (if (0 : Int32) < (if (40 : Int32) < x2 then (40 : Int32) else x2) then (if (40 : Int32) < x2 then (40 : Int32) else x2) else (0 : Int32))])), (h42, .inl (cI, 40, .inl (fun _ => 0)))] := hD
                        refine lv_iconst (v := 1) hx hb dX11_sheet_62 (by decide) ?_
                        have hP9 := hP.sub (ws' := []) [] rfl
                        have hD9 := hD.sub (ws' := []) [] (by decide) rfl
                        subst hAe
                        exact W.iret (v := 1) hx hb hr (fun t ht hW => ⟨⟨_, (), rfl, by rw [if_neg k2048, if_neg k2050, if_neg c2053, if_neg k2055, if_pos rfl, if_pos c2109, if_pos c2110], by rw [ht]; exact hP9, hD9⟩, hS.F ht⟩) hS.2.2 dX11_sheet_63
                      · by_cases k2156 : x0 = 2
                        · subst k2156
                          refine va_aldq hx hb hK hP 11 1 rfl rfl (lz_vp (x := 2) (n := 4) (by decide) (by decide)) dX11_sheet_56 ?_
                          refine lz_va (y := .ref h27) rfl ?_
                          refine lv_iload_n hx hb dX11_sheet_57 rfl (lv_at hl 2 rfl) ?_
                          refine lv_iload_n hx hb dX11_sheet_58 rfl (lv_at hl 3 rfl) ?_
                          have hPc := hP.sub (ws' := [(h27, .inr (6, [.ref h43, .int (-1), .int 0])), (h43, .inl (cI, 40, .inl (fun _ => 0)))]) [27, 43] rfl
                          have hDc := hD.sub (ws' := [(h27, .inr (6, [.ref h43, .int (-1), .int 0])), (h43, .inl (cI, 40, .inl (fun _ => 0)))]) [27, 43] (by decide) rfl
                          refine lz_qv (wr := [(h0, .inr (11, [.ref h1, .ref h2, .ref h3, .ref h4, .ref h5, .ref h6, .ref h7, .int 0, .int 0, .ref h8, .ref h9, .ref h10, .ref h11, .ref h12, .ref h13, .ref h14])), (h1, .inr (2, [.ref h15, .int 0, .int 0])), (h2, .inr (3, [.ref h1, .ref h16, .ref h17, .int 0])), (h3, .inr (4, [.ref h1, .ref h2])), (h4, .inr (10, [.ref h1, .ref h2, .ref h18, .int 0, .int 0, .int 0, .int 0, .int (-1)])), (h5, .inr (2, [.ref h19, .int 0, .int 0])), (h6, .inr (3, [.ref h5, .ref h20, .ref h21, .int 0])), (h7, .inr (2, [.ref h22, .int 0, .int 0])), (h8, .inr (0, [.int 1])), (h9, .inr (8, [.ref h23, .int 0])), (h10, .inr (5, [.ref h9, .ref h1, .ref h24, .int 0, .int 0, .int 0, .int 0, .int 0])), (h11, .inl (cS, 4, .inr (.inr (.inr (.inr (fun k => [h25, h26, h27, h28][k]?)))))), (h12, .inr (9, [.ref h1, .ref h2, .ref h29, .ref h30, .ref h31, .int 0])), (h13, .inr (9, [.ref h1, .ref h2, .ref h32, .ref h33, .ref h34, .int 0])), (h14, .inr (7, [.ref h35, .ref h36])), (h15, .inl (cI, 12, .inl (fun _ => 0))), (h16, .inr (1, [.ref h37, .int 1])), (h17, .inr (1, [.ref h38, .int 1])), (h18, .inl (cI, 5, .inl (fun _ => 0))), (h19, .inl (cI, 12, .inl (fun _ => 0))), (h20, .inr (1, [.ref h39, .int 1])), (h21, .inr (1, [.ref h40, .int 1])), (h22, .inl (cI, 12, .inl (fun _ => 0))), (h23, .inl (cI, 120, .inl (fun _ => 0))), (h24, .inl (cI, 12, .inl (fun _ => 0))), (h25, .inr (6, [.ref h41, .int (-1), .int 0])), (h26, .inr (6, [.ref h42, .int (-1), .int 0])), (h28, .inr (6, [.ref h44, .int (-1), .int 0])), (h29, .inl (cI, 12, .inl (fun _ => 0))), (h30, .inl (cI, 12, .inl (fun _ => 0))), (h31, .inl (cI, 12, .inl (fun _ => 0))), (h32, .inl (cI, 12, .inl (fun _ => 0))), (h33, .inl (cI, 12, .inl (fun _ => 0))), (h34, .inl (cI, 12, .inl (fun _ => 0))), (h35, .inl (cI, 4, .inl (fun _ => -1))), (h36, .inl (cI, 4, .inl (fun _ => 0))), (h37, .inl (cI, 4096, .inl (fun _ => 0))), (h38, .inl (cI, 0, .inl (fun _ => 0))), (h39, .inl (cI, 4096, .inl (fun _ => 0))), (h40, .inl (cI, 0, .inl (fun _ => 0))), (h41, .inl (cI, 40, .inl (fun _ => 0))), (h42, .inl (cI, 40, .inl (fun _ => 0))), (h44, .inl (cI, 40, .inl (fun _ => 0)))]) (w1 := [(h27, .inr (6, [.ref h43, .int 1, .int (if (0 : Int32) < (if (40 : Int32) < x2 then (40 : Int32) else x2) then (if (40 : Int32) < x2 then (40 : Int32) else x2) else (0 : Int32))])), (h43, .inl (cI, 40, .inl (fun _ => 0)))]) (As := [.int 1, .int x2]) (rest := []) ⟨hx, hb, hml, hown, hts⟩ (c_X6_become_3 l D cI cS H.size h27 h43 x2) hKK hP hD hS hA [27, 43] [0, 1, 2, 3, 4, 5, 6, 7, 8, 9, 10, 11, 12, 13, 14, 15, 16, 17, 18, 19, 20, 21, 22, 23, 24, 25, 26, 28, 29, 30, 31, 32, 33, 34, 35, 36, 37, 38, 39, 40, 41, 42, 44] (by decide) rfl rfl (by decide) (by decide) hPc hDc (ci := 6) rfl rfl (cwV 2 hts gX11_sheet_X6_become rfl rfl rfl (by decide +kernel) ⟨Nat.le_of_ble_eq_true rfl, Nat.le_of_ble_eq_true rfl⟩) rfl hl.1 rfl (Nat.le_of_ble_eq_true rfl) dX11_sheet_59 ⟨Nat.le_of_ble_eq_true rfl, Nat.le_of_ble_eq_true rfl⟩ (fun H locs hP hD hS => ?_)
                          have hP : va_P D cls [(h0, .inr (11, [.ref h1, .ref h2, .ref h3, .ref h4, .ref h5, .ref h6, .ref h7, .int 0, .int 0, .ref h8, .ref h9, .ref h10, .ref h11, .ref h12, .ref h13, .ref h14])), (h1, .inr (2, [.ref h15, .int 0, .int 0])), (h2, .inr (3, [.ref h1, .ref h16, .ref h17, .int 0])), (h3, .inr (4, [.ref h1, .ref h2])), (h4, .inr (10, [.ref h1, .ref h2, .ref h18, .int 0, .int 0, .int 0, .int 0, .int (-1)])), (h5, .inr (2, [.ref h19, .int 0, .int 0])), (h6, .inr (3, [.ref h5, .ref h20, .ref h21, .int 0])), (h7, .inr (2, [.ref h22, .int 0, .int 0])), (h8, .inr (0, [.int 1])), (h9, .inr (8, [.ref h23, .int 0])), (h10, .inr (5, [.ref h9, .ref h1, .ref h24, .int 0, .int 0, .int 0, .int 0, .int 0])), (h11, .inl (cS, 4, .inr (.inr (.inr (.inr (fun k => [h25, h26, h27, h28][k]?)))))), (h12, .inr (9, [.ref h1, .ref h2, .ref h29, .ref h30, .ref h31, .int 0])), (h13, .inr (9, [.ref h1, .ref h2, .ref h32, .ref h33, .ref h34, .int 0])), (h14, .inr (7, [.ref h35, .ref h36])), (h15, .inl (cI, 12, .inl (fun _ => 0))), (h16, .inr (1, [.ref h37, .int 1])), (h17, .inr (1, [.ref h38, .int 1])), (h18, .inl (cI, 5, .inl (fun _ => 0))), (h19, .inl (cI, 12, .inl (fun _ => 0))), (h20, .inr (1, [.ref h39, .int 1])), (h21, .inr (1, [.ref h40, .int 1])), (h22, .inl (cI, 12, .inl (fun _ => 0))), (h23, .inl (cI, 120, .inl (fun _ => 0))), (h24, .inl (cI, 12, .inl (fun _ => 0))), (h25, .inr (6, [.ref h41, .int (-1), .int 0])), (h26, .inr (6, [.ref h42, .int (-1), .int 0])), (h28, .inr (6, [.ref h44, .int (-1), .int 0])), (h29, .inl (cI, 12, .inl (fun _ => 0))), (h30, .inl (cI, 12, .inl (fun _ => 0))), (h31, .inl (cI, 12, .inl (fun _ => 0))), (h32, .inl (cI, 12, .inl (fun _ => 0))), (h33, .inl (cI, 12, .inl (fun _ => 0))), (h34, .inl (cI, 12, .inl (fun _ => 0))), (h35, .inl (cI, 4, .inl (fun _ => -1))), (h36, .inl (cI, 4, .inl (fun _ => 0))), (h37, .inl (cI, 4096, .inl (fun _ => 0))), (h38, .inl (cI, 0, .inl (fun _ => 0))), (h39, .inl (cI, 4096, .inl (fun _ => 0))), (h40, .inl (cI, 0, .inl (fun _ => 0))), (h41, .inl (cI, 40, .inl (fun _ => 0))), (h42, .inl (cI, 40, .inl (fun _ => 0))), (h44, .inl (cI, 40, .inl (fun _ => 0))), (h27, .inr (6, [.ref h43, .int 1, .int (if (0 : Int32) < (if (40 : Int32) < x2 then (40 : Int32) else x2) then (if (40 : Int32) < x2 then (40 : Int32) else x2) else (0 : Int32))])), (h43, .inl (cI, 40, .inl (fun _ => 0)))] H := hP
                          have hD : va_D A [(h0, .inr (11, [.ref h1, .ref h2, .ref h3, .ref h4, .ref h5, .ref h6, .ref h7, .int 0, .int 0, .ref h8, .ref h9, .ref h10, .ref h11, .ref h12, .ref h13, .ref h14])), (h1, .inr (2, [.ref h15, .int 0, .int 0])), (h2, .inr (3, [.ref h1, .ref h16, .ref h17, .int 0])), (h3, .inr (4, [.ref h1, .ref h2])), (h4, .inr (10, [.ref h1, .ref h2, .ref h18, .int 0, .int 0, .int 0, .int 0, .int (-1)])), (h5, .inr (2, [.ref h19, .int 0, .int 0])), (h6, .inr (3, [.ref h5, .ref h20, .ref h21, .int 0])), (h7, .inr (2, [.ref h22, .int 0, .int 0])), (h8, .inr (0, [.int 1])), (h9, .inr (8, [.ref h23, .int 0])), (h10, .inr (5, [.ref h9, .ref h1, .ref h24, .int 0, .int 0, .int 0, .int 0, .int 0])), (h11, .inl (cS, 4, .inr (.inr (.inr (.inr (fun k => [h25, h26, h27, h28][k]?)))))), (h12, .inr (9, [.ref h1, .ref h2, .ref h29, .ref h30, .ref h31, .int 0])), (h13, .inr (9, [.ref h1, .ref h2, .ref h32, .ref h33, .ref h34, .int 0])), (h14, .inr (7, [.ref h35, .ref h36])), (h15, .inl (cI, 12, .inl (fun _ => 0))), (h16, .inr (1, [.ref h37, .int 1])), (h17, .inr (1, [.ref h38, .int 1])), (h18, .inl (cI, 5, .inl (fun _ => 0))), (h19, .inl (cI, 12, .inl (fun _ => 0))), (h20, .inr (1, [.ref h39, .int 1])), (h21, .inr (1, [.ref h40, .int 1])), (h22, .inl (cI, 12, .inl (fun _ => 0))), (h23, .inl (cI, 120, .inl (fun _ => 0))), (h24, .inl (cI, 12, .inl (fun _ => 0))), (h25, .inr (6, [.ref h41, .int (-1), .int 0])), (h26, .inr (6, [.ref h42, .int (-1), .int 0])), (h28, .inr (6, [.ref h44, .int (-1), .int 0])), (h29, .inl (cI, 12, .inl (fun _ => 0))), (h30, .inl (cI, 12, .inl (fun _ => 0))), (h31, .inl (cI, 12, .inl (fun _ => 0))), (h32, .inl (cI, 12, .inl (fun _ => 0))), (h33, .inl (cI, 12, .inl (fun _ => 0))), (h34, .inl (cI, 12, .inl (fun _ => 0))), (h35, .inl (cI, 4, .inl (fun _ => -1))), (h36, .inl (cI, 4, .inl (fun _ => 0))), (h37, .inl (cI, 4096, .inl (fun _ => 0))), (h38, .inl (cI, 0, .inl (fun _ => 0))), (h39, .inl (cI, 4096, .inl (fun _ => 0))), (h40, .inl (cI, 0, .inl (fun _ => 0))), (h41, .inl (cI, 40, .inl (fun _ => 0))), (h42, .inl (cI, 40, .inl (fun _ => 0))), (h44, .inl (cI, 40, .inl (fun _ => 0))), (h27, .inr (6, [.ref h43, .int 1, .int (if (0 : Int32) < (if (40 : Int32) < x2 then (40 : Int32) else x2) then (if (40 : Int32) < x2 then (40 : Int32) else x2) else (0 : Int32))])), (h43, .inl (cI, 40, .inl (fun _ => 0)))] := hD
                          refine lv_iconst (v := 1) hx hb dX11_sheet_62 (by decide) ?_
                          have hP9 := hP.sub (ws' := []) [] rfl
                          have hD9 := hD.sub (ws' := []) [] (by decide) rfl
                          subst hAe
                          exact W.iret (v := 1) hx hb hr (fun t ht hW => ⟨⟨_, (), rfl, by rw [if_neg k2048, if_neg k2050, if_neg c2053, if_neg k2055, if_pos rfl, if_pos c2109, if_pos c2110], by rw [ht]; exact hP9, hD9⟩, hS.F ht⟩) hS.2.2 dX11_sheet_63
                        · obtain rfl : x0 = 3 := by have zf1 := mt (lz_lt x0 (0 : Int32)).mpr k2048; have zf2 := mt (lz_le (4 : Int32) x0).mpr k2050; have zf3 := mt (lz_eq (1 : Int32) ((-1) : Int32)).mpr c2053; have zf4 := mt (lz_eq (1 : Int32) (0 : Int32)).mpr k2055; have zf5 := (lz_le x2 (40 : Int32)).mp c2109; have zf6 := (lz_le (0 : Int32) x2).mp c2110; have zf7 := mt (lz_eq x0 (0 : Int32)).mpr k2111; have zf8 := mt (lz_eq x0 (1 : Int32)).mpr k2154; have zf9 := mt (lz_eq x0 (2 : Int32)).mpr k2156; have zn0 : ((-1) : Int32).toInt = -1 := (by decide); have zn1 : (0 : Int32).toInt = 0 := (by decide); have zn2 : (1 : Int32).toInt = 1 := (by decide); have zn3 : (2 : Int32).toInt = 2 := (by decide); have zn4 : (3 : Int32).toInt = 3 := (by decide); have zn5 : (4 : Int32).toInt = 4 := (by decide); have zn6 : (40 : Int32).toInt = 40 := (by decide); rw [lz_eq]; omega
                          refine va_aldq hx hb hK hP 11 1 rfl rfl (lz_vp (x := 3) (n := 4) (by decide) (by decide)) dX11_sheet_56 ?_
                          refine lz_va (y := .ref h28) rfl ?_
                          refine lv_iload_n hx hb dX11_sheet_57 rfl (lv_at hl 2 rfl) ?_
                          refine lv_iload_n hx hb dX11_sheet_58 rfl (lv_at hl 3 rfl) ?_
                          have hPc := hP.sub (ws' := [(h28, .inr (6, [.ref h44, .int (-1), .int 0])), (h44, .inl (cI, 40, .inl (fun _ => 0)))]) [28, 44] rfl
                          have hDc := hD.sub (ws' := [(h28, .inr (6, [.ref h44, .int (-1), .int 0])), (h44, .inl (cI, 40, .inl (fun _ => 0)))]) [28, 44] (by decide) rfl
                          refine lz_qv (wr := [(h0, .inr (11, [.ref h1, .ref h2, .ref h3, .ref h4, .ref h5, .ref h6, .ref h7, .int 0, .int 0, .ref h8, .ref h9, .ref h10, .ref h11, .ref h12, .ref h13, .ref h14])), (h1, .inr (2, [.ref h15, .int 0, .int 0])), (h2, .inr (3, [.ref h1, .ref h16, .ref h17, .int 0])), (h3, .inr (4, [.ref h1, .ref h2])), (h4, .inr (10, [.ref h1, .ref h2, .ref h18, .int 0, .int 0, .int 0, .int 0, .int (-1)])), (h5, .inr (2, [.ref h19, .int 0, .int 0])), (h6, .inr (3, [.ref h5, .ref h20, .ref h21, .int 0])), (h7, .inr (2, [.ref h22, .int 0, .int 0])), (h8, .inr (0, [.int 1])), (h9, .inr (8, [.ref h23, .int 0])), (h10, .inr (5, [.ref h9, .ref h1, .ref h24, .int 0, .int 0, .int 0, .int 0, .int 0])), (h11, .inl (cS, 4, .inr (.inr (.inr (.inr (fun k => [h25, h26, h27, h28][k]?)))))), (h12, .inr (9, [.ref h1, .ref h2, .ref h29, .ref h30, .ref h31, .int 0])), (h13, .inr (9, [.ref h1, .ref h2, .ref h32, .ref h33, .ref h34, .int 0])), (h14, .inr (7, [.ref h35, .ref h36])), (h15, .inl (cI, 12, .inl (fun _ => 0))), (h16, .inr (1, [.ref h37, .int 1])), (h17, .inr (1, [.ref h38, .int 1])), (h18, .inl (cI, 5, .inl (fun _ => 0))), (h19, .inl (cI, 12, .inl (fun _ => 0))), (h20, .inr (1, [.ref h39, .int 1])), (h21, .inr (1, [.ref h40, .int 1])), (h22, .inl (cI, 12, .inl (fun _ => 0))), (h23, .inl (cI, 120, .inl (fun _ => 0))), (h24, .inl (cI, 12, .inl (fun _ => 0))), (h25, .inr (6, [.ref h41, .int (-1), .int 0])), (h26, .inr (6, [.ref h42, .int (-1), .int 0])), (h27, .inr (6, [.ref h43, .int (-1), .int 0])), (h29, .inl (cI, 12, .inl (fun _ => 0))), (h30, .inl (cI, 12, .inl (fun _ => 0))), (h31, .inl (cI, 12, .inl (fun _ => 0))), (h32, .inl (cI, 12, .inl (fun _ => 0))), (h33, .inl (cI, 12, .inl (fun _ => 0))), (h34, .inl (cI, 12, .inl (fun _ => 0))), (h35, .inl (cI, 4, .inl (fun _ => -1))), (h36, .inl (cI, 4, .inl (fun _ => 0))), (h37, .inl (cI, 4096, .inl (fun _ => 0))), (h38, .inl (cI, 0, .inl (fun _ => 0))), (h39, .inl (cI, 4096, .inl (fun _ => 0))), (h40, .inl (cI, 0, .inl (fun _ => 0))), (h41, .inl (cI, 40, .inl (fun _ => 0))), (h42, .inl (cI, 40, .inl (fun _ => 0))), (h43, .inl (cI, 40, .inl (fun _ => 0)))]) (w1 := [(h28, .inr (6, [.ref h44, .int 1, .int (if (0 : Int32) < (if (40 : Int32) < x2 then (40 : Int32) else x2) then (if (40 : Int32) < x2 then (40 : Int32) else x2) else (0 : Int32))])), (h44, .inl (cI, 40, .inl (fun _ => 0)))]) (As := [.int 1, .int x2]) (rest := []) ⟨hx, hb, hml, hown, hts⟩ (c_X6_become_3 l D cI cS H.size h28 h44 x2) hKK hP hD hS hA [28, 44] [0, 1, 2, 3, 4, 5, 6, 7, 8, 9, 10, 11, 12, 13, 14, 15, 16, 17, 18, 19, 20, 21, 22, 23, 24, 25, 26, 27, 29, 30, 31, 32, 33, 34, 35, 36, 37, 38, 39, 40, 41, 42, 43] (by decide) rfl rfl (by decide) (by decide) hPc hDc (ci := 6) rfl rfl (cwV 2 hts gX11_sheet_X6_become rfl rfl rfl (by decide +kernel) ⟨Nat.le_of_ble_eq_true rfl, Nat.le_of_ble_eq_true rfl⟩) rfl hl.1 rfl (Nat.le_of_ble_eq_true rfl) dX11_sheet_59 ⟨Nat.le_of_ble_eq_true rfl, Nat.le_of_ble_eq_true rfl⟩ (fun H locs hP hD hS => ?_)
                          have hP : va_P D cls [(h0, .inr (11, [.ref h1, .ref h2, .ref h3, .ref h4, .ref h5, .ref h6, .ref h7, .int 0, .int 0, .ref h8, .ref h9, .ref h10, .ref h11, .ref h12, .ref h13, .ref h14])), (h1, .inr (2, [.ref h15, .int 0, .int 0])), (h2, .inr (3, [.ref h1, .ref h16, .ref h17, .int 0])), (h3, .inr (4, [.ref h1, .ref h2])), (h4, .inr (10, [.ref h1, .ref h2, .ref h18, .int 0, .int 0, .int 0, .int 0, .int (-1)])), (h5, .inr (2, [.ref h19, .int 0, .int 0])), (h6, .inr (3, [.ref h5, .ref h20, .ref h21, .int 0])), (h7, .inr (2, [.ref h22, .int 0, .int 0])), (h8, .inr (0, [.int 1])), (h9, .inr (8, [.ref h23, .int 0])), (h10, .inr (5, [.ref h9, .ref h1, .ref h24, .int 0, .int 0, .int 0, .int 0, .int 0])), (h11, .inl (cS, 4, .inr (.inr (.inr (.inr (fun k => [h25, h26, h27, h28][k]?)))))), (h12, .inr (9, [.ref h1, .ref h2, .ref h29, .ref h30, .ref h31, .int 0])), (h13, .inr (9, [.ref h1, .ref h2, .ref h32, .ref h33, .ref h34, .int 0])), (h14, .inr (7, [.ref h35, .ref h36])), (h15, .inl (cI, 12, .inl (fun _ => 0))), (h16, .inr (1, [.ref h37, .int 1])), (h17, .inr (1, [.ref h38, .int 1])), (h18, .inl (cI, 5, .inl (fun _ => 0))), (h19, .inl (cI, 12, .inl (fun _ => 0))), (h20, .inr (1, [.ref h39, .int 1])), (h21, .inr (1, [.ref h40, .int 1])), (h22, .inl (cI, 12, .inl (fun _ => 0))), (h23, .inl (cI, 120, .inl (fun _ => 0))), (h24, .inl (cI, 12, .inl (fun _ => 0))), (h25, .inr (6, [.ref h41, .int (-1), .int 0])), (h26, .inr (6, [.ref h42, .int (-1), .int 0])), (h27, .inr (6, [.ref h43, .int (-1), .int 0])), (h29, .inl (cI, 12, .inl (fun _ => 0))), (h30, .inl (cI, 12, .inl (fun _ => 0))), (h31, .inl (cI, 12, .inl (fun _ => 0))), (h32, .inl (cI, 12, .inl (fun _ => 0))), (h33, .inl (cI, 12, .inl (fun _ => 0))), (h34, .inl (cI, 12, .inl (fun _ => 0))), (h35, .inl (cI, 4, .inl (fun _ => -1))), (h36, .inl (cI, 4, .inl (fun _ => 0))), (h37, .inl (cI, 4096, .inl (fun _ => 0))), (h38, .inl (cI, 0, .inl (fun _ => 0))), (h39, .inl (cI, 4096, .inl (fun _ => 0))), (h40, .inl (cI, 0, .inl (fun _ => 0))), (h41, .inl (cI, 40, .inl (fun _ => 0))), (h42, .inl (cI, 40, .inl (fun _ => 0))), (h43, .inl (cI, 40, .inl (fun _ => 0))), (h28, .inr (6, [.ref h44, .int 1, .int (if (0 : Int32) < (if (40 : Int32) < x2 then (40 : Int32) else x2) then (if (40 : Int32) < x2 then (40 : Int32) else x2) else (0 : Int32))])), (h44, .inl (cI, 40, .inl (fun _ => 0)))] H := hP
                          have hD : va_D A [(h0, .inr (11, [.ref h1, .ref h2, .ref h3, .ref h4, .ref h5, .ref h6, .ref h7, .int 0, .int 0, .ref h8, .ref h9, .ref h10, .ref h11, .ref h12, .ref h13, .ref h14])), (h1, .inr (2, [.ref h15, .int 0, .int 0])), (h2, .inr (3, [.ref h1, .ref h16, .ref h17, .int 0])), (h3, .inr (4, [.ref h1, .ref h2])), (h4, .inr (10, [.ref h1, .ref h2, .ref h18, .int 0, .int 0, .int 0, .int 0, .int (-1)])), (h5, .inr (2, [.ref h19, .int 0, .int 0])), (h6, .inr (3, [.ref h5, .ref h20, .ref h21, .int 0])), (h7, .inr (2, [.ref h22, .int 0, .int 0])), (h8, .inr (0, [.int 1])), (h9, .inr (8, [.ref h23, .int 0])), (h10, .inr (5, [.ref h9, .ref h1, .ref h24, .int 0, .int 0, .int 0, .int 0, .int 0])), (h11, .inl (cS, 4, .inr (.inr (.inr (.inr (fun k => [h25, h26, h27, h28][k]?)))))), (h12, .inr (9, [.ref h1, .ref h2, .ref h29, .ref h30, .ref h31, .int 0])), (h13, .inr (9, [.ref h1, .ref h2, .ref h32, .ref h33, .ref h34, .int 0])), (h14, .inr (7, [.ref h35, .ref h36])), (h15, .inl (cI, 12, .inl (fun _ => 0))), (h16, .inr (1, [.ref h37, .int 1])), (h17, .inr (1, [.ref h38, .int 1])), (h18, .inl (cI, 5, .inl (fun _ => 0))), (h19, .inl (cI, 12, .inl (fun _ => 0))), (h20, .inr (1, [.ref h39, .int 1])), (h21, .inr (1, [.ref h40, .int 1])), (h22, .inl (cI, 12, .inl (fun _ => 0))), (h23, .inl (cI, 120, .inl (fun _ => 0))), (h24, .inl (cI, 12, .inl (fun _ => 0))), (h25, .inr (6, [.ref h41, .int (-1), .int 0])), (h26, .inr (6, [.ref h42, .int (-1), .int 0])), (h27, .inr (6, [.ref h43, .int (-1), .int 0])), (h29, .inl (cI, 12, .inl (fun _ => 0))), (h30, .inl (cI, 12, .inl (fun _ => 0))), (h31, .inl (cI, 12, .inl (fun _ => 0))), (h32, .inl (cI, 12, .inl (fun _ => 0))), (h33, .inl (cI, 12, .inl (fun _ => 0))), (h34, .inl (cI, 12, .inl (fun _ => 0))), (h35, .inl (cI, 4, .inl (fun _ => -1))), (h36, .inl (cI, 4, .inl (fun _ => 0))), (h37, .inl (cI, 4096, .inl (fun _ => 0))), (h38, .inl (cI, 0, .inl (fun _ => 0))), (h39, .inl (cI, 4096, .inl (fun _ => 0))), (h40, .inl (cI, 0, .inl (fun _ => 0))), (h41, .inl (cI, 40, .inl (fun _ => 0))), (h42, .inl (cI, 40, .inl (fun _ => 0))), (h43, .inl (cI, 40, .inl (fun _ => 0))), (h28, .inr (6, [.ref h44, .int 1, .int (if (0 : Int32) < (if (40 : Int32) < x2 then (40 : Int32) else x2) then (if (40 : Int32) < x2 then (40 : Int32) else x2) else (0 : Int32))])), (h44, .inl (cI, 40, .inl (fun _ => 0)))] := hD
                          refine lv_iconst (v := 1) hx hb dX11_sheet_62 (by decide) ?_
                          have hP9 := hP.sub (ws' := []) [] rfl
                          have hD9 := hD.sub (ws' := []) [] (by decide) rfl
                          subst hAe
                          exact W.iret (v := 1) hx hb hr (fun t ht hW => ⟨⟨_, (), rfl, by rw [if_neg k2048, if_neg k2050, if_neg c2053, if_neg k2055, if_pos rfl, if_pos c2109, if_pos c2110], by rw [ht]; exact hP9, hD9⟩, hS.F ht⟩) hS.2.2 dX11_sheet_63
                  · refine lv_bipush (v := (-14)) hx hb dX11_sheet_48 (by decide) ?_
                    have hP9 := hP.sub (ws' := []) [] rfl
                    have hD9 := hD.sub (ws' := []) [] (by decide) rfl
                    subst hAe
                    exact W.iret (v := (-14)) hx hb hr (fun t ht hW => ⟨⟨_, (), rfl, by rw [if_neg k2048, if_neg k2050, if_neg c2053, if_neg k2055, if_pos rfl, if_pos c2109, if_neg c2110], by rw [ht]; exact hP9, hD9⟩, hS.F ht⟩) hS.2.2 dX11_sheet_50
                · refine lv_bipush (v := (-2)) hx hb dX11_sheet_41 (by decide) ?_
                  have hP9 := hP.sub (ws' := []) [] rfl
                  have hD9 := hD.sub (ws' := []) [] (by decide) rfl
                  subst hAe
                  exact W.iret (v := (-2)) hx hb hr (fun t ht hW => ⟨⟨_, (), rfl, by rw [if_neg k2048, if_neg k2050, if_neg c2053, if_neg k2055, if_pos rfl, if_neg c2109], by rw [ht]; exact hP9, hD9⟩, hS.F ht⟩) hS.2.2 dX11_sheet_43
            · rw [if_neg k2107] at hw
              subst hw
              refine lv_if_eq (tgt := 41) hx hb dX11_sheet_32 (by decide) (fun c2159 => ?_) (fun c2159 => ?_)
              · refine lv_bipush (v := (-2)) hx hb dX11_sheet_41 (by decide) ?_
                have hP9 := hP.sub (ws' := []) [] rfl
                have hD9 := hD.sub (ws' := []) [] (by decide) rfl
                subst hAe
                exact W.iret (v := (-2)) hx hb hr (fun t ht hW => ⟨⟨_, (), rfl, by rw [if_neg k2048, if_neg k2050, if_neg c2053, if_neg k2055, if_neg k2107], by rw [ht]; exact hP9, hD9⟩, hS.F ht⟩) hS.2.2 dX11_sheet_43
              · exact absurd c2159 (by decide)
        · subst c2053
          refine lv_aload_n hx hb dX11_sheet_15 rfl (lv_at hl 0 rfl) ?_
          refine va_get (D := D) (ci := 11) (v := .ref h11) (C := RX11) (T := TX11) (N := 16) hx hb hts hin11 hown hK hP 0 rfl rfl 12 (by decide) (hts (.fieldLink RX11 75 "MissedPoints" "sheets" "[LMissedPoints$Sheet;") (by decide +kernel)) (fun _ h9 => h9) rfl dX11_sheet_16 ?_
          refine lv_iload_n hx hb dX11_sheet_19 rfl (lv_at hl 1 rfl) ?_
          by_cases k2160 : x0 = 0
          · subst k2160
            refine va_aldq hx hb hK hP 11 1 rfl rfl (lz_vp (x := 0) (n := 4) (by decide) (by decide)) dX11_sheet_20 ?_
            refine lz_va (y := .ref h25) rfl ?_
            refine lv_iconst (v := (-1)) hx hb dX11_sheet_21 (by decide) ?_
            refine lv_iconst (v := 0) hx hb dX11_sheet_22 (by decide) ?_
            have hPc := hP.sub (ws' := [(h25, .inr (6, [.ref h41, .int (-1), .int 0])), (h41, .inl (cI, 40, .inl (fun _ => 0)))]) [25, 41] rfl
            have hDc := hD.sub (ws' := [(h25, .inr (6, [.ref h41, .int (-1), .int 0])), (h41, .inl (cI, 40, .inl (fun _ => 0)))]) [25, 41] (by decide) rfl
            refine lz_qv (wr := [(h0, .inr (11, [.ref h1, .ref h2, .ref h3, .ref h4, .ref h5, .ref h6, .ref h7, .int 0, .int 0, .ref h8, .ref h9, .ref h10, .ref h11, .ref h12, .ref h13, .ref h14])), (h1, .inr (2, [.ref h15, .int 0, .int 0])), (h2, .inr (3, [.ref h1, .ref h16, .ref h17, .int 0])), (h3, .inr (4, [.ref h1, .ref h2])), (h4, .inr (10, [.ref h1, .ref h2, .ref h18, .int 0, .int 0, .int 0, .int 0, .int (-1)])), (h5, .inr (2, [.ref h19, .int 0, .int 0])), (h6, .inr (3, [.ref h5, .ref h20, .ref h21, .int 0])), (h7, .inr (2, [.ref h22, .int 0, .int 0])), (h8, .inr (0, [.int 1])), (h9, .inr (8, [.ref h23, .int 0])), (h10, .inr (5, [.ref h9, .ref h1, .ref h24, .int 0, .int 0, .int 0, .int 0, .int 0])), (h11, .inl (cS, 4, .inr (.inr (.inr (.inr (fun k => [h25, h26, h27, h28][k]?)))))), (h12, .inr (9, [.ref h1, .ref h2, .ref h29, .ref h30, .ref h31, .int 0])), (h13, .inr (9, [.ref h1, .ref h2, .ref h32, .ref h33, .ref h34, .int 0])), (h14, .inr (7, [.ref h35, .ref h36])), (h15, .inl (cI, 12, .inl (fun _ => 0))), (h16, .inr (1, [.ref h37, .int 1])), (h17, .inr (1, [.ref h38, .int 1])), (h18, .inl (cI, 5, .inl (fun _ => 0))), (h19, .inl (cI, 12, .inl (fun _ => 0))), (h20, .inr (1, [.ref h39, .int 1])), (h21, .inr (1, [.ref h40, .int 1])), (h22, .inl (cI, 12, .inl (fun _ => 0))), (h23, .inl (cI, 120, .inl (fun _ => 0))), (h24, .inl (cI, 12, .inl (fun _ => 0))), (h26, .inr (6, [.ref h42, .int (-1), .int 0])), (h27, .inr (6, [.ref h43, .int (-1), .int 0])), (h28, .inr (6, [.ref h44, .int (-1), .int 0])), (h29, .inl (cI, 12, .inl (fun _ => 0))), (h30, .inl (cI, 12, .inl (fun _ => 0))), (h31, .inl (cI, 12, .inl (fun _ => 0))), (h32, .inl (cI, 12, .inl (fun _ => 0))), (h33, .inl (cI, 12, .inl (fun _ => 0))), (h34, .inl (cI, 12, .inl (fun _ => 0))), (h35, .inl (cI, 4, .inl (fun _ => -1))), (h36, .inl (cI, 4, .inl (fun _ => 0))), (h37, .inl (cI, 4096, .inl (fun _ => 0))), (h38, .inl (cI, 0, .inl (fun _ => 0))), (h39, .inl (cI, 4096, .inl (fun _ => 0))), (h40, .inl (cI, 0, .inl (fun _ => 0))), (h42, .inl (cI, 40, .inl (fun _ => 0))), (h43, .inl (cI, 40, .inl (fun _ => 0))), (h44, .inl (cI, 40, .inl (fun _ => 0)))]) (w1 := [(h25, .inr (6, [.ref h41, .int (-1), .int 0])), (h41, .inl (cI, 40, .inl (fun _ => 0)))]) (As := [.int (-1), .int 0]) (rest := []) ⟨hx, hb, hml, hown, hts⟩ (c_X6_become_4 l D cI cS H.size h25 h41) hKK hP hD hS hA [25, 41] [0, 1, 2, 3, 4, 5, 6, 7, 8, 9, 10, 11, 12, 13, 14, 15, 16, 17, 18, 19, 20, 21, 22, 23, 24, 26, 27, 28, 29, 30, 31, 32, 33, 34, 35, 36, 37, 38, 39, 40, 42, 43, 44] (by decide) rfl rfl (by decide) (by decide) hPc hDc (ci := 6) rfl rfl (cwV 2 hts gX11_sheet_X6_become rfl rfl rfl (by decide +kernel) ⟨Nat.le_of_ble_eq_true rfl, Nat.le_of_ble_eq_true rfl⟩) rfl hl.1 rfl (Nat.le_of_ble_eq_true rfl) dX11_sheet_23 ⟨Nat.le_of_ble_eq_true rfl, Nat.le_of_ble_eq_true rfl⟩ (fun H locs hP hD hS => ?_)
            have hP : va_P D cls [(h0, .inr (11, [.ref h1, .ref h2, .ref h3, .ref h4, .ref h5, .ref h6, .ref h7, .int 0, .int 0, .ref h8, .ref h9, .ref h10, .ref h11, .ref h12, .ref h13, .ref h14])), (h1, .inr (2, [.ref h15, .int 0, .int 0])), (h2, .inr (3, [.ref h1, .ref h16, .ref h17, .int 0])), (h3, .inr (4, [.ref h1, .ref h2])), (h4, .inr (10, [.ref h1, .ref h2, .ref h18, .int 0, .int 0, .int 0, .int 0, .int (-1)])), (h5, .inr (2, [.ref h19, .int 0, .int 0])), (h6, .inr (3, [.ref h5, .ref h20, .ref h21, .int 0])), (h7, .inr (2, [.ref h22, .int 0, .int 0])), (h8, .inr (0, [.int 1])), (h9, .inr (8, [.ref h23, .int 0])), (h10, .inr (5, [.ref h9, .ref h1, .ref h24, .int 0, .int 0, .int 0, .int 0, .int 0])), (h11, .inl (cS, 4, .inr (.inr (.inr (.inr (fun k => [h25, h26, h27, h28][k]?)))))), (h12, .inr (9, [.ref h1, .ref h2, .ref h29, .ref h30, .ref h31, .int 0])), (h13, .inr (9, [.ref h1, .ref h2, .ref h32, .ref h33, .ref h34, .int 0])), (h14, .inr (7, [.ref h35, .ref h36])), (h15, .inl (cI, 12, .inl (fun _ => 0))), (h16, .inr (1, [.ref h37, .int 1])), (h17, .inr (1, [.ref h38, .int 1])), (h18, .inl (cI, 5, .inl (fun _ => 0))), (h19, .inl (cI, 12, .inl (fun _ => 0))), (h20, .inr (1, [.ref h39, .int 1])), (h21, .inr (1, [.ref h40, .int 1])), (h22, .inl (cI, 12, .inl (fun _ => 0))), (h23, .inl (cI, 120, .inl (fun _ => 0))), (h24, .inl (cI, 12, .inl (fun _ => 0))), (h26, .inr (6, [.ref h42, .int (-1), .int 0])), (h27, .inr (6, [.ref h43, .int (-1), .int 0])), (h28, .inr (6, [.ref h44, .int (-1), .int 0])), (h29, .inl (cI, 12, .inl (fun _ => 0))), (h30, .inl (cI, 12, .inl (fun _ => 0))), (h31, .inl (cI, 12, .inl (fun _ => 0))), (h32, .inl (cI, 12, .inl (fun _ => 0))), (h33, .inl (cI, 12, .inl (fun _ => 0))), (h34, .inl (cI, 12, .inl (fun _ => 0))), (h35, .inl (cI, 4, .inl (fun _ => -1))), (h36, .inl (cI, 4, .inl (fun _ => 0))), (h37, .inl (cI, 4096, .inl (fun _ => 0))), (h38, .inl (cI, 0, .inl (fun _ => 0))), (h39, .inl (cI, 4096, .inl (fun _ => 0))), (h40, .inl (cI, 0, .inl (fun _ => 0))), (h42, .inl (cI, 40, .inl (fun _ => 0))), (h43, .inl (cI, 40, .inl (fun _ => 0))), (h44, .inl (cI, 40, .inl (fun _ => 0))), (h25, .inr (6, [.ref h41, .int (-1), .int 0])), (h41, .inl (cI, 40, .inl (fun _ => 0)))] H := hP
            have hD : va_D A [(h0, .inr (11, [.ref h1, .ref h2, .ref h3, .ref h4, .ref h5, .ref h6, .ref h7, .int 0, .int 0, .ref h8, .ref h9, .ref h10, .ref h11, .ref h12, .ref h13, .ref h14])), (h1, .inr (2, [.ref h15, .int 0, .int 0])), (h2, .inr (3, [.ref h1, .ref h16, .ref h17, .int 0])), (h3, .inr (4, [.ref h1, .ref h2])), (h4, .inr (10, [.ref h1, .ref h2, .ref h18, .int 0, .int 0, .int 0, .int 0, .int (-1)])), (h5, .inr (2, [.ref h19, .int 0, .int 0])), (h6, .inr (3, [.ref h5, .ref h20, .ref h21, .int 0])), (h7, .inr (2, [.ref h22, .int 0, .int 0])), (h8, .inr (0, [.int 1])), (h9, .inr (8, [.ref h23, .int 0])), (h10, .inr (5, [.ref h9, .ref h1, .ref h24, .int 0, .int 0, .int 0, .int 0, .int 0])), (h11, .inl (cS, 4, .inr (.inr (.inr (.inr (fun k => [h25, h26, h27, h28][k]?)))))), (h12, .inr (9, [.ref h1, .ref h2, .ref h29, .ref h30, .ref h31, .int 0])), (h13, .inr (9, [.ref h1, .ref h2, .ref h32, .ref h33, .ref h34, .int 0])), (h14, .inr (7, [.ref h35, .ref h36])), (h15, .inl (cI, 12, .inl (fun _ => 0))), (h16, .inr (1, [.ref h37, .int 1])), (h17, .inr (1, [.ref h38, .int 1])), (h18, .inl (cI, 5, .inl (fun _ => 0))), (h19, .inl (cI, 12, .inl (fun _ => 0))), (h20, .inr (1, [.ref h39, .int 1])), (h21, .inr (1, [.ref h40, .int 1])), (h22, .inl (cI, 12, .inl (fun _ => 0))), (h23, .inl (cI, 120, .inl (fun _ => 0))), (h24, .inl (cI, 12, .inl (fun _ => 0))), (h26, .inr (6, [.ref h42, .int (-1), .int 0])), (h27, .inr (6, [.ref h43, .int (-1), .int 0])), (h28, .inr (6, [.ref h44, .int (-1), .int 0])), (h29, .inl (cI, 12, .inl (fun _ => 0))), (h30, .inl (cI, 12, .inl (fun _ => 0))), (h31, .inl (cI, 12, .inl (fun _ => 0))), (h32, .inl (cI, 12, .inl (fun _ => 0))), (h33, .inl (cI, 12, .inl (fun _ => 0))), (h34, .inl (cI, 12, .inl (fun _ => 0))), (h35, .inl (cI, 4, .inl (fun _ => -1))), (h36, .inl (cI, 4, .inl (fun _ => 0))), (h37, .inl (cI, 4096, .inl (fun _ => 0))), (h38, .inl (cI, 0, .inl (fun _ => 0))), (h39, .inl (cI, 4096, .inl (fun _ => 0))), (h40, .inl (cI, 0, .inl (fun _ => 0))), (h42, .inl (cI, 40, .inl (fun _ => 0))), (h43, .inl (cI, 40, .inl (fun _ => 0))), (h44, .inl (cI, 40, .inl (fun _ => 0))), (h25, .inr (6, [.ref h41, .int (-1), .int 0])), (h41, .inl (cI, 40, .inl (fun _ => 0)))] := hD
            refine lv_iconst (v := 1) hx hb dX11_sheet_26 (by decide) ?_
            have hP9 := hP.sub (ws' := []) [] rfl
            have hD9 := hD.sub (ws' := []) [] (by decide) rfl
            subst hAe
            exact W.iret (v := 1) hx hb hr (fun t ht hW => ⟨⟨_, (), rfl, by rw [if_neg k2048, if_neg k2050, if_pos rfl], by rw [ht]; exact hP9, hD9⟩, hS.F ht⟩) hS.2.2 dX11_sheet_27
          · by_cases k2203 : x0 = 1
            · subst k2203
              refine va_aldq hx hb hK hP 11 1 rfl rfl (lz_vp (x := 1) (n := 4) (by decide) (by decide)) dX11_sheet_20 ?_
              refine lz_va (y := .ref h26) rfl ?_
              refine lv_iconst (v := (-1)) hx hb dX11_sheet_21 (by decide) ?_
              refine lv_iconst (v := 0) hx hb dX11_sheet_22 (by decide) ?_
              have hPc := hP.sub (ws' := [(h26, .inr (6, [.ref h42, .int (-1), .int 0])), (h42, .inl (cI, 40, .inl (fun _ => 0)))]) [26, 42] rfl
              have hDc := hD.sub (ws' := [(h26, .inr (6, [.ref h42, .int (-1), .int 0])), (h42, .inl (cI, 40, .inl (fun _ => 0)))]) [26, 42] (by decide) rfl
              refine lz_qv (wr := [(h0, .inr (11, [.ref h1, .ref h2, .ref h3, .ref h4, .ref h5, .ref h6, .ref h7, .int 0, .int 0, .ref h8, .ref h9, .ref h10, .ref h11, .ref h12, .ref h13, .ref h14])), (h1, .inr (2, [.ref h15, .int 0, .int 0])), (h2, .inr (3, [.ref h1, .ref h16, .ref h17, .int 0])), (h3, .inr (4, [.ref h1, .ref h2])), (h4, .inr (10, [.ref h1, .ref h2, .ref h18, .int 0, .int 0, .int 0, .int 0, .int (-1)])), (h5, .inr (2, [.ref h19, .int 0, .int 0])), (h6, .inr (3, [.ref h5, .ref h20, .ref h21, .int 0])), (h7, .inr (2, [.ref h22, .int 0, .int 0])), (h8, .inr (0, [.int 1])), (h9, .inr (8, [.ref h23, .int 0])), (h10, .inr (5, [.ref h9, .ref h1, .ref h24, .int 0, .int 0, .int 0, .int 0, .int 0])), (h11, .inl (cS, 4, .inr (.inr (.inr (.inr (fun k => [h25, h26, h27, h28][k]?)))))), (h12, .inr (9, [.ref h1, .ref h2, .ref h29, .ref h30, .ref h31, .int 0])), (h13, .inr (9, [.ref h1, .ref h2, .ref h32, .ref h33, .ref h34, .int 0])), (h14, .inr (7, [.ref h35, .ref h36])), (h15, .inl (cI, 12, .inl (fun _ => 0))), (h16, .inr (1, [.ref h37, .int 1])), (h17, .inr (1, [.ref h38, .int 1])), (h18, .inl (cI, 5, .inl (fun _ => 0))), (h19, .inl (cI, 12, .inl (fun _ => 0))), (h20, .inr (1, [.ref h39, .int 1])), (h21, .inr (1, [.ref h40, .int 1])), (h22, .inl (cI, 12, .inl (fun _ => 0))), (h23, .inl (cI, 120, .inl (fun _ => 0))), (h24, .inl (cI, 12, .inl (fun _ => 0))), (h25, .inr (6, [.ref h41, .int (-1), .int 0])), (h27, .inr (6, [.ref h43, .int (-1), .int 0])), (h28, .inr (6, [.ref h44, .int (-1), .int 0])), (h29, .inl (cI, 12, .inl (fun _ => 0))), (h30, .inl (cI, 12, .inl (fun _ => 0))), (h31, .inl (cI, 12, .inl (fun _ => 0))), (h32, .inl (cI, 12, .inl (fun _ => 0))), (h33, .inl (cI, 12, .inl (fun _ => 0))), (h34, .inl (cI, 12, .inl (fun _ => 0))), (h35, .inl (cI, 4, .inl (fun _ => -1))), (h36, .inl (cI, 4, .inl (fun _ => 0))), (h37, .inl (cI, 4096, .inl (fun _ => 0))), (h38, .inl (cI, 0, .inl (fun _ => 0))), (h39, .inl (cI, 4096, .inl (fun _ => 0))), (h40, .inl (cI, 0, .inl (fun _ => 0))), (h41, .inl (cI, 40, .inl (fun _ => 0))), (h43, .inl (cI, 40, .inl (fun _ => 0))), (h44, .inl (cI, 40, .inl (fun _ => 0)))]) (w1 := [(h26, .inr (6, [.ref h42, .int (-1), .int 0])), (h42, .inl (cI, 40, .inl (fun _ => 0)))]) (As := [.int (-1), .int 0]) (rest := []) ⟨hx, hb, hml, hown, hts⟩ (c_X6_become_4 l D cI cS H.size h26 h42) hKK hP hD hS hA [26, 42] [0, 1, 2, 3, 4, 5, 6, 7, 8, 9, 10, 11, 12, 13, 14, 15, 16, 17, 18, 19, 20, 21, 22, 23, 24, 25, 27, 28, 29, 30, 31, 32, 33, 34, 35, 36, 37, 38, 39, 40, 41, 43, 44] (by decide) rfl rfl (by decide) (by decide) hPc hDc (ci := 6) rfl rfl (cwV 2 hts gX11_sheet_X6_become rfl rfl rfl (by decide +kernel) ⟨Nat.le_of_ble_eq_true rfl, Nat.le_of_ble_eq_true rfl⟩) rfl hl.1 rfl (Nat.le_of_ble_eq_true rfl) dX11_sheet_23 ⟨Nat.le_of_ble_eq_true rfl, Nat.le_of_ble_eq_true rfl⟩ (fun H locs hP hD hS => ?_)
              have hP : va_P D cls [(h0, .inr (11, [.ref h1, .ref h2, .ref h3, .ref h4, .ref h5, .ref h6, .ref h7, .int 0, .int 0, .ref h8, .ref h9, .ref h10, .ref h11, .ref h12, .ref h13, .ref h14])), (h1, .inr (2, [.ref h15, .int 0, .int 0])), (h2, .inr (3, [.ref h1, .ref h16, .ref h17, .int 0])), (h3, .inr (4, [.ref h1, .ref h2])), (h4, .inr (10, [.ref h1, .ref h2, .ref h18, .int 0, .int 0, .int 0, .int 0, .int (-1)])), (h5, .inr (2, [.ref h19, .int 0, .int 0])), (h6, .inr (3, [.ref h5, .ref h20, .ref h21, .int 0])), (h7, .inr (2, [.ref h22, .int 0, .int 0])), (h8, .inr (0, [.int 1])), (h9, .inr (8, [.ref h23, .int 0])), (h10, .inr (5, [.ref h9, .ref h1, .ref h24, .int 0, .int 0, .int 0, .int 0, .int 0])), (h11, .inl (cS, 4, .inr (.inr (.inr (.inr (fun k => [h25, h26, h27, h28][k]?)))))), (h12, .inr (9, [.ref h1, .ref h2, .ref h29, .ref h30, .ref h31, .int 0])), (h13, .inr (9, [.ref h1, .ref h2, .ref h32, .ref h33, .ref h34, .int 0])), (h14, .inr (7, [.ref h35, .ref h36])), (h15, .inl (cI, 12, .inl (fun _ => 0))), (h16, .inr (1, [.ref h37, .int 1])), (h17, .inr (1, [.ref h38, .int 1])), (h18, .inl (cI, 5, .inl (fun _ => 0))), (h19, .inl (cI, 12, .inl (fun _ => 0))), (h20, .inr (1, [.ref h39, .int 1])), (h21, .inr (1, [.ref h40, .int 1])), (h22, .inl (cI, 12, .inl (fun _ => 0))), (h23, .inl (cI, 120, .inl (fun _ => 0))), (h24, .inl (cI, 12, .inl (fun _ => 0))), (h25, .inr (6, [.ref h41, .int (-1), .int 0])), (h27, .inr (6, [.ref h43, .int (-1), .int 0])), (h28, .inr (6, [.ref h44, .int (-1), .int 0])), (h29, .inl (cI, 12, .inl (fun _ => 0))), (h30, .inl (cI, 12, .inl (fun _ => 0))), (h31, .inl (cI, 12, .inl (fun _ => 0))), (h32, .inl (cI, 12, .inl (fun _ => 0))), (h33, .inl (cI, 12, .inl (fun _ => 0))), (h34, .inl (cI, 12, .inl (fun _ => 0))), (h35, .inl (cI, 4, .inl (fun _ => -1))), (h36, .inl (cI, 4, .inl (fun _ => 0))), (h37, .inl (cI, 4096, .inl (fun _ => 0))), (h38, .inl (cI, 0, .inl (fun _ => 0))), (h39, .inl (cI, 4096, .inl (fun _ => 0))), (h40, .inl (cI, 0, .inl (fun _ => 0))), (h41, .inl (cI, 40, .inl (fun _ => 0))), (h43, .inl (cI, 40, .inl (fun _ => 0))), (h44, .inl (cI, 40, .inl (fun _ => 0))), (h26, .inr (6, [.ref h42, .int (-1), .int 0])), (h42, .inl (cI, 40, .inl (fun _ => 0)))] H := hP
              have hD : va_D A [(h0, .inr (11, [.ref h1, .ref h2, .ref h3, .ref h4, .ref h5, .ref h6, .ref h7, .int 0, .int 0, .ref h8, .ref h9, .ref h10, .ref h11, .ref h12, .ref h13, .ref h14])), (h1, .inr (2, [.ref h15, .int 0, .int 0])), (h2, .inr (3, [.ref h1, .ref h16, .ref h17, .int 0])), (h3, .inr (4, [.ref h1, .ref h2])), (h4, .inr (10, [.ref h1, .ref h2, .ref h18, .int 0, .int 0, .int 0, .int 0, .int (-1)])), (h5, .inr (2, [.ref h19, .int 0, .int 0])), (h6, .inr (3, [.ref h5, .ref h20, .ref h21, .int 0])), (h7, .inr (2, [.ref h22, .int 0, .int 0])), (h8, .inr (0, [.int 1])), (h9, .inr (8, [.ref h23, .int 0])), (h10, .inr (5, [.ref h9, .ref h1, .ref h24, .int 0, .int 0, .int 0, .int 0, .int 0])), (h11, .inl (cS, 4, .inr (.inr (.inr (.inr (fun k => [h25, h26, h27, h28][k]?)))))), (h12, .inr (9, [.ref h1, .ref h2, .ref h29, .ref h30, .ref h31, .int 0])), (h13, .inr (9, [.ref h1, .ref h2, .ref h32, .ref h33, .ref h34, .int 0])), (h14, .inr (7, [.ref h35, .ref h36])), (h15, .inl (cI, 12, .inl (fun _ => 0))), (h16, .inr (1, [.ref h37, .int 1])), (h17, .inr (1, [.ref h38, .int 1])), (h18, .inl (cI, 5, .inl (fun _ => 0))), (h19, .inl (cI, 12, .inl (fun _ => 0))), (h20, .inr (1, [.ref h39, .int 1])), (h21, .inr (1, [.ref h40, .int 1])), (h22, .inl (cI, 12, .inl (fun _ => 0))), (h23, .inl (cI, 120, .inl (fun _ => 0))), (h24, .inl (cI, 12, .inl (fun _ => 0))), (h25, .inr (6, [.ref h41, .int (-1), .int 0])), (h27, .inr (6, [.ref h43, .int (-1), .int 0])), (h28, .inr (6, [.ref h44, .int (-1), .int 0])), (h29, .inl (cI, 12, .inl (fun _ => 0))), (h30, .inl (cI, 12, .inl (fun _ => 0))), (h31, .inl (cI, 12, .inl (fun _ => 0))), (h32, .inl (cI, 12, .inl (fun _ => 0))), (h33, .inl (cI, 12, .inl (fun _ => 0))), (h34, .inl (cI, 12, .inl (fun _ => 0))), (h35, .inl (cI, 4, .inl (fun _ => -1))), (h36, .inl (cI, 4, .inl (fun _ => 0))), (h37, .inl (cI, 4096, .inl (fun _ => 0))), (h38, .inl (cI, 0, .inl (fun _ => 0))), (h39, .inl (cI, 4096, .inl (fun _ => 0))), (h40, .inl (cI, 0, .inl (fun _ => 0))), (h41, .inl (cI, 40, .inl (fun _ => 0))), (h43, .inl (cI, 40, .inl (fun _ => 0))), (h44, .inl (cI, 40, .inl (fun _ => 0))), (h26, .inr (6, [.ref h42, .int (-1), .int 0])), (h42, .inl (cI, 40, .inl (fun _ => 0)))] := hD
              refine lv_iconst (v := 1) hx hb dX11_sheet_26 (by decide) ?_
              have hP9 := hP.sub (ws' := []) [] rfl
              have hD9 := hD.sub (ws' := []) [] (by decide) rfl
              subst hAe
              exact W.iret (v := 1) hx hb hr (fun t ht hW => ⟨⟨_, (), rfl, by rw [if_neg k2048, if_neg k2050, if_pos rfl], by rw [ht]; exact hP9, hD9⟩, hS.F ht⟩) hS.2.2 dX11_sheet_27
            · by_cases k2205 : x0 = 2
              · subst k2205
                refine va_aldq hx hb hK hP 11 1 rfl rfl (lz_vp (x := 2) (n := 4) (by decide) (by decide)) dX11_sheet_20 ?_
                refine lz_va (y := .ref h27) rfl ?_
                refine lv_iconst (v := (-1)) hx hb dX11_sheet_21 (by decide) ?_
                refine lv_iconst (v := 0) hx hb dX11_sheet_22 (by decide) ?_
                have hPc := hP.sub (ws' := [(h27, .inr (6, [.ref h43, .int (-1), .int 0])), (h43, .inl (cI, 40, .inl (fun _ => 0)))]) [27, 43] rfl
                have hDc := hD.sub (ws' := [(h27, .inr (6, [.ref h43, .int (-1), .int 0])), (h43, .inl (cI, 40, .inl (fun _ => 0)))]) [27, 43] (by decide) rfl
                refine lz_qv (wr := [(h0, .inr (11, [.ref h1, .ref h2, .ref h3, .ref h4, .ref h5, .ref h6, .ref h7, .int 0, .int 0, .ref h8, .ref h9, .ref h10, .ref h11, .ref h12, .ref h13, .ref h14])), (h1, .inr (2, [.ref h15, .int 0, .int 0])), (h2, .inr (3, [.ref h1, .ref h16, .ref h17, .int 0])), (h3, .inr (4, [.ref h1, .ref h2])), (h4, .inr (10, [.ref h1, .ref h2, .ref h18, .int 0, .int 0, .int 0, .int 0, .int (-1)])), (h5, .inr (2, [.ref h19, .int 0, .int 0])), (h6, .inr (3, [.ref h5, .ref h20, .ref h21, .int 0])), (h7, .inr (2, [.ref h22, .int 0, .int 0])), (h8, .inr (0, [.int 1])), (h9, .inr (8, [.ref h23, .int 0])), (h10, .inr (5, [.ref h9, .ref h1, .ref h24, .int 0, .int 0, .int 0, .int 0, .int 0])), (h11, .inl (cS, 4, .inr (.inr (.inr (.inr (fun k => [h25, h26, h27, h28][k]?)))))), (h12, .inr (9, [.ref h1, .ref h2, .ref h29, .ref h30, .ref h31, .int 0])), (h13, .inr (9, [.ref h1, .ref h2, .ref h32, .ref h33, .ref h34, .int 0])), (h14, .inr (7, [.ref h35, .ref h36])), (h15, .inl (cI, 12, .inl (fun _ => 0))), (h16, .inr (1, [.ref h37, .int 1])), (h17, .inr (1, [.ref h38, .int 1])), (h18, .inl (cI, 5, .inl (fun _ => 0))), (h19, .inl (cI, 12, .inl (fun _ => 0))), (h20, .inr (1, [.ref h39, .int 1])), (h21, .inr (1, [.ref h40, .int 1])), (h22, .inl (cI, 12, .inl (fun _ => 0))), (h23, .inl (cI, 120, .inl (fun _ => 0))), (h24, .inl (cI, 12, .inl (fun _ => 0))), (h25, .inr (6, [.ref h41, .int (-1), .int 0])), (h26, .inr (6, [.ref h42, .int (-1), .int 0])), (h28, .inr (6, [.ref h44, .int (-1), .int 0])), (h29, .inl (cI, 12, .inl (fun _ => 0))), (h30, .inl (cI, 12, .inl (fun _ => 0))), (h31, .inl (cI, 12, .inl (fun _ => 0))), (h32, .inl (cI, 12, .inl (fun _ => 0))), (h33, .inl (cI, 12, .inl (fun _ => 0))), (h34, .inl (cI, 12, .inl (fun _ => 0))), (h35, .inl (cI, 4, .inl (fun _ => -1))), (h36, .inl (cI, 4, .inl (fun _ => 0))), (h37, .inl (cI, 4096, .inl (fun _ => 0))), (h38, .inl (cI, 0, .inl (fun _ => 0))), (h39, .inl (cI, 4096, .inl (fun _ => 0))), (h40, .inl (cI, 0, .inl (fun _ => 0))), (h41, .inl (cI, 40, .inl (fun _ => 0))), (h42, .inl (cI, 40, .inl (fun _ => 0))), (h44, .inl (cI, 40, .inl (fun _ => 0)))]) (w1 := [(h27, .inr (6, [.ref h43, .int (-1), .int 0])), (h43, .inl (cI, 40, .inl (fun _ => 0)))]) (As := [.int (-1), .int 0]) (rest := []) ⟨hx, hb, hml, hown, hts⟩ (c_X6_become_4 l D cI cS H.size h27 h43) hKK hP hD hS hA [27, 43] [0, 1, 2, 3, 4, 5, 6, 7, 8, 9, 10, 11, 12, 13, 14, 15, 16, 17, 18, 19, 20, 21, 22, 23, 24, 25, 26, 28, 29, 30, 31, 32, 33, 34, 35, 36, 37, 38, 39, 40, 41, 42, 44] (by decide) rfl rfl (by decide) (by decide) hPc hDc (ci := 6) rfl rfl (cwV 2 hts gX11_sheet_X6_become rfl rfl rfl (by decide +kernel) ⟨Nat.le_of_ble_eq_true rfl, Nat.le_of_ble_eq_true rfl⟩) rfl hl.1 rfl (Nat.le_of_ble_eq_true rfl) dX11_sheet_23 ⟨Nat.le_of_ble_eq_true rfl, Nat.le_of_ble_eq_true rfl⟩ (fun H locs hP hD hS => ?_)
                have hP : va_P D cls [(h0, .inr (11, [.ref h1, .ref h2, .ref h3, .ref h4, .ref h5, .ref h6, .ref h7, .int 0, .int 0, .ref h8, .ref h9, .ref h10, .ref h11, .ref h12, .ref h13, .ref h14])), (h1, .inr (2, [.ref h15, .int 0, .int 0])), (h2, .inr (3, [.ref h1, .ref h16, .ref h17, .int 0])), (h3, .inr (4, [.ref h1, .ref h2])), (h4, .inr (10, [.ref h1, .ref h2, .ref h18, .int 0, .int 0, .int 0, .int 0, .int (-1)])), (h5, .inr (2, [.ref h19, .int 0, .int 0])), (h6, .inr (3, [.ref h5, .ref h20, .ref h21, .int 0])), (h7, .inr (2, [.ref h22, .int 0, .int 0])), (h8, .inr (0, [.int 1])), (h9, .inr (8, [.ref h23, .int 0])), (h10, .inr (5, [.ref h9, .ref h1, .ref h24, .int 0, .int 0, .int 0, .int 0, .int 0])), (h11, .inl (cS, 4, .inr (.inr (.inr (.inr (fun k => [h25, h26, h27, h28][k]?)))))), (h12, .inr (9, [.ref h1, .ref h2, .ref h29, .ref h30, .ref h31, .int 0])), (h13, .inr (9, [.ref h1, .ref h2, .ref h32, .ref h33, .ref h34, .int 0])), (h14, .inr (7, [.ref h35, .ref h36])), (h15, .inl (cI, 12, .inl (fun _ => 0))), (h16, .inr (1, [.ref h37, .int 1])), (h17, .inr (1, [.ref h38, .int 1])), (h18, .inl (cI, 5, .inl (fun _ => 0))), (h19, .inl (cI, 12, .inl (fun _ => 0))), (h20, .inr (1, [.ref h39, .int 1])), (h21, .inr (1, [.ref h40, .int 1])), (h22, .inl (cI, 12, .inl (fun _ => 0))), (h23, .inl (cI, 120, .inl (fun _ => 0))), (h24, .inl (cI, 12, .inl (fun _ => 0))), (h25, .inr (6, [.ref h41, .int (-1), .int 0])), (h26, .inr (6, [.ref h42, .int (-1), .int 0])), (h28, .inr (6, [.ref h44, .int (-1), .int 0])), (h29, .inl (cI, 12, .inl (fun _ => 0))), (h30, .inl (cI, 12, .inl (fun _ => 0))), (h31, .inl (cI, 12, .inl (fun _ => 0))), (h32, .inl (cI, 12, .inl (fun _ => 0))), (h33, .inl (cI, 12, .inl (fun _ => 0))), (h34, .inl (cI, 12, .inl (fun _ => 0))), (h35, .inl (cI, 4, .inl (fun _ => -1))), (h36, .inl (cI, 4, .inl (fun _ => 0))), (h37, .inl (cI, 4096, .inl (fun _ => 0))), (h38, .inl (cI, 0, .inl (fun _ => 0))), (h39, .inl (cI, 4096, .inl (fun _ => 0))), (h40, .inl (cI, 0, .inl (fun _ => 0))), (h41, .inl (cI, 40, .inl (fun _ => 0))), (h42, .inl (cI, 40, .inl (fun _ => 0))), (h44, .inl (cI, 40, .inl (fun _ => 0))), (h27, .inr (6, [.ref h43, .int (-1), .int 0])), (h43, .inl (cI, 40, .inl (fun _ => 0)))] H := hP
                have hD : va_D A [(h0, .inr (11, [.ref h1, .ref h2, .ref h3, .ref h4, .ref h5, .ref h6, .ref h7, .int 0, .int 0, .ref h8, .ref h9, .ref h10, .ref h11, .ref h12, .ref h13, .ref h14])), (h1, .inr (2, [.ref h15, .int 0, .int 0])), (h2, .inr (3, [.ref h1, .ref h16, .ref h17, .int 0])), (h3, .inr (4, [.ref h1, .ref h2])), (h4, .inr (10, [.ref h1, .ref h2, .ref h18, .int 0, .int 0, .int 0, .int 0, .int (-1)])), (h5, .inr (2, [.ref h19, .int 0, .int 0])), (h6, .inr (3, [.ref h5, .ref h20, .ref h21, .int 0])), (h7, .inr (2, [.ref h22, .int 0, .int 0])), (h8, .inr (0, [.int 1])), (h9, .inr (8, [.ref h23, .int 0])), (h10, .inr (5, [.ref h9, .ref h1, .ref h24, .int 0, .int 0, .int 0, .int 0, .int 0])), (h11, .inl (cS, 4, .inr (.inr (.inr (.inr (fun k => [h25, h26, h27, h28][k]?)))))), (h12, .inr (9, [.ref h1, .ref h2, .ref h29, .ref h30, .ref h31, .int 0])), (h13, .inr (9, [.ref h1, .ref h2, .ref h32, .ref h33, .ref h34, .int 0])), (h14, .inr (7, [.ref h35, .ref h36])), (h15, .inl (cI, 12, .inl (fun _ => 0))), (h16, .inr (1, [.ref h37, .int 1])), (h17, .inr (1, [.ref h38, .int 1])), (h18, .inl (cI, 5, .inl (fun _ => 0))), (h19, .inl (cI, 12, .inl (fun _ => 0))), (h20, .inr (1, [.ref h39, .int 1])), (h21, .inr (1, [.ref h40, .int 1])), (h22, .inl (cI, 12, .inl (fun _ => 0))), (h23, .inl (cI, 120, .inl (fun _ => 0))), (h24, .inl (cI, 12, .inl (fun _ => 0))), (h25, .inr (6, [.ref h41, .int (-1), .int 0])), (h26, .inr (6, [.ref h42, .int (-1), .int 0])), (h28, .inr (6, [.ref h44, .int (-1), .int 0])), (h29, .inl (cI, 12, .inl (fun _ => 0))), (h30, .inl (cI, 12, .inl (fun _ => 0))), (h31, .inl (cI, 12, .inl (fun _ => 0))), (h32, .inl (cI, 12, .inl (fun _ => 0))), (h33, .inl (cI, 12, .inl (fun _ => 0))), (h34, .inl (cI, 12, .inl (fun _ => 0))), (h35, .inl (cI, 4, .inl (fun _ => -1))), (h36, .inl (cI, 4, .inl (fun _ => 0))), (h37, .inl (cI, 4096, .inl (fun _ => 0))), (h38, .inl (cI, 0, .inl (fun _ => 0))), (h39, .inl (cI, 4096, .inl (fun _ => 0))), (h40, .inl (cI, 0, .inl (fun _ => 0))), (h41, .inl (cI, 40, .inl (fun _ => 0))), (h42, .inl (cI, 40, .inl (fun _ => 0))), (h44, .inl (cI, 40, .inl (fun _ => 0))), (h27, .inr (6, [.ref h43, .int (-1), .int 0])), (h43, .inl (cI, 40, .inl (fun _ => 0)))] := hD
                refine lv_iconst (v := 1) hx hb dX11_sheet_26 (by decide) ?_
                have hP9 := hP.sub (ws' := []) [] rfl
                have hD9 := hD.sub (ws' := []) [] (by decide) rfl
                subst hAe
                exact W.iret (v := 1) hx hb hr (fun t ht hW => ⟨⟨_, (), rfl, by rw [if_neg k2048, if_neg k2050, if_pos rfl], by rw [ht]; exact hP9, hD9⟩, hS.F ht⟩) hS.2.2 dX11_sheet_27
              · obtain rfl : x0 = 3 := by have zf1 := mt (lz_lt x0 (0 : Int32)).mpr k2048; have zf2 := mt (lz_le (4 : Int32) x0).mpr k2050; have zf3 := mt (lz_eq x0 (0 : Int32)).mpr k2160; have zf4 := mt (lz_eq x0 (1 : Int32)).mpr k2203; have zf5 := mt (lz_eq x0 (2 : Int32)).mpr k2205; have zn0 : (0 : Int32).toInt = 0 := (by decide); have zn1 : (1 : Int32).toInt = 1 := (by decide); have zn2 : (2 : Int32).toInt = 2 := (by decide); have zn3 : (3 : Int32).toInt = 3 := (by decide); have zn4 : (4 : Int32).toInt = 4 := (by decide); rw [lz_eq]; omega
                refine va_aldq hx hb hK hP 11 1 rfl rfl (lz_vp (x := 3) (n := 4) (by decide) (by decide)) dX11_sheet_20 ?_
                refine lz_va (y := .ref h28) rfl ?_
                refine lv_iconst (v := (-1)) hx hb dX11_sheet_21 (by decide) ?_
                refine lv_iconst (v := 0) hx hb dX11_sheet_22 (by decide) ?_
                have hPc := hP.sub (ws' := [(h28, .inr (6, [.ref h44, .int (-1), .int 0])), (h44, .inl (cI, 40, .inl (fun _ => 0)))]) [28, 44] rfl
                have hDc := hD.sub (ws' := [(h28, .inr (6, [.ref h44, .int (-1), .int 0])), (h44, .inl (cI, 40, .inl (fun _ => 0)))]) [28, 44] (by decide) rfl
                refine lz_qv (wr := [(h0, .inr (11, [.ref h1, .ref h2, .ref h3, .ref h4, .ref h5, .ref h6, .ref h7, .int 0, .int 0, .ref h8, .ref h9, .ref h10, .ref h11, .ref h12, .ref h13, .ref h14])), (h1, .inr (2, [.ref h15, .int 0, .int 0])), (h2, .inr (3, [.ref h1, .ref h16, .ref h17, .int 0])), (h3, .inr (4, [.ref h1, .ref h2])), (h4, .inr (10, [.ref h1, .ref h2, .ref h18, .int 0, .int 0, .int 0, .int 0, .int (-1)])), (h5, .inr (2, [.ref h19, .int 0, .int 0])), (h6, .inr (3, [.ref h5, .ref h20, .ref h21, .int 0])), (h7, .inr (2, [.ref h22, .int 0, .int 0])), (h8, .inr (0, [.int 1])), (h9, .inr (8, [.ref h23, .int 0])), (h10, .inr (5, [.ref h9, .ref h1, .ref h24, .int 0, .int 0, .int 0, .int 0, .int 0])), (h11, .inl (cS, 4, .inr (.inr (.inr (.inr (fun k => [h25, h26, h27, h28][k]?)))))), (h12, .inr (9, [.ref h1, .ref h2, .ref h29, .ref h30, .ref h31, .int 0])), (h13, .inr (9, [.ref h1, .ref h2, .ref h32, .ref h33, .ref h34, .int 0])), (h14, .inr (7, [.ref h35, .ref h36])), (h15, .inl (cI, 12, .inl (fun _ => 0))), (h16, .inr (1, [.ref h37, .int 1])), (h17, .inr (1, [.ref h38, .int 1])), (h18, .inl (cI, 5, .inl (fun _ => 0))), (h19, .inl (cI, 12, .inl (fun _ => 0))), (h20, .inr (1, [.ref h39, .int 1])), (h21, .inr (1, [.ref h40, .int 1])), (h22, .inl (cI, 12, .inl (fun _ => 0))), (h23, .inl (cI, 120, .inl (fun _ => 0))), (h24, .inl (cI, 12, .inl (fun _ => 0))), (h25, .inr (6, [.ref h41, .int (-1), .int 0])), (h26, .inr (6, [.ref h42, .int (-1), .int 0])), (h27, .inr (6, [.ref h43, .int (-1), .int 0])), (h29, .inl (cI, 12, .inl (fun _ => 0))), (h30, .inl (cI, 12, .inl (fun _ => 0))), (h31, .inl (cI, 12, .inl (fun _ => 0))), (h32, .inl (cI, 12, .inl (fun _ => 0))), (h33, .inl (cI, 12, .inl (fun _ => 0))), (h34, .inl (cI, 12, .inl (fun _ => 0))), (h35, .inl (cI, 4, .inl (fun _ => -1))), (h36, .inl (cI, 4, .inl (fun _ => 0))), (h37, .inl (cI, 4096, .inl (fun _ => 0))), (h38, .inl (cI, 0, .inl (fun _ => 0))), (h39, .inl (cI, 4096, .inl (fun _ => 0))), (h40, .inl (cI, 0, .inl (fun _ => 0))), (h41, .inl (cI, 40, .inl (fun _ => 0))), (h42, .inl (cI, 40, .inl (fun _ => 0))), (h43, .inl (cI, 40, .inl (fun _ => 0)))]) (w1 := [(h28, .inr (6, [.ref h44, .int (-1), .int 0])), (h44, .inl (cI, 40, .inl (fun _ => 0)))]) (As := [.int (-1), .int 0]) (rest := []) ⟨hx, hb, hml, hown, hts⟩ (c_X6_become_4 l D cI cS H.size h28 h44) hKK hP hD hS hA [28, 44] [0, 1, 2, 3, 4, 5, 6, 7, 8, 9, 10, 11, 12, 13, 14, 15, 16, 17, 18, 19, 20, 21, 22, 23, 24, 25, 26, 27, 29, 30, 31, 32, 33, 34, 35, 36, 37, 38, 39, 40, 41, 42, 43] (by decide) rfl rfl (by decide) (by decide) hPc hDc (ci := 6) rfl rfl (cwV 2 hts gX11_sheet_X6_become rfl rfl rfl (by decide +kernel) ⟨Nat.le_of_ble_eq_true rfl, Nat.le_of_ble_eq_true rfl⟩) rfl hl.1 rfl (Nat.le_of_ble_eq_true rfl) dX11_sheet_23 ⟨Nat.le_of_ble_eq_true rfl, Nat.le_of_ble_eq_true rfl⟩ (fun H locs hP hD hS => ?_)
                have hP : va_P D cls [(h0, .inr (11, [.ref h1, .ref h2, .ref h3, .ref h4, .ref h5, .ref h6, .ref h7, .int 0, .int 0, .ref h8, .ref h9, .ref h10, .ref h11, .ref h12, .ref h13, .ref h14])), (h1, .inr (2, [.ref h15, .int 0, .int 0])), (h2, .inr (3, [.ref h1, .ref h16, .ref h17, .int 0])), (h3, .inr (4, [.ref h1, .ref h2])), (h4, .inr (10, [.ref h1, .ref h2, .ref h18, .int 0, .int 0, .int 0, .int 0, .int (-1)])), (h5, .inr (2, [.ref h19, .int 0, .int 0])), (h6, .inr (3, [.ref h5, .ref h20, .ref h21, .int 0])), (h7, .inr (2, [.ref h22, .int 0, .int 0])), (h8, .inr (0, [.int 1])), (h9, .inr (8, [.ref h23, .int 0])), (h10, .inr (5, [.ref h9, .ref h1, .ref h24, .int 0, .int 0, .int 0, .int 0, .int 0])), (h11, .inl (cS, 4, .inr (.inr (.inr (.inr (fun k => [h25, h26, h27, h28][k]?)))))), (h12, .inr (9, [.ref h1, .ref h2, .ref h29, .ref h30, .ref h31, .int 0])), (h13, .inr (9, [.ref h1, .ref h2, .ref h32, .ref h33, .ref h34, .int 0])), (h14, .inr (7, [.ref h35, .ref h36])), (h15, .inl (cI, 12, .inl (fun _ => 0))), (h16, .inr (1, [.ref h37, .int 1])), (h17, .inr (1, [.ref h38, .int 1])), (h18, .inl (cI, 5, .inl (fun _ => 0))), (h19, .inl (cI, 12, .inl (fun _ => 0))), (h20, .inr (1, [.ref h39, .int 1])), (h21, .inr (1, [.ref h40, .int 1])), (h22, .inl (cI, 12, .inl (fun _ => 0))), (h23, .inl (cI, 120, .inl (fun _ => 0))), (h24, .inl (cI, 12, .inl (fun _ => 0))), (h25, .inr (6, [.ref h41, .int (-1), .int 0])), (h26, .inr (6, [.ref h42, .int (-1), .int 0])), (h27, .inr (6, [.ref h43, .int (-1), .int 0])), (h29, .inl (cI, 12, .inl (fun _ => 0))), (h30, .inl (cI, 12, .inl (fun _ => 0))), (h31, .inl (cI, 12, .inl (fun _ => 0))), (h32, .inl (cI, 12, .inl (fun _ => 0))), (h33, .inl (cI, 12, .inl (fun _ => 0))), (h34, .inl (cI, 12, .inl (fun _ => 0))), (h35, .inl (cI, 4, .inl (fun _ => -1))), (h36, .inl (cI, 4, .inl (fun _ => 0))), (h37, .inl (cI, 4096, .inl (fun _ => 0))), (h38, .inl (cI, 0, .inl (fun _ => 0))), (h39, .inl (cI, 4096, .inl (fun _ => 0))), (h40, .inl (cI, 0, .inl (fun _ => 0))), (h41, .inl (cI, 40, .inl (fun _ => 0))), (h42, .inl (cI, 40, .inl (fun _ => 0))), (h43, .inl (cI, 40, .inl (fun _ => 0))), (h28, .inr (6, [.ref h44, .int (-1), .int 0])), (h44, .inl (cI, 40, .inl (fun _ => 0)))] H := hP
                have hD : va_D A [(h0, .inr (11, [.ref h1, .ref h2, .ref h3, .ref h4, .ref h5, .ref h6, .ref h7, .int 0, .int 0, .ref h8, .ref h9, .ref h10, .ref h11, .ref h12, .ref h13, .ref h14])), (h1, .inr (2, [.ref h15, .int 0, .int 0])), (h2, .inr (3, [.ref h1, .ref h16, .ref h17, .int 0])), (h3, .inr (4, [.ref h1, .ref h2])), (h4, .inr (10, [.ref h1, .ref h2, .ref h18, .int 0, .int 0, .int 0, .int 0, .int (-1)])), (h5, .inr (2, [.ref h19, .int 0, .int 0])), (h6, .inr (3, [.ref h5, .ref h20, .ref h21, .int 0])), (h7, .inr (2, [.ref h22, .int 0, .int 0])), (h8, .inr (0, [.int 1])), (h9, .inr (8, [.ref h23, .int 0])), (h10, .inr (5, [.ref h9, .ref h1, .ref h24, .int 0, .int 0, .int 0, .int 0, .int 0])), (h11, .inl (cS, 4, .inr (.inr (.inr (.inr (fun k => [h25, h26, h27, h28][k]?)))))), (h12, .inr (9, [.ref h1, .ref h2, .ref h29, .ref h30, .ref h31, .int 0])), (h13, .inr (9, [.ref h1, .ref h2, .ref h32, .ref h33, .ref h34, .int 0])), (h14, .inr (7, [.ref h35, .ref h36])), (h15, .inl (cI, 12, .inl (fun _ => 0))), (h16, .inr (1, [.ref h37, .int 1])), (h17, .inr (1, [.ref h38, .int 1])), (h18, .inl (cI, 5, .inl (fun _ => 0))), (h19, .inl (cI, 12, .inl (fun _ => 0))), (h20, .inr (1, [.ref h39, .int 1])), (h21, .inr (1, [.ref h40, .int 1])), (h22, .inl (cI, 12, .inl (fun _ => 0))), (h23, .inl (cI, 120, .inl (fun _ => 0))), (h24, .inl (cI, 12, .inl (fun _ => 0))), (h25, .inr (6, [.ref h41, .int (-1), .int 0])), (h26, .inr (6, [.ref h42, .int (-1), .int 0])), (h27, .inr (6, [.ref h43, .int (-1), .int 0])), (h29, .inl (cI, 12, .inl (fun _ => 0))), (h30, .inl (cI, 12, .inl (fun _ => 0))), (h31, .inl (cI, 12, .inl (fun _ => 0))), (h32, .inl (cI, 12, .inl (fun _ => 0))), (h33, .inl (cI, 12, .inl (fun _ => 0))), (h34, .inl (cI, 12, .inl (fun _ => 0))), (h35, .inl (cI, 4, .inl (fun _ => -1))), (h36, .inl (cI, 4, .inl (fun _ => 0))), (h37, .inl (cI, 4096, .inl (fun _ => 0))), (h38, .inl (cI, 0, .inl (fun _ => 0))), (h39, .inl (cI, 4096, .inl (fun _ => 0))), (h40, .inl (cI, 0, .inl (fun _ => 0))), (h41, .inl (cI, 40, .inl (fun _ => 0))), (h42, .inl (cI, 40, .inl (fun _ => 0))), (h43, .inl (cI, 40, .inl (fun _ => 0))), (h28, .inr (6, [.ref h44, .int (-1), .int 0])), (h44, .inl (cI, 40, .inl (fun _ => 0)))] := hD
                refine lv_iconst (v := 1) hx hb dX11_sheet_26 (by decide) ?_
                have hP9 := hP.sub (ws' := []) [] rfl
                have hD9 := hD.sub (ws' := []) [] (by decide) rfl
                subst hAe
                exact W.iret (v := 1) hx hb hr (fun t ht hW => ⟨⟨_, (), rfl, by rw [if_neg k2048, if_neg k2050, if_pos rfl], by rw [ht]; exact hP9, hD9⟩, hS.F ht⟩) hS.2.2 dX11_sheet_27
      · exact absurd c2052 (by decide)
