set_option maxRecDepth 20000 in
theorem ggX11_firstOrCount_X3_isMend : GoodIn wsX11_firstOrCount wsX3_isMend := goodIn_r _ [7, 8, 9, 10, 11, 12, 13, 14, 15, 16, 17, 18, 19, 20, 21, 22, 23, 24, 25, 26, 27, 28, 29, 30, 6, 31, 32, 33, 34, 35, 36, 37, 38, 39, 40, 41, 42, 43, 44, 45, 46, 47, 48, 49, 50, 51, 52, 53, 54, 55, 56, 57, 58, 59, 60, 61, 62, 63, 64, 65, 66, 67, 68, 69, 101, 102, 103, 104, 98, 99, 100, 105, 106] rfl (by decide +kernel)
set_option maxRecDepth 20000 in
theorem gX11_firstOrCount_X3_isMend : GoodIn wsX11_firstOrCount (wsV RX11 215 RX3 yX3_isMend wsX3_isMend) := goodIn_app (goodIn_of _ (by decide +kernel)) ggX11_firstOrCount_X3_isMend
set_option maxRecDepth 20000 in
theorem ggX11_firstOrCount_X3_judge : GoodIn wsX11_firstOrCount wsX3_judge := goodIn_r _ [73, 8, 74, 75, 76, 6, 77, 78, 79, 80, 12, 81, 14, 19, 20, 21, 22, 23, 24, 25, 26, 27, 28, 29, 30, 31, 32, 33, 34, 35, 36, 37, 38, 39, 40, 41, 42, 43, 44, 45, 46, 47, 48, 49, 50, 51, 52, 53, 54, 55, 56, 57, 58, 59, 60, 61, 62, 63, 64, 65, 66, 67, 68, 69, 101, 102, 103, 104, 98, 99, 100, 105, 106] rfl (by decide +kernel)
set_option maxRecDepth 20000 in
theorem gX11_firstOrCount_X3_judge : GoodIn wsX11_firstOrCount (wsV RX11 208 RX3 yX3_judge wsX3_judge) := goodIn_app (goodIn_of _ (by decide +kernel)) ggX11_firstOrCount_X3_judge
theorem dX11_firstOrCount_102 : decode cX11_firstOrCount 102 = .ok (.goto (-67), 3) := by decide +kernel
theorem dX11_firstOrCount_105 : decode cX11_firstOrCount 105 = .ok (.iinc 4 1, 3) := by decide +kernel
theorem dX11_firstOrCount_108 : decode cX11_firstOrCount 108 = .ok (.goto (-91), 3) := by decide +kernel
theorem dX11_firstOrCount_29 : decode cX11_firstOrCount 29 = .ok (.iload 4, 2) := by decide +kernel
theorem dX11_firstOrCount_31 : decode cX11_firstOrCount 31 = .ok (.iconst 1, 1) := by decide +kernel
theorem dX11_firstOrCount_32 : decode cX11_firstOrCount 32 = .ok (.iadd, 1) := by decide +kernel
theorem dX11_firstOrCount_33 : decode cX11_firstOrCount 33 = .ok (.istore 5, 2) := by decide +kernel
theorem dX11_firstOrCount_35 : decode cX11_firstOrCount 35 = .ok (.iload 5, 2) := by decide +kernel
theorem dX11_firstOrCount_37 : decode cX11_firstOrCount 37 = .ok (.aload_n 0, 1) := by decide +kernel
theorem dX11_firstOrCount_38 : decode cX11_firstOrCount 38 = .ok (.getfield 12, 3) := by decide +kernel
theorem dX11_firstOrCount_41 : decode cX11_firstOrCount 41 = .ok (.getfield 97, 3) := by decide +kernel
theorem dX11_firstOrCount_44 : decode cX11_firstOrCount 44 = .ok (.if_icmp .ge 61, 3) := by decide +kernel
theorem dX11_firstOrCount_47 : decode cX11_firstOrCount 47 = .ok (.iload_n 2, 1) := by decide +kernel
theorem dX11_firstOrCount_48 : decode cX11_firstOrCount 48 = .ok (.ifCond .eq 20, 3) := by decide +kernel
theorem dX11_firstOrCount_51 : decode cX11_firstOrCount 51 = .ok (.aload_n 0, 1) := by decide +kernel
theorem dX11_firstOrCount_52 : decode cX11_firstOrCount 52 = .ok (.getfield 21, 3) := by decide +kernel
theorem dX11_firstOrCount_55 : decode cX11_firstOrCount 55 = .ok (.iload 4, 2) := by decide +kernel
theorem dX11_firstOrCount_57 : decode cX11_firstOrCount 57 = .ok (.iload 5, 2) := by decide +kernel
theorem dX11_firstOrCount_59 : decode cX11_firstOrCount 59 = .ok (.invokevirtual 215, 3) := by decide +kernel
theorem dX11_firstOrCount_62 : decode cX11_firstOrCount 62 = .ok (.ifCond .eq 37, 3) := by decide +kernel
theorem dX11_firstOrCount_65 : decode cX11_firstOrCount 65 = .ok (.goto 18, 3) := by decide +kernel
theorem dX11_firstOrCount_68 : decode cX11_firstOrCount 68 = .ok (.aload_n 0, 1) := by decide +kernel
theorem dX11_firstOrCount_69 : decode cX11_firstOrCount 69 = .ok (.getfield 21, 3) := by decide +kernel
theorem dX11_firstOrCount_72 : decode cX11_firstOrCount 72 = .ok (.iload 4, 2) := by decide +kernel
theorem dX11_firstOrCount_74 : decode cX11_firstOrCount 74 = .ok (.iload 5, 2) := by decide +kernel
theorem dX11_firstOrCount_76 : decode cX11_firstOrCount 76 = .ok (.invokevirtual 208, 3) := by decide +kernel
theorem dX11_firstOrCount_79 : decode cX11_firstOrCount 79 = .ok (.iconst 2, 1) := by decide +kernel
theorem dX11_firstOrCount_80 : decode cX11_firstOrCount 80 = .ok (.if_icmp .ne 19, 3) := by decide +kernel
theorem dX11_firstOrCount_83 : decode cX11_firstOrCount 83 = .ok (.iload_n 1, 1) := by decide +kernel
theorem dX11_firstOrCount_84 : decode cX11_firstOrCount 84 = .ok (.ifCond .ne 12, 3) := by decide +kernel
theorem dX11_firstOrCount_87 : decode cX11_firstOrCount 87 = .ok (.bipush 12, 2) := by decide +kernel
theorem dX11_firstOrCount_89 : decode cX11_firstOrCount 89 = .ok (.iload 4, 2) := by decide +kernel
theorem dX11_firstOrCount_91 : decode cX11_firstOrCount 91 = .ok (.imul, 1) := by decide +kernel
theorem dX11_firstOrCount_92 : decode cX11_firstOrCount 92 = .ok (.iload 5, 2) := by decide +kernel
theorem dX11_firstOrCount_94 : decode cX11_firstOrCount 94 = .ok (.iadd, 1) := by decide +kernel
theorem dX11_firstOrCount_95 : decode cX11_firstOrCount 95 = .ok (.ireturn, 1) := by decide +kernel
theorem dX11_firstOrCount_96 : decode cX11_firstOrCount 96 = .ok (.iinc 3 1, 3) := by decide +kernel
theorem dX11_firstOrCount_99 : decode cX11_firstOrCount 99 = .ok (.iinc 5 1, 3) := by decide +kernel
set_option maxHeartbeats 4000000 in
set_option maxRecDepth 100000 in
theorem k_X11_firstOrCount (l : Launch) (D : va_G) (cI cS : ClassId) (sz : Nat) (a : Nat → Nat) (na nc N : Nat) (L u0 : SU) (hL : TyX L) (hN : N = 0 ∨ N = 24576) (x0 x1 : Int32) (px1 : Rg 0 1 x1) : Met l yX11_firstOrCount wsX11_firstOrCount ({ frames := 18, cells := 0, slots := 0, locals := 720 }) (PQ D cI cS (wX cI cS a na nc N L u0) sz [.ref (a 0), .int x0, .int x1]) (QF (S := SU) D (wX cI cS a na nc N L u0) (wX cI cS a na nc N L) sz (fun r _ => Rg (-2147483648) 2147483647 r ∧ True)) 0 0 (va_A (wX cI cS a na nc N L u0) sz) := by
  refine Met.ofW (cc := cX11_firstOrCount) (maxL := 6) (ret := (some .int)) (by decide) rfl ?_
  intro p e s m args below meth c s₁ B hml hv
  obtain ⟨rfl, hsz, hP, hKK, hD0⟩ := hv
  have hx := B.exec
  have hb := B.bytes
  have hr := B.returns
  have hts := atoms_spec (ws := wsX11_firstOrCount) B.pre
  have hown : s.vm.findClass RX11 = some m.cls := findClass_of_methodNamed B.named
  have hlocks := B.notSynchronized
  have hK := hKK.1
  have hin2 : ∀ w ∈ wsX20, w ∈ wsX11_firstOrCount := by decide +kernel
  have hin11 : ∀ w ∈ wsX110, w ∈ wsX11_firstOrCount := by decide +kernel
  subst hsz
  have hD := hD0.self (sz := s.heap.size)
  obtain ⟨A, hAe⟩ : ∃ A, A = va_A (wX cI cS a na nc N L u0) s.heap.size := ⟨_, rfl⟩
  rw [← hAe] at hD
  have hA : ∀ q : Nat, s.heap.size ≤ q → A q := fun q h => by rw [hAe]; exact Or.inr h
  have hS : va_S A s.heap s.heap [] := va_S.rf
  have hl := lv_entry ([.ref (a 0), .int x0, .int x1]) (n := 6) (Nat.le_of_ble_eq_true rfl)
  rw [lg_entry_eq]
  generalize (lg_sl ([.ref (a 0), .int x0, .int x1]) ++ List.replicate (6 - (lg_sl ([.ref (a 0), .int x0, .int x1])).length) Slot.unset).toArray = ls at hl ⊢
  have hl : lv_has ls 6 [(0, .ref (a 0)), (1, .int x0), (2, .int x1)] := hl
  obtain ⟨u, hu9⟩ : ∃ u : SU, u = u0 := ⟨_, rfl⟩
  rw [← hu9] at hP hD
  have lp17 : ∀ (n17 : Nat) (y17_l3 : Int32) (y17_l4 : Int32) (u : SU) (H : Heap) (locs : List Loc) (ls : Array Slot), Rg 0 1 x0 → Rg 0 1 x1 → Rg 0 12 y17_l4 → va_P D cls (wX cI cS a na nc N L u) H → va_D A (wX cI cS a na nc N L u) → va_S A s.heap H locs → lv_has ls 6 [(0, .ref (a 0)), (1, .int x0), (2, .int x1), (3, .int y17_l3), (4, .int y17_l4)] → 12 - y17_l4.toInt < (n17 : Int) → W p l e (headSpec wsX11_firstOrCount ({ frames := 18, cells := 0, slots := 0, locals := 720 })).room s m ([.ref (a 0), .int x0, .int x1]).toArray below meth c H locs 0 0 (MQ below (QF (S := SU) D (wX cI cS a na nc N L u0) (wX cI cS a na nc N L) s.heap.size (fun r _ => Rg (-2147483648) 2147483647 r ∧ True)) ([.ref (a 0), .int x0, .int x1]).toArray s 0 0 (va_A (wX cI cS a na nc N L u0) s.heap.size)) (F0 m 17 ls []) := by
    intro n17
    induction n17 with
    | zero =>
      intro y17_l3 y17_l4 u H locs ls g17_l1 g17_l2 g17_l4 hP hD hS hl hm17
      exact absurd rfl (me_z g17_l4 hm17)
    | succ n17 ih17 =>
      intro y17_l3 y17_l4 u H locs ls g17_l1 g17_l2 g17_l4 hP hD hS hl hm17
      have lp35 : ∀ (n35 : Nat) (y35_l3 : Int32) (y35_l5 : Int32) (u : SU) (H : Heap) (locs : List Loc) (ls : Array Slot), Rg 0 1 x0 → Rg 0 1 x1 → Rg 0 11 y17_l4 → Rg 1 12 y35_l5 → va_P D cls (wX cI cS a na nc N L u) H → va_D A (wX cI cS a na nc N L u) → va_S A s.heap H locs → lv_has ls 6 [(0, .ref (a 0)), (1, .int x0), (2, .int x1), (3, .int y35_l3), (4, .int y17_l4), (5, .int y35_l5)] → 12 - y35_l5.toInt < (n35 : Int) → W p l e (headSpec wsX11_firstOrCount ({ frames := 18, cells := 0, slots := 0, locals := 720 })).room s m ([.ref (a 0), .int x0, .int x1]).toArray below meth c H locs 0 0 (MQ below (QF (S := SU) D (wX cI cS a na nc N L u0) (wX cI cS a na nc N L) s.heap.size (fun r _ => Rg (-2147483648) 2147483647 r ∧ True)) ([.ref (a 0), .int x0, .int x1]).toArray s 0 0 (va_A (wX cI cS a na nc N L u0) s.heap.size)) (F0 m 35 ls []) := by
        intro n35
        induction n35 with
        | zero =>
          intro y35_l3 y35_l5 u H locs ls g35_l1 g35_l2 g35_l4 g35_l5 hP hD hS hl hm35
          exact absurd rfl (me_z g35_l5 hm35)
        | succ n35 ih35 =>
          intro y35_l3 y35_l5 u H locs ls g35_l1 g35_l2 g35_l4 g35_l5 hP hD hS hl hm35
          refine lv_iload hx hb dX11_firstOrCount_35 (lv_at hl 5 rfl) ?_
          refine lv_aload_n hx hb dX11_firstOrCount_37 rfl (lv_at hl 0 rfl) ?_
          refine va_get (D := D) (ci := 11) (v := .ref (a 1)) (C := RX11) (T := TX11) (N := 16) hx hb hts hin11 hown hK hP 0 rfl rfl 0 (by decide) (hts (.fieldLink RX11 12 "MissedPoints" "net" "LMissedPoints$Net;") (by decide +kernel)) (fun _ h9 => h9) rfl dX11_firstOrCount_38 ?_
          refine va_getN (D := D) (ci := 2) (v := .int (L 1 1)) (C := RX2) (T := TX2) (N := 3) hx hb hts hin2 hown hK hP 1 rfl rfl 1 (by decide) (va_Nw.use rfl hKK.2.2.2.2.2.2.2.2.2.2.1) (fun _ h9 => h9) rfl dX11_firstOrCount_41 ?_
          refine lv_icmp_ge (tgt := 105) hx hb dX11_firstOrCount_44 (by decide) (fun c46927 => ?_) (fun c46927 => ?_)
          · refine wk_iinc (lv' := fun r => [(4, .int r), (0, .ref (a 0)), (1, .int x0), (2, .int x1), (3, .int y35_l3), (5, .int y35_l5)]) (e1 := 1) (f := 12) hx hb dX11_firstOrCount_105 hl (k := 4) rfl (by decide) g35_l4 (by decide) (fun _ => rfl) (fun r46928 ls hr46928 er46928 hl => ?_)
            refine lv_goto (tgt := 17) hx hb dX11_firstOrCount_108 (by decide) ?_
            exact ih17 y35_l3 r46928 u _ _ ls g35_l1 g35_l2 (show Rg 0 12 r46928 from rg_w hr46928 (by decide) (by decide)) hP hD hS (lv_sub (l' := [(0, .ref (a 0)), (1, .int x0), (2, .int x1), (3, .int y35_l3), (4, .int r46928)]) hl [1, 2, 3, 4, 0] rfl) (me_up hm17 er46928 (by decide))
          · have g46929 : Rg 2 12 (L 1 1) := rg_ltr g35_l5 hL.1 (rg_nle c46927) (by decide)
            have g46930 : Rg 1 11 y35_l5 := rg_ltl g35_l5 hL.1 (rg_nle c46927) (by decide)
            refine lv_iload_n hx hb dX11_firstOrCount_47 rfl (lv_at hl 2 rfl) ?_
            refine lv_if_eq (tgt := 68) hx hb dX11_firstOrCount_48 (by decide) (fun c46931 => ?_) (fun c46931 => ?_)
            · have g46932 : Rg 0 0 x1 := wk_eql g35_l2 (by decide : Rg 0 0 (0 : Int32)) c46931 (by decide)
              refine lv_aload_n hx hb dX11_firstOrCount_68 rfl (lv_at hl 0 rfl) ?_
              refine va_get (D := D) (ci := 11) (v := .ref (a 7)) (C := RX11) (T := TX11) (N := 16) hx hb hts hin11 hown hK hP 0 rfl rfl 1 (by decide) (hts (.fieldLink RX11 21 "MissedPoints" "pairs" "LMissedPoints$Pairs;") (by decide +kernel)) (fun _ h9 => h9) rfl dX11_firstOrCount_69 ?_
              refine lv_iload hx hb dX11_firstOrCount_72 (lv_at hl 4 rfl) ?_
              refine lv_iload hx hb dX11_firstOrCount_74 (lv_at hl 5 rfl) ?_
              refine wk_qi (wX cI cS a na nc N L) u (As := [.int y17_l4, .int y35_l5]) (rest := []) ⟨hx, hb, hml, hown, hts⟩ (k_X3_judge l D cI cS _ a na nc N L u hL hN y17_l4 y35_l5) hKK hP hD hS hA 7 (ci := 3) rfl rfl (cwV 2 hts gX11_firstOrCount_X3_judge rfl rfl rfl (by decide +kernel) ⟨Nat.le_of_ble_eq_true rfl, Nat.le_of_ble_eq_true rfl⟩) rfl hl.1 rfl (Nat.le_of_ble_eq_true rfl) dX11_firstOrCount_76 ⟨Nat.le_of_ble_eq_true rfl, Nat.le_of_ble_eq_true rfl⟩ (fun r46933 u H locs hr46933 hP hD hS => ?_)
              refine lv_iconst (v := 2) hx hb dX11_firstOrCount_79 (by decide) ?_
              refine lv_icmp_ne (tgt := 99) hx hb dX11_firstOrCount_80 (by decide) (fun c46934 => ?_) (fun c46934 => ?_)
              · have g46935 : Rg 0 1 r46933 := rg_ne_hi (k := 2) hr46933.1 (by decide) c46934 (by decide)
                refine wk_iinc (lv' := fun r => [(5, .int r), (0, .ref (a 0)), (1, .int x0), (2, .int x1), (3, .int y35_l3), (4, .int y17_l4)]) (e1 := 2) (f := 12) hx hb dX11_firstOrCount_99 hl (k := 5) rfl (by decide) g46930 (by decide) (fun _ => rfl) (fun r46936 ls hr46936 er46936 hl => ?_)
                refine lv_goto (tgt := 35) hx hb dX11_firstOrCount_102 (by decide) ?_
                exact ih35 y35_l3 r46936 u _ _ ls g35_l1 (show Rg 0 1 x1 from rg_w g46932 (by decide) (by decide)) g35_l4 (show Rg 1 12 r46936 from rg_w hr46936 (by decide) (by decide)) hP hD hS (lv_sub (l' := [(0, .ref (a 0)), (1, .int x0), (2, .int x1), (3, .int y35_l3), (4, .int y17_l4), (5, .int r46936)]) hl [1, 2, 3, 4, 5, 0] rfl) (me_up hm35 er46936 (by decide))
              · have g46937 : Rg 2 2 r46933 := wk_eql hr46933.1 (by decide : Rg 2 2 (2 : Int32)) c46934 (by decide)
                refine lv_iload_n hx hb dX11_firstOrCount_83 rfl (lv_at hl 1 rfl) ?_
                refine lv_if_ne (tgt := 96) hx hb dX11_firstOrCount_84 (by decide) (fun c46938 => ?_) (fun c46938 => ?_)
                · have g46939 : Rg 1 1 x0 := rg_ne_lo (k := 0) g35_l1 (by decide) c46938 (by decide)
                  refine wk_iincA (lv' := fun r => [(3, .int r), (0, .ref (a 0)), (1, .int x0), (2, .int x1), (4, .int y17_l4), (5, .int y35_l5)]) hx hb dX11_firstOrCount_96 hl (k := 3) rfl (by decide) (fun _ => rfl) (fun r46940 ls hl => ?_)
                  refine wk_iinc (lv' := fun r => [(5, .int r), (3, .int r46940), (0, .ref (a 0)), (1, .int x0), (2, .int x1), (4, .int y17_l4)]) (e1 := 2) (f := 12) hx hb dX11_firstOrCount_99 hl (k := 5) rfl (by decide) g46930 (by decide) (fun _ => rfl) (fun r46941 ls hr46941 er46941 hl => ?_)
                  refine lv_goto (tgt := 35) hx hb dX11_firstOrCount_102 (by decide) ?_
                  exact ih35 r46940 r46941 u _ _ ls (show Rg 0 1 x0 from rg_w g46939 (by decide) (by decide)) (show Rg 0 1 x1 from rg_w g46932 (by decide) (by decide)) g35_l4 (show Rg 1 12 r46941 from rg_w hr46941 (by decide) (by decide)) hP hD hS (lv_sub (l' := [(0, .ref (a 0)), (1, .int x0), (2, .int x1), (3, .int r46940), (4, .int y17_l4), (5, .int r46941)]) hl [2, 3, 4, 1, 5, 0] rfl) (me_up hm35 er46941 (by decide))
                · have g46942 : Rg 0 0 x0 := wk_eql g35_l1 (by decide : Rg 0 0 (0 : Int32)) c46938 (by decide)
                  refine lv_bipush (v := 12) hx hb dX11_firstOrCount_87 (by decide) ?_
                  refine lv_iload hx hb dX11_firstOrCount_89 (lv_at hl 4 rfl) ?_
                  refine wk_imul (f := 132) hx hb dX11_firstOrCount_91 (by decide : Rg 0 12 (12 : Int32)) g35_l4 (by decide) (fun r46943 hr46943 er46943 qr46943 => ?_)
                  refine lv_iload hx hb dX11_firstOrCount_92 (lv_at hl 5 rfl) ?_
                  refine wk_iadd (e1 := 1) (f := 143) hx hb dX11_firstOrCount_94 hr46943 g46930 (by decide) (fun r46944 hr46944 er46944 qr46944 => ?_)
                  subst hAe
                  exact W.iret (v := r46944) hx hb hr (fun t ht hW => ⟨⟨_, u, rfl, ⟨(rg_any r46944), trivial⟩, by rw [ht]; exact hP, hD⟩, hS.F ht⟩) hS.2.2 dX11_firstOrCount_95
            · have g46945 : Rg 1 1 x1 := rg_ne_lo (k := 0) g35_l2 (by decide) c46931 (by decide)
              refine lv_aload_n hx hb dX11_firstOrCount_51 rfl (lv_at hl 0 rfl) ?_
              refine va_get (D := D) (ci := 11) (v := .ref (a 7)) (C := RX11) (T := TX11) (N := 16) hx hb hts hin11 hown hK hP 0 rfl rfl 1 (by decide) (hts (.fieldLink RX11 21 "MissedPoints" "pairs" "LMissedPoints$Pairs;") (by decide +kernel)) (fun _ h9 => h9) rfl dX11_firstOrCount_52 ?_
              refine lv_iload hx hb dX11_firstOrCount_55 (lv_at hl 4 rfl) ?_
              refine lv_iload hx hb dX11_firstOrCount_57 (lv_at hl 5 rfl) ?_
              refine wk_qi (wX cI cS a na nc N L) u (As := [.int y17_l4, .int y35_l5]) (rest := []) ⟨hx, hb, hml, hown, hts⟩ (k_X3_isMend l D cI cS _ a na nc N L u hL hN y17_l4 y35_l5) hKK hP hD hS hA 7 (ci := 3) rfl rfl (cwV 2 hts gX11_firstOrCount_X3_isMend rfl rfl rfl (by decide +kernel) ⟨Nat.le_of_ble_eq_true rfl, Nat.le_of_ble_eq_true rfl⟩) rfl hl.1 rfl (Nat.le_of_ble_eq_true rfl) dX11_firstOrCount_59 ⟨Nat.le_of_ble_eq_true rfl, Nat.le_of_ble_eq_true rfl⟩ (fun r46946 u H locs hr46946 hP hD hS => ?_)
              refine lv_if_eq (tgt := 99) hx hb dX11_firstOrCount_62 (by decide) (fun c46947 => ?_) (fun c46947 => ?_)
              · have g46948 : Rg 0 0 r46946 := wk_eql hr46946.1 (by decide : Rg 0 0 (0 : Int32)) c46947 (by decide)
                refine wk_iinc (lv' := fun r => [(5, .int r), (0, .ref (a 0)), (1, .int x0), (2, .int x1), (3, .int y35_l3), (4, .int y17_l4)]) (e1 := 2) (f := 12) hx hb dX11_firstOrCount_99 hl (k := 5) rfl (by decide) g46930 (by decide) (fun _ => rfl) (fun r46949 ls hr46949 er46949 hl => ?_)
                refine lv_goto (tgt := 35) hx hb dX11_firstOrCount_102 (by decide) ?_
                exact ih35 y35_l3 r46949 u _ _ ls g35_l1 (show Rg 0 1 x1 from rg_w g46945 (by decide) (by decide)) g35_l4 (show Rg 1 12 r46949 from rg_w hr46949 (by decide) (by decide)) hP hD hS (lv_sub (l' := [(0, .ref (a 0)), (1, .int x0), (2, .int x1), (3, .int y35_l3), (4, .int y17_l4), (5, .int r46949)]) hl [1, 2, 3, 4, 5, 0] rfl) (me_up hm35 er46949 (by decide))
              · have g46950 : Rg 1 1 r46946 := rg_ne_lo (k := 0) hr46946.1 (by decide) c46947 (by decide)
                refine lv_goto (tgt := 83) hx hb dX11_firstOrCount_65 (by decide) ?_
                refine lv_iload_n hx hb dX11_firstOrCount_83 rfl (lv_at hl 1 rfl) ?_
                refine lv_if_ne (tgt := 96) hx hb dX11_firstOrCount_84 (by decide) (fun c46951 => ?_) (fun c46951 => ?_)
                · have g46952 : Rg 1 1 x0 := rg_ne_lo (k := 0) g35_l1 (by decide) c46951 (by decide)
                  refine wk_iincA (lv' := fun r => [(3, .int r), (0, .ref (a 0)), (1, .int x0), (2, .int x1), (4, .int y17_l4), (5, .int y35_l5)]) hx hb dX11_firstOrCount_96 hl (k := 3) rfl (by decide) (fun _ => rfl) (fun r46953 ls hl => ?_)
                  refine wk_iinc (lv' := fun r => [(5, .int r), (3, .int r46953), (0, .ref (a 0)), (1, .int x0), (2, .int x1), (4, .int y17_l4)]) (e1 := 2) (f := 12) hx hb dX11_firstOrCount_99 hl (k := 5) rfl (by decide) g46930 (by decide) (fun _ => rfl) (fun r46954 ls hr46954 er46954 hl => ?_)
                  refine lv_goto (tgt := 35) hx hb dX11_firstOrCount_102 (by decide) ?_
                  exact ih35 r46953 r46954 u _ _ ls (show Rg 0 1 x0 from rg_w g46952 (by decide) (by decide)) (show Rg 0 1 x1 from rg_w g46945 (by decide) (by decide)) g35_l4 (show Rg 1 12 r46954 from rg_w hr46954 (by decide) (by decide)) hP hD hS (lv_sub (l' := [(0, .ref (a 0)), (1, .int x0), (2, .int x1), (3, .int r46953), (4, .int y17_l4), (5, .int r46954)]) hl [2, 3, 4, 1, 5, 0] rfl) (me_up hm35 er46954 (by decide))
                · have g46955 : Rg 0 0 x0 := wk_eql g35_l1 (by decide : Rg 0 0 (0 : Int32)) c46951 (by decide)
                  refine lv_bipush (v := 12) hx hb dX11_firstOrCount_87 (by decide) ?_
                  refine lv_iload hx hb dX11_firstOrCount_89 (lv_at hl 4 rfl) ?_
                  refine wk_imul (f := 132) hx hb dX11_firstOrCount_91 (by decide : Rg 0 12 (12 : Int32)) g35_l4 (by decide) (fun r46956 hr46956 er46956 qr46956 => ?_)
                  refine lv_iload hx hb dX11_firstOrCount_92 (lv_at hl 5 rfl) ?_
                  refine wk_iadd (e1 := 1) (f := 143) hx hb dX11_firstOrCount_94 hr46956 g46930 (by decide) (fun r46957 hr46957 er46957 qr46957 => ?_)
                  subst hAe
                  exact W.iret (v := r46957) hx hb hr (fun t ht hW => ⟨⟨_, u, rfl, ⟨(rg_any r46957), trivial⟩, by rw [ht]; exact hP, hD⟩, hS.F ht⟩) hS.2.2 dX11_firstOrCount_95
      refine lv_iload hx hb dX11_firstOrCount_17 (lv_at hl 4 rfl) ?_
      refine lv_aload_n hx hb dX11_firstOrCount_19 rfl (lv_at hl 0 rfl) ?_
      refine va_get (D := D) (ci := 11) (v := .ref (a 1)) (C := RX11) (T := TX11) (N := 16) hx hb hts hin11 hown hK hP 0 rfl rfl 0 (by decide) (hts (.fieldLink RX11 12 "MissedPoints" "net" "LMissedPoints$Net;") (by decide +kernel)) (fun _ h9 => h9) rfl dX11_firstOrCount_20 ?_
      refine va_getN (D := D) (ci := 2) (v := .int (L 1 1)) (C := RX2) (T := TX2) (N := 3) hx hb hts hin2 hown hK hP 1 rfl rfl 1 (by decide) (va_Nw.use rfl hKK.2.2.2.2.2.2.2.2.2.2.1) (fun _ h9 => h9) rfl dX11_firstOrCount_23 ?_
      refine lv_icmp_ge (tgt := 111) hx hb dX11_firstOrCount_26 (by decide) (fun c46958 => ?_) (fun c46958 => ?_)
      · refine lv_iload_n hx hb dX11_firstOrCount_111 rfl (lv_at hl 1 rfl) ?_
        refine lv_if_ne (tgt := 119) hx hb dX11_firstOrCount_112 (by decide) (fun c46959 => ?_) (fun c46959 => ?_)
        · have g46960 : Rg 1 1 x0 := rg_ne_lo (k := 0) g17_l1 (by decide) c46959 (by decide)
          refine lv_iload_n hx hb dX11_firstOrCount_119 rfl (lv_at hl 3 rfl) ?_
          subst hAe
          exact W.iret (v := y17_l3) hx hb hr (fun t ht hW => ⟨⟨_, u, rfl, ⟨(rg_any y17_l3), trivial⟩, by rw [ht]; exact hP, hD⟩, hS.F ht⟩) hS.2.2 dX11_firstOrCount_120
        · have g46961 : Rg 0 0 x0 := wk_eql g17_l1 (by decide : Rg 0 0 (0 : Int32)) c46959 (by decide)
          refine lv_iconst (v := (-1)) hx hb dX11_firstOrCount_115 (by decide) ?_
          refine lv_goto (tgt := 120) hx hb dX11_firstOrCount_116 (by decide) ?_
          subst hAe
          exact W.iret (v := (-1)) hx hb hr (fun t ht hW => ⟨⟨_, u, rfl, ⟨(by decide : Rg (-2147483648) 2147483647 ((-1) : Int32)), trivial⟩, by rw [ht]; exact hP, hD⟩, hS.F ht⟩) hS.2.2 dX11_firstOrCount_120
      · have g46962 : Rg 1 12 (L 1 1) := rg_ltr g17_l4 hL.1 (rg_nle c46958) (by decide)
        have g46963 : Rg 0 11 y17_l4 := rg_ltl g17_l4 hL.1 (rg_nle c46958) (by decide)
        refine lv_iload hx hb dX11_firstOrCount_29 (lv_at hl 4 rfl) ?_
        refine lv_iconst (v := 1) hx hb dX11_firstOrCount_31 (by decide) ?_
        refine wk_iadd (e1 := 1) (f := 12) hx hb dX11_firstOrCount_32 g46963 (by decide : Rg 1 1 (1 : Int32)) (by decide) (fun r46964 hr46964 er46964 qr46964 => ?_)
        refine lv_istore (lv' := [(5, .int r46964), (0, .ref (a 0)), (1, .int x0), (2, .int x1), (3, .int y17_l3), (4, .int y17_l4)]) hx hb dX11_firstOrCount_33 hl (by decide) rfl (fun ls hl => ?_)
        exact lp35 12 y17_l3 r46964 u _ _ ls g17_l1 g17_l2 g46963 hr46964 hP hD hS (lv_sub (l' := [(0, .ref (a 0)), (1, .int x0), (2, .int x1), (3, .int y17_l3), (4, .int y17_l4), (5, .int r46964)]) hl [1, 2, 3, 4, 5, 0] rfl) (me_i hr46964 (by decide))
  refine lv_iload_n hx hb dX11_firstOrCount_0 rfl (lv_at hl 1 rfl) ?_
  refine lv_if_eq (tgt := 12) hx hb dX11_firstOrCount_1 (by decide) (fun c46965 => ?_) (fun c46965 => ?_)
  · have g46966 : Rg 0 0 x0 := wk_eql (rg_any x0) (by decide : Rg 0 0 (0 : Int32)) c46965 (by decide)
    refine lv_iconst (v := 0) hx hb dX11_firstOrCount_12 (by decide) ?_
    refine lv_istore_n (lv' := [(3, .int 0), (0, .ref (a 0)), (1, .int x0), (2, .int x1)]) hx hb dX11_firstOrCount_13 rfl hl (by decide) rfl (fun ls hl => ?_)
    refine lv_iconst (v := 0) hx hb dX11_firstOrCount_14 (by decide) ?_
    refine lv_istore (lv' := [(4, .int 0), (3, .int 0), (0, .ref (a 0)), (1, .int x0), (2, .int x1)]) hx hb dX11_firstOrCount_15 hl (by decide) rfl (fun ls hl => ?_)
    exact lp17 13 (0 : Int32) (0 : Int32) u _ _ ls (show Rg 0 1 x0 from rg_w g46966 (by decide) (by decide)) px1 (by decide : Rg 0 12 (0 : Int32)) hP hD hS (lv_sub (l' := [(0, .ref (a 0)), (1, .int x0), (2, .int x1), (3, .int 0), (4, .int 0)]) hl [2, 3, 4, 1, 0] rfl) (me_i (by decide : Rg 0 12 (0 : Int32)) (by decide))
  · refine lv_iload_n hx hb dX11_firstOrCount_4 rfl (lv_at hl 1 rfl) ?_
    refine lv_iconst (v := 1) hx hb dX11_firstOrCount_5 (by decide) ?_
    refine lv_icmp_eq (tgt := 12) hx hb dX11_firstOrCount_6 (by decide) (fun c46967 => ?_) (fun c46967 => ?_)
    · have g46968 : Rg 1 1 x0 := wk_eql (rg_any x0) (by decide : Rg 1 1 (1 : Int32)) c46967 (by decide)
      refine lv_iconst (v := 0) hx hb dX11_firstOrCount_12 (by decide) ?_
      refine lv_istore_n (lv' := [(3, .int 0), (0, .ref (a 0)), (1, .int x0), (2, .int x1)]) hx hb dX11_firstOrCount_13 rfl hl (by decide) rfl (fun ls hl => ?_)
      refine lv_iconst (v := 0) hx hb dX11_firstOrCount_14 (by decide) ?_
      refine lv_istore (lv' := [(4, .int 0), (3, .int 0), (0, .ref (a 0)), (1, .int x0), (2, .int x1)]) hx hb dX11_firstOrCount_15 hl (by decide) rfl (fun ls hl => ?_)
      exact lp17 13 (0 : Int32) (0 : Int32) u _ _ ls (show Rg 0 1 x0 from rg_w g46968 (by decide) (by decide)) px1 (by decide : Rg 0 12 (0 : Int32)) hP hD hS (lv_sub (l' := [(0, .ref (a 0)), (1, .int x0), (2, .int x1), (3, .int 0), (4, .int 0)]) hl [2, 3, 4, 1, 0] rfl) (me_i (by decide : Rg 0 12 (0 : Int32)) (by decide))
    · refine lv_bipush (v := (-2)) hx hb dX11_firstOrCount_9 (by decide) ?_
      subst hAe
      exact W.iret (v := (-2)) hx hb hr (fun t ht hW => ⟨⟨_, u, rfl, ⟨(by decide : Rg (-2147483648) 2147483647 ((-2) : Int32)), trivial⟩, by rw [ht]; exact hP, hD⟩, hS.F ht⟩) hS.2.2 dX11_firstOrCount_11
set_option maxHeartbeats 4000000 in
set_option maxRecDepth 100000 in
theorem k_X11_mends (l : Launch) (D : va_G) (cI cS : ClassId) (sz : Nat) (a : Nat → Nat) (na nc N : Nat) (L u0 : SU) (hL : TyX L) (hN : N = 0 ∨ N = 24576) (x0 : Int32) : Met l yX11_mends wsX11_mends ({ frames := 19, cells := 0, slots := 0, locals := 760 }) (PQ D cI cS (wX cI cS a na nc N L u0) sz [.ref (a 0), .int x0]) (QF (S := SU) D (wX cI cS a na nc N L u0) (wX cI cS a na nc N L) sz (fun r _ => Rg (-2147483648) 2147483647 r ∧ True)) 0 0 (va_A (wX cI cS a na nc N L u0) sz) := by
  refine Met.ofW (cc := cX11_mends) (maxL := 2) (ret := (some .int)) (by decide) rfl ?_
  intro p e s m args below meth c s₁ B hml hv
  obtain ⟨rfl, hsz, hP, hKK, hD0⟩ := hv
  have hx := B.exec
  have hb := B.bytes
  have hr := B.returns
  have hts := atoms_spec (ws := wsX11_mends) B.pre
  have hown : s.vm.findClass RX11 = some m.cls := findClass_of_methodNamed B.named
  have hlocks := B.notSynchronized
  have hK := hKK.1
  subst hsz
  have hD := hD0.self (sz := s.heap.size)
  obtain ⟨A, hAe⟩ : ∃ A, A = va_A (wX cI cS a na nc N L u0) s.heap.size := ⟨_, rfl⟩
  rw [← hAe] at hD
  have hA : ∀ q : Nat, s.heap.size ≤ q → A q := fun q h => by rw [hAe]; exact Or.inr h
  have hS : va_S A s.heap s.heap [] := va_S.rf
  have hl := lv_entry ([.ref (a 0), .int x0]) (n := 2) (Nat.le_of_ble_eq_true rfl)
  rw [lg_entry_eq]
  generalize (lg_sl ([.ref (a 0), .int x0]) ++ List.replicate (2 - (lg_sl ([.ref (a 0), .int x0])).length) Slot.unset).toArray = ls at hl ⊢
  have hl : lv_has ls 2 [(0, .ref (a 0)), (1, .int x0)] := hl
  obtain ⟨u, hu9⟩ : ∃ u : SU, u = u0 := ⟨_, rfl⟩
  rw [← hu9] at hP hD
  refine lv_aload_n hx hb dX11_mends_0 rfl (lv_at hl 0 rfl) ?_
  refine lv_iload_n hx hb dX11_mends_1 rfl (lv_at hl 1 rfl) ?_
  refine lv_iconst (v := 1) hx hb dX11_mends_2 (by decide) ?_
  refine wk_qi (wX cI cS a na nc N L) u (As := [.int x0, .int 1]) (rest := []) ⟨hx, hb, hml, hown, hts⟩ (k_X11_firstOrCount l D cI cS _ a na nc N L u hL hN x0 (1 : Int32) (by decide : Rg 0 1 (1 : Int32))) hKK hP hD hS hA 0 (ci := 11) rfl rfl (cwV 2 hts gX11_mends_X11_firstOrCount rfl rfl rfl (by decide +kernel) ⟨Nat.le_of_ble_eq_true rfl, Nat.le_of_ble_eq_true rfl⟩) rfl hl.1 rfl (Nat.le_of_ble_eq_true rfl) dX11_mends_3 ⟨Nat.le_of_ble_eq_true rfl, Nat.le_of_ble_eq_true rfl⟩ (fun r46970 u H locs hr46970 hP hD hS => ?_)
  subst hAe
  exact W.iret (v := r46970) hx hb hr (fun t ht hW => ⟨⟨_, u, rfl, ⟨hr46970.1, trivial⟩, by rw [ht]; exact hP, hD⟩, hS.F ht⟩) hS.2.2 dX11_mends_6
set_option maxHeartbeats 4000000 in
set_option maxRecDepth 100000 in
theorem k_X11_breaks (l : Launch) (D : va_G) (cI cS : ClassId) (sz : Nat) (a : Nat → Nat) (na nc N : Nat) (L u0 : SU) (hL : TyX L) (hN : N = 0 ∨ N = 24576) (x0 : Int32) : Met l yX11_breaks wsX11_breaks ({ frames := 19, cells := 0, slots := 0, locals := 760 }) (PQ D cI cS (wX cI cS a na nc N L u0) sz [.ref (a 0), .int x0]) (QF (S := SU) D (wX cI cS a na nc N L u0) (wX cI cS a na nc N L) sz (fun r _ => Rg (-2147483648) 2147483647 r ∧ True)) 0 0 (va_A (wX cI cS a na nc N L u0) sz) := by
  refine Met.ofW (cc := cX11_breaks) (maxL := 2) (ret := (some .int)) (by decide) rfl ?_
  intro p e s m args below meth c s₁ B hml hv
  obtain ⟨rfl, hsz, hP, hKK, hD0⟩ := hv
  have hx := B.exec
  have hb := B.bytes
  have hr := B.returns
  have hts := atoms_spec (ws := wsX11_breaks) B.pre
  have hown : s.vm.findClass RX11 = some m.cls := findClass_of_methodNamed B.named
  have hlocks := B.notSynchronized
  have hK := hKK.1
  subst hsz
  have hD := hD0.self (sz := s.heap.size)
  obtain ⟨A, hAe⟩ : ∃ A, A = va_A (wX cI cS a na nc N L u0) s.heap.size := ⟨_, rfl⟩
  rw [← hAe] at hD
  have hA : ∀ q : Nat, s.heap.size ≤ q → A q := fun q h => by rw [hAe]; exact Or.inr h
  have hS : va_S A s.heap s.heap [] := va_S.rf
  have hl := lv_entry ([.ref (a 0), .int x0]) (n := 2) (Nat.le_of_ble_eq_true rfl)
  rw [lg_entry_eq]
  generalize (lg_sl ([.ref (a 0), .int x0]) ++ List.replicate (2 - (lg_sl ([.ref (a 0), .int x0])).length) Slot.unset).toArray = ls at hl ⊢
  have hl : lv_has ls 2 [(0, .ref (a 0)), (1, .int x0)] := hl
  obtain ⟨u, hu9⟩ : ∃ u : SU, u = u0 := ⟨_, rfl⟩
  rw [← hu9] at hP hD
  refine lv_aload_n hx hb dX11_breaks_0 rfl (lv_at hl 0 rfl) ?_
  refine lv_iload_n hx hb dX11_breaks_1 rfl (lv_at hl 1 rfl) ?_
  refine lv_iconst (v := 0) hx hb dX11_breaks_2 (by decide) ?_
  refine wk_qi (wX cI cS a na nc N L) u (As := [.int x0, .int 0]) (rest := []) ⟨hx, hb, hml, hown, hts⟩ (k_X11_firstOrCount l D cI cS _ a na nc N L u hL hN x0 (0 : Int32) (by decide : Rg 0 1 (0 : Int32))) hKK hP hD hS hA 0 (ci := 11) rfl rfl (cwV 2 hts gX11_breaks_X11_firstOrCount rfl rfl rfl (by decide +kernel) ⟨Nat.le_of_ble_eq_true rfl, Nat.le_of_ble_eq_true rfl⟩) rfl hl.1 rfl (Nat.le_of_ble_eq_true rfl) dX11_breaks_3 ⟨Nat.le_of_ble_eq_true rfl, Nat.le_of_ble_eq_true rfl⟩ (fun r46972 u H locs hr46972 hP hD hS => ?_)
  subst hAe
  exact W.iret (v := r46972) hx hb hr (fun t ht hW => ⟨⟨_, u, rfl, ⟨hr46972.1, trivial⟩, by rw [ht]; exact hP, hD⟩, hS.F ht⟩) hS.2.2 dX11_breaks_6
theorem dX11_refusalOfSheet_27 : decode cX11_refusalOfSheet 27 = .ok (.iconst 0, 1) := by decide +kernel
set_option maxHeartbeats 4000000 in
set_option maxRecDepth 100000 in
theorem k_X11_refusalOfSheet (l : Launch) (D : va_G) (cI cS : ClassId) (a : Nat → Nat) (na nc N : Nat) (L u : SU) (hL : TyX L) (hN : N = 0 ∨ N = 24576) (x0 : Int32) : Met l yX11_refusalOfSheet wsX11_refusalOfSheet ({ frames := 1, cells := 0, slots := 0, locals := 40 }) (PS D cI cS (wX cI cS a na nc N L u) [.ref (a 0), .int x0]) (vp_Si (fun r => Rg (-11) 0 r ∧ (r = 0 → Rg 0 3 x0))) 0 0 (fun _ => False) := by
  refine Met.ofW (cc := cX11_refusalOfSheet) (maxL := 2) (ret := (some .int)) (by decide) rfl ?_
  intro p e s m args below meth c s₁ B hml hv
  obtain ⟨rfl, hP, hKK⟩ := hv
  have hx := B.exec
  have hb := B.bytes
  have hr := B.returns
  have hts := atoms_spec (ws := wsX11_refusalOfSheet) B.pre
  have hown : s.vm.findClass RX11 = some m.cls := findClass_of_methodNamed B.named
  have hlocks := B.notSynchronized
  have hK := hKK.1
  have hin11 : ∀ w ∈ wsX110, w ∈ wsX11_refusalOfSheet := by decide +kernel
  have hl := lv_entry ([.ref (a 0), .int x0]) (n := 2) (Nat.le_of_ble_eq_true rfl)
  rw [lg_entry_eq]
  generalize (lg_sl ([.ref (a 0), .int x0]) ++ List.replicate (2 - (lg_sl ([.ref (a 0), .int x0])).length) Slot.unset).toArray = ls at hl ⊢
  have hl : lv_has ls 2 [(0, .ref (a 0)), (1, .int x0)] := hl
  refine lv_iload_n hx hb dX11_refusalOfSheet_0 rfl (lv_at hl 1 rfl) ?_
  refine lz_ss (As := [.int x0]) (rest := []) ⟨hx, hb, hml, hown, hts⟩ (k_X11_isSheet l D cI cS x0) hKK (hP.sub (ws' := []) [] rfl) (va_cwS 1 hts gX11_refusalOfSheet_X11_isSheet rfl rfl rfl (by decide +kernel) ⟨Nat.le_of_ble_eq_true rfl, Nat.le_of_ble_eq_true rfl⟩) rfl hl.1 rfl (Nat.le_of_ble_eq_true rfl) dX11_refusalOfSheet_1 ⟨Nat.le_of_ble_eq_true rfl, Nat.le_of_ble_eq_true rfl⟩ (fun r46983 hr46983 => ?_)
  refine lv_if_ne (tgt := 10) hx hb dX11_refusalOfSheet_4 (by decide) (fun c46984 => ?_) (fun c46984 => ?_)
  · have g46985 : Rg 0 3 x0 := (hr46983.2 c46984)
    have g46986 : Rg 1 1 r46983 := rg_ne_lo (k := 0) hr46983.1 (by decide) c46984 (by decide)
    refine lv_aload_n hx hb dX11_refusalOfSheet_10 rfl (lv_at hl 0 rfl) ?_
    refine va_get (D := D) (ci := 11) (v := .ref (a 25)) (C := RX11) (T := TX11) (N := 16) hx hb hts hin11 hown hK hP 0 rfl rfl 12 (by decide) (hts (.fieldLink RX11 75 "MissedPoints" "sheets" "[LMissedPoints$Sheet;") (by decide +kernel)) (fun _ h9 => h9) rfl dX11_refusalOfSheet_11 ?_
    refine lv_iload_n hx hb dX11_refusalOfSheet_14 rfl (lv_at hl 1 rfl) ?_
    obtain ⟨q46987, hq46987, eq46987, zq46987⟩ := ks_sh (a := a) g46985
    refine va_aldq hx hb hK hP 25 1 rfl rfl (rg_in g46985 (by decide) (by decide)) dX11_refusalOfSheet_15 ?_
    refine lz_va (y := .ref (a (26 + 2 * q46987))) (by show va_rf _ = _; rw [zq46987]; rfl) ?_
    refine wk_sv (26 + 2 * q46987) (As := []) (rest := []) ⟨hx, hb, hml, hown, hts⟩ (k_X6_isMissing l D cI cS a na nc N L u hL hN q46987 hq46987) hKK hP (ci := 6) rfl (gx_sh hq46987) (cwV 0 hts gX11_refusalOfSheet_X6_isMissing rfl rfl rfl (by decide +kernel) ⟨Nat.le_of_ble_eq_true rfl, Nat.le_of_ble_eq_true rfl⟩) rfl hl.1 rfl (Nat.le_of_ble_eq_true rfl) dX11_refusalOfSheet_16 ⟨Nat.le_of_ble_eq_true rfl, Nat.le_of_ble_eq_true rfl⟩ (fun r46988 hr46988 => ?_)
    refine lv_if_eq (tgt := 27) hx hb dX11_refusalOfSheet_19 (by decide) (fun c46989 => ?_) (fun c46989 => ?_)
    · have g46990 : Rg 0 0 r46988 := wk_eql hr46988.1 (by decide : Rg 0 0 (0 : Int32)) c46989 (by decide)
      refine lv_iconst (v := 0) hx hb dX11_refusalOfSheet_27 (by decide) ?_
      exact W.iret (v := 0) hx hb hr (fun t ht hW => ⟨_, rfl, ⟨(by decide : Rg (-11) 0 (0 : Int32)), fun _ => g46985⟩, ht⟩) (fun q hq => absurd hq List.not_mem_nil) dX11_refusalOfSheet_28
    · have g46991 : Rg 1 1 r46988 := rg_ne_lo (k := 0) hr46988.1 (by decide) c46989 (by decide)
      refine lv_bipush (v := (-11)) hx hb dX11_refusalOfSheet_22 (by decide) ?_
      refine lv_goto (tgt := 28) hx hb dX11_refusalOfSheet_24 (by decide) ?_
      exact W.iret (v := (-11)) hx hb hr (fun t ht hW => ⟨_, rfl, ⟨(by decide : Rg (-11) 0 ((-11) : Int32)), fun h9 => absurd h9 (by decide)⟩, ht⟩) (fun q hq => absurd hq List.not_mem_nil) dX11_refusalOfSheet_28
  · have g46992 : Rg 0 0 r46983 := wk_eql hr46983.1 (by decide : Rg 0 0 (0 : Int32)) c46984 (by decide)
    refine lv_bipush (v := (-2)) hx hb dX11_refusalOfSheet_7 (by decide) ?_
    exact W.iret (v := (-2)) hx hb hr (fun t ht hW => ⟨_, rfl, ⟨(by decide : Rg (-11) 0 ((-2) : Int32)), fun h9 => absurd h9 (by decide)⟩, ht⟩) (fun q hq => absurd hq List.not_mem_nil) dX11_refusalOfSheet_9
set_option maxRecDepth 20000 in
theorem ggX11_refusalOfTold_X9_readFrom : GoodIn wsX11_refusalOfTold wsX9_readFrom := goodIn_r _ [21, 22, 23, 24, 25, 26, 14, 27, 28, 29, 30, 31, 32, 33, 34, 35, 36, 37, 38, 39, 40, 41, 42, 43, 44, 45, 46, 47, 48, 65, 66, 67, 68, 69, 70, 71, 72, 73, 74, 75, 76] rfl (by decide +kernel)
set_option maxRecDepth 20000 in
theorem gX11_refusalOfTold_X9_readFrom : GoodIn wsX11_refusalOfTold (wsV RX11 221 RX9 yX9_readFrom wsX9_readFrom) := goodIn_app (goodIn_of _ (by decide +kernel)) ggX11_refusalOfTold_X9_readFrom
theorem dX11_refusalOfTold_12 : decode cX11_refusalOfTold 12 = .ok (.aload_n 0, 1) := by decide +kernel
theorem dX11_refusalOfTold_13 : decode cX11_refusalOfTold 13 = .ok (.getfield 82, 3) := by decide +kernel
theorem dX11_refusalOfTold_16 : decode cX11_refusalOfTold 16 = .ok (.aload_n 0, 1) := by decide +kernel
theorem dX11_refusalOfTold_17 : decode cX11_refusalOfTold 17 = .ok (.getfield 75, 3) := by decide +kernel
theorem dX11_refusalOfTold_20 : decode cX11_refusalOfTold 20 = .ok (.iload_n 1, 1) := by decide +kernel
theorem dX11_refusalOfTold_21 : decode cX11_refusalOfTold 21 = .ok (.aaload, 1) := by decide +kernel
theorem dX11_refusalOfTold_22 : decode cX11_refusalOfTold 22 = .ok (.invokevirtual 221, 3) := by decide +kernel
theorem dX11_refusalOfTold_25 : decode cX11_refusalOfTold 25 = .ok (.ifCond .eq 7, 3) := by decide +kernel
theorem dX11_refusalOfTold_28 : decode cX11_refusalOfTold 28 = .ok (.iconst 0, 1) := by decide +kernel
theorem dX11_refusalOfTold_29 : decode cX11_refusalOfTold 29 = .ok (.goto 5, 3) := by decide +kernel
theorem dX11_refusalOfTold_32 : decode cX11_refusalOfTold 32 = .ok (.bipush (-3), 2) := by decide +kernel
theorem dX11_refusalOfTold_34 : decode cX11_refusalOfTold 34 = .ok (.ireturn, 1) := by decide +kernel
set_option maxHeartbeats 4000000 in
set_option maxRecDepth 100000 in
theorem k_X11_refusalOfTold (l : Launch) (D : va_G) (cI cS : ClassId) (sz : Nat) (a : Nat → Nat) (na nc N : Nat) (L u0 : SU) (hL : TyX L) (hN : N = 0 ∨ N = 24576) (x0 : Int32) : Met l yX11_refusalOfTold wsX11_refusalOfTold ({ frames := 4, cells := 0, slots := 0, locals := 160 }) (PQ D cI cS (wX cI cS a na nc N L u0) sz [.ref (a 0), .int x0]) (QF (S := SU) D (wX cI cS a na nc N L u0) (wX cI cS a na nc N L) sz (fun r _ => Rg (-11) 0 r ∧ (r = 0 → Rg 0 3 x0))) 0 0 (va_A (wX cI cS a na nc N L u0) sz) := by
  refine Met.ofW (cc := cX11_refusalOfTold) (maxL := 3) (ret := (some .int)) (by decide) rfl ?_
  intro p e s m args below meth c s₁ B hml hv
  obtain ⟨rfl, hsz, hP, hKK, hD0⟩ := hv
  have hx := B.exec
  have hb := B.bytes
  have hr := B.returns
  have hts := atoms_spec (ws := wsX11_refusalOfTold) B.pre
  have hown : s.vm.findClass RX11 = some m.cls := findClass_of_methodNamed B.named
  have hlocks := B.notSynchronized
  have hK := hKK.1
  have hin11 : ∀ w ∈ wsX110, w ∈ wsX11_refusalOfTold := by decide +kernel
  subst hsz
  have hD := hD0.self (sz := s.heap.size)
  obtain ⟨A, hAe⟩ : ∃ A, A = va_A (wX cI cS a na nc N L u0) s.heap.size := ⟨_, rfl⟩
  rw [← hAe] at hD
  have hA : ∀ q : Nat, s.heap.size ≤ q → A q := fun q h => by rw [hAe]; exact Or.inr h
  have hS : va_S A s.heap s.heap [] := va_S.rf
  have hl := lv_entry ([.ref (a 0), .int x0]) (n := 3) (Nat.le_of_ble_eq_true rfl)
  rw [lg_entry_eq]
  generalize (lg_sl ([.ref (a 0), .int x0]) ++ List.replicate (3 - (lg_sl ([.ref (a 0), .int x0])).length) Slot.unset).toArray = ls at hl ⊢
  have hl : lv_has ls 3 [(0, .ref (a 0)), (1, .int x0)] := hl
  obtain ⟨u, hu9⟩ : ∃ u : SU, u = u0 := ⟨_, rfl⟩
  rw [← hu9] at hP hD
  refine lv_aload_n hx hb dX11_refusalOfTold_0 rfl (lv_at hl 0 rfl) ?_
  refine lv_iload_n hx hb dX11_refusalOfTold_1 rfl (lv_at hl 1 rfl) ?_
  refine wk_sv 0 (As := [.int x0]) (rest := []) ⟨hx, hb, hml, hown, hts⟩ (k_X11_refusalOfSheet l D cI cS a na nc N L u hL hN x0) hKK hP (ci := 11) rfl rfl (cwV 1 hts gX11_refusalOfTold_X11_refusalOfSheet rfl rfl rfl (by decide +kernel) ⟨Nat.le_of_ble_eq_true rfl, Nat.le_of_ble_eq_true rfl⟩) rfl hl.1 rfl (Nat.le_of_ble_eq_true rfl) dX11_refusalOfTold_2 ⟨Nat.le_of_ble_eq_true rfl, Nat.le_of_ble_eq_true rfl⟩ (fun r47003 hr47003 => ?_)
  refine lv_istore_n (lv' := [(2, .int r47003), (0, .ref (a 0)), (1, .int x0)]) hx hb dX11_refusalOfTold_5 rfl hl (by decide) rfl (fun ls hl => ?_)
  refine lv_iload_n hx hb dX11_refusalOfTold_6 rfl (lv_at hl 0 rfl) ?_
  refine lv_if_eq (tgt := 12) hx hb dX11_refusalOfTold_7 (by decide) (fun c47004 => ?_) (fun c47004 => ?_)
  · have g47005 : Rg 0 3 x0 := (hr47003.2 c47004)
    have g47006 : Rg 0 0 r47003 := wk_eql hr47003.1 (by decide : Rg 0 0 (0 : Int32)) c47004 (by decide)
    refine lv_aload_n hx hb dX11_refusalOfTold_12 rfl (lv_at hl 1 rfl) ?_
    refine va_get (D := D) (ci := 11) (v := .ref (a 34)) (C := RX11) (T := TX11) (N := 16) hx hb hts hin11 hown hK hP 0 rfl rfl 13 (by decide) (hts (.fieldLink RX11 82 "MissedPoints" "told" "LMissedPoints$Told;") (by decide +kernel)) (fun _ h9 => h9) rfl dX11_refusalOfTold_13 ?_
    refine lv_aload_n hx hb dX11_refusalOfTold_16 rfl (lv_at hl 1 rfl) ?_
    refine va_get (D := D) (ci := 11) (v := .ref (a 25)) (C := RX11) (T := TX11) (N := 16) hx hb hts hin11 hown hK hP 0 rfl rfl 12 (by decide) (hts (.fieldLink RX11 75 "MissedPoints" "sheets" "[LMissedPoints$Sheet;") (by decide +kernel)) (fun _ h9 => h9) rfl dX11_refusalOfTold_17 ?_
    refine lv_iload_n hx hb dX11_refusalOfTold_20 rfl (lv_at hl 2 rfl) ?_
    obtain ⟨q47007, hq47007, eq47007, zq47007⟩ := ks_sh (a := a) g47005
    refine va_aldq hx hb hK hP 25 1 rfl rfl (rg_in g47005 (by decide) (by decide)) dX11_refusalOfTold_21 ?_
    refine lz_va (y := .ref (a (26 + 2 * q47007))) (by show va_rf _ = _; rw [zq47007]; rfl) ?_
    refine wk_qi (wX cI cS a na nc N L) u (As := [.ref (a (26 + 2 * q47007))]) (rest := []) ⟨hx, hb, hml, hown, hts⟩ (k_X9_readFrom l D cI cS _ a na nc N L u hL hN q47007 hq47007) hKK hP hD hS hA 34 (ci := 9) rfl rfl (cwV 1 hts gX11_refusalOfTold_X9_readFrom rfl rfl rfl (by decide +kernel) ⟨Nat.le_of_ble_eq_true rfl, Nat.le_of_ble_eq_true rfl⟩) rfl hl.1 rfl (Nat.le_of_ble_eq_true rfl) dX11_refusalOfTold_22 ⟨Nat.le_of_ble_eq_true rfl, Nat.le_of_ble_eq_true rfl⟩ (fun r47008 u H locs hr47008 hP hD hS => ?_)
    refine lv_if_eq (tgt := 32) hx hb dX11_refusalOfTold_25 (by decide) (fun c47009 => ?_) (fun c47009 => ?_)
    · have g47010 : Rg 0 0 r47008 := wk_eql hr47008.1 (by decide : Rg 0 0 (0 : Int32)) c47009 (by decide)
      refine lv_bipush (v := (-3)) hx hb dX11_refusalOfTold_32 (by decide) ?_
      subst hAe
      exact W.iret (v := (-3)) hx hb hr (fun t ht hW => ⟨⟨_, u, rfl, ⟨(by decide : Rg (-11) 0 ((-3) : Int32)), fun h9 => absurd h9 (by decide)⟩, by rw [ht]; exact hP, hD⟩, hS.F ht⟩) hS.2.2 dX11_refusalOfTold_34
    · have g47011 : Rg 1 1 r47008 := rg_ne_lo (k := 0) hr47008.1 (by decide) c47009 (by decide)
      refine lv_iconst (v := 0) hx hb dX11_refusalOfTold_28 (by decide) ?_
      refine lv_goto (tgt := 34) hx hb dX11_refusalOfTold_29 (by decide) ?_
      subst hAe
      exact W.iret (v := 0) hx hb hr (fun t ht hW => ⟨⟨_, u, rfl, ⟨(by decide : Rg (-11) 0 (0 : Int32)), fun _ => g47005⟩, by rw [ht]; exact hP, hD⟩, hS.F ht⟩) hS.2.2 dX11_refusalOfTold_34
  · have g47012 : Rg (-11) (-1) r47003 := rg_ne_hi (k := 0) hr47003.1 (by decide) c47004 (by decide)
    refine lv_iload_n hx hb dX11_refusalOfTold_10 rfl (lv_at hl 0 rfl) ?_
    subst hAe
    exact W.iret (v := r47003) hx hb hr (fun t ht hW => ⟨⟨_, u, rfl, ⟨(show Rg (-11) 0 r47003 from rg_w g47012 (by decide) (by decide)), fun h9 => absurd h9 (wk_nz g47012 (by decide))⟩, by rw [ht]; exact hP, hD⟩, hS.F ht⟩) hS.2.2 dX11_refusalOfTold_11
set_option maxRecDepth 20000 in
theorem ggX11_isTold_X9_readFrom : GoodIn wsX11_isTold wsX9_readFrom := goodIn_r _ [21, 22, 23, 24, 25, 26, 14, 27, 28, 29, 30, 31, 32, 33, 34, 35, 36, 37, 38, 39, 40, 41, 42, 43, 44, 45, 46, 47, 48, 65, 66, 67, 68, 69, 70, 71, 72, 73, 74, 75, 76] rfl (by decide +kernel)
set_option maxRecDepth 20000 in
theorem gX11_isTold_X9_readFrom : GoodIn wsX11_isTold (wsV RX11 221 RX9 yX9_readFrom wsX9_readFrom) := goodIn_app (goodIn_of _ (by decide +kernel)) ggX11_isTold_X9_readFrom
theorem dX11_isTold_12 : decode cX11_isTold 12 = .ok (.aload_n 0, 1) := by decide +kernel
theorem dX11_isTold_13 : decode cX11_isTold 13 = .ok (.getfield 82, 3) := by decide +kernel
theorem dX11_isTold_16 : decode cX11_isTold 16 = .ok (.aload_n 0, 1) := by decide +kernel
theorem dX11_isTold_17 : decode cX11_isTold 17 = .ok (.getfield 75, 3) := by decide +kernel
theorem dX11_isTold_20 : decode cX11_isTold 20 = .ok (.iload_n 1, 1) := by decide +kernel
theorem dX11_isTold_21 : decode cX11_isTold 21 = .ok (.aaload, 1) := by decide +kernel
theorem dX11_isTold_22 : decode cX11_isTold 22 = .ok (.invokevirtual 221, 3) := by decide +kernel
theorem dX11_isTold_25 : decode cX11_isTold 25 = .ok (.ifCond .eq 7, 3) := by decide +kernel
theorem dX11_isTold_28 : decode cX11_isTold 28 = .ok (.iconst 1, 1) := by decide +kernel
theorem dX11_isTold_29 : decode cX11_isTold 29 = .ok (.goto 4, 3) := by decide +kernel
theorem dX11_isTold_32 : decode cX11_isTold 32 = .ok (.iconst 0, 1) := by decide +kernel
theorem dX11_isTold_33 : decode cX11_isTold 33 = .ok (.ireturn, 1) := by decide +kernel
set_option maxHeartbeats 4000000 in
set_option maxRecDepth 100000 in
theorem k_X11_isTold (l : Launch) (D : va_G) (cI cS : ClassId) (sz : Nat) (a : Nat → Nat) (na nc N : Nat) (L u0 : SU) (hL : TyX L) (hN : N = 0 ∨ N = 24576) (x0 : Int32) : Met l yX11_isTold wsX11_isTold ({ frames := 4, cells := 0, slots := 0, locals := 160 }) (PQ D cI cS (wX cI cS a na nc N L u0) sz [.ref (a 0), .int x0]) (QF (S := SU) D (wX cI cS a na nc N L u0) (wX cI cS a na nc N L) sz (fun r _ => Rg (-11) 1 r ∧ (r = 0 → Rg 0 3 x0))) 0 0 (va_A (wX cI cS a na nc N L u0) sz) := by
  refine Met.ofW (cc := cX11_isTold) (maxL := 3) (ret := (some .int)) (by decide) rfl ?_
  intro p e s m args below meth c s₁ B hml hv
  obtain ⟨rfl, hsz, hP, hKK, hD0⟩ := hv
  have hx := B.exec
  have hb := B.bytes
  have hr := B.returns
  have hts := atoms_spec (ws := wsX11_isTold) B.pre
  have hown : s.vm.findClass RX11 = some m.cls := findClass_of_methodNamed B.named
  have hlocks := B.notSynchronized
  have hK := hKK.1
  have hin11 : ∀ w ∈ wsX110, w ∈ wsX11_isTold := by decide +kernel
  subst hsz
  have hD := hD0.self (sz := s.heap.size)
  obtain ⟨A, hAe⟩ : ∃ A, A = va_A (wX cI cS a na nc N L u0) s.heap.size := ⟨_, rfl⟩
  rw [← hAe] at hD
  have hA : ∀ q : Nat, s.heap.size ≤ q → A q := fun q h => by rw [hAe]; exact Or.inr h
  have hS : va_S A s.heap s.heap [] := va_S.rf
  have hl := lv_entry ([.ref (a 0), .int x0]) (n := 3) (Nat.le_of_ble_eq_true rfl)
  rw [lg_entry_eq]
  generalize (lg_sl ([.ref (a 0), .int x0]) ++ List.replicate (3 - (lg_sl ([.ref (a 0), .int x0])).length) Slot.unset).toArray = ls at hl ⊢
  have hl : lv_has ls 3 [(0, .ref (a 0)), (1, .int x0)] := hl
  obtain ⟨u, hu9⟩ : ∃ u : SU, u = u0 := ⟨_, rfl⟩
  rw [← hu9] at hP hD
  refine lv_aload_n hx hb dX11_isTold_0 rfl (lv_at hl 0 rfl) ?_
  refine lv_iload_n hx hb dX11_isTold_1 rfl (lv_at hl 1 rfl) ?_
  refine wk_sv 0 (As := [.int x0]) (rest := []) ⟨hx, hb, hml, hown, hts⟩ (k_X11_refusalOfSheet l D cI cS a na nc N L u hL hN x0) hKK hP (ci := 11) rfl rfl (cwV 1 hts gX11_isTold_X11_refusalOfSheet rfl rfl rfl (by decide +kernel) ⟨Nat.le_of_ble_eq_true rfl, Nat.le_of_ble_eq_true rfl⟩) rfl hl.1 rfl (Nat.le_of_ble_eq_true rfl) dX11_isTold_2 ⟨Nat.le_of_ble_eq_true rfl, Nat.le_of_ble_eq_true rfl⟩ (fun r47023 hr47023 => ?_)
  refine lv_istore_n (lv' := [(2, .int r47023), (0, .ref (a 0)), (1, .int x0)]) hx hb dX11_isTold_5 rfl hl (by decide) rfl (fun ls hl => ?_)
  refine lv_iload_n hx hb dX11_isTold_6 rfl (lv_at hl 0 rfl) ?_
  refine lv_if_eq (tgt := 12) hx hb dX11_isTold_7 (by decide) (fun c47024 => ?_) (fun c47024 => ?_)
  · have g47025 : Rg 0 3 x0 := (hr47023.2 c47024)
    have g47026 : Rg 0 0 r47023 := wk_eql hr47023.1 (by decide : Rg 0 0 (0 : Int32)) c47024 (by decide)
    refine lv_aload_n hx hb dX11_isTold_12 rfl (lv_at hl 1 rfl) ?_
    refine va_get (D := D) (ci := 11) (v := .ref (a 34)) (C := RX11) (T := TX11) (N := 16) hx hb hts hin11 hown hK hP 0 rfl rfl 13 (by decide) (hts (.fieldLink RX11 82 "MissedPoints" "told" "LMissedPoints$Told;") (by decide +kernel)) (fun _ h9 => h9) rfl dX11_isTold_13 ?_
    refine lv_aload_n hx hb dX11_isTold_16 rfl (lv_at hl 1 rfl) ?_
    refine va_get (D := D) (ci := 11) (v := .ref (a 25)) (C := RX11) (T := TX11) (N := 16) hx hb hts hin11 hown hK hP 0 rfl rfl 12 (by decide) (hts (.fieldLink RX11 75 "MissedPoints" "sheets" "[LMissedPoints$Sheet;") (by decide +kernel)) (fun _ h9 => h9) rfl dX11_isTold_17 ?_
    refine lv_iload_n hx hb dX11_isTold_20 rfl (lv_at hl 2 rfl) ?_
    obtain ⟨q47027, hq47027, eq47027, zq47027⟩ := ks_sh (a := a) g47025
    refine va_aldq hx hb hK hP 25 1 rfl rfl (rg_in g47025 (by decide) (by decide)) dX11_isTold_21 ?_
    refine lz_va (y := .ref (a (26 + 2 * q47027))) (by show va_rf _ = _; rw [zq47027]; rfl) ?_
    refine wk_qi (wX cI cS a na nc N L) u (As := [.ref (a (26 + 2 * q47027))]) (rest := []) ⟨hx, hb, hml, hown, hts⟩ (k_X9_readFrom l D cI cS _ a na nc N L u hL hN q47027 hq47027) hKK hP hD hS hA 34 (ci := 9) rfl rfl (cwV 1 hts gX11_isTold_X9_readFrom rfl rfl rfl (by decide +kernel) ⟨Nat.le_of_ble_eq_true rfl, Nat.le_of_ble_eq_true rfl⟩) rfl hl.1 rfl (Nat.le_of_ble_eq_true rfl) dX11_isTold_22 ⟨Nat.le_of_ble_eq_true rfl, Nat.le_of_ble_eq_true rfl⟩ (fun r47028 u H locs hr47028 hP hD hS => ?_)
    refine lv_if_eq (tgt := 32) hx hb dX11_isTold_25 (by decide) (fun c47029 => ?_) (fun c47029 => ?_)
    · have g47030 : Rg 0 0 r47028 := wk_eql hr47028.1 (by decide : Rg 0 0 (0 : Int32)) c47029 (by decide)
      refine lv_iconst (v := 0) hx hb dX11_isTold_32 (by decide) ?_
      subst hAe
      exact W.iret (v := 0) hx hb hr (fun t ht hW => ⟨⟨_, u, rfl, ⟨(by decide : Rg (-11) 1 (0 : Int32)), fun _ => g47025⟩, by rw [ht]; exact hP, hD⟩, hS.F ht⟩) hS.2.2 dX11_isTold_33
    · have g47031 : Rg 1 1 r47028 := rg_ne_lo (k := 0) hr47028.1 (by decide) c47029 (by decide)
      refine lv_iconst (v := 1) hx hb dX11_isTold_28 (by decide) ?_
      refine lv_goto (tgt := 33) hx hb dX11_isTold_29 (by decide) ?_
      subst hAe
      exact W.iret (v := 1) hx hb hr (fun t ht hW => ⟨⟨_, u, rfl, ⟨(by decide : Rg (-11) 1 (1 : Int32)), fun h9 => absurd h9 (by decide)⟩, by rw [ht]; exact hP, hD⟩, hS.F ht⟩) hS.2.2 dX11_isTold_33
  · have g47032 : Rg (-11) (-1) r47023 := rg_ne_hi (k := 0) hr47023.1 (by decide) c47024 (by decide)
    refine lv_iload_n hx hb dX11_isTold_10 rfl (lv_at hl 0 rfl) ?_
    subst hAe
    exact W.iret (v := r47023) hx hb hr (fun t ht hW => ⟨⟨_, u, rfl, ⟨(show Rg (-11) 1 r47023 from rg_w g47032 (by decide) (by decide)), fun h9 => absurd h9 (wk_nz g47032 (by decide))⟩, by rw [ht]; exact hP, hD⟩, hS.F ht⟩) hS.2.2 dX11_isTold_11
set_option maxRecDepth 20000 in
theorem ggX11_misses_X9_missed : GoodIn wsX11_misses wsX9_missed := goodIn_r _ [56, 26, 27, 76, 77, 78, 79, 80, 81, 82, 83, 84] rfl (by decide +kernel)
set_option maxRecDepth 20000 in
theorem gX11_misses_X9_missed : GoodIn wsX11_misses (wsV RX11 228 RX9 yX9_missed wsX9_missed) := goodIn_app (goodIn_of _ (by decide +kernel)) ggX11_misses_X9_missed
theorem dX11_misses_14 : decode cX11_misses 14 = .ok (.aload_n 0, 1) := by decide +kernel
theorem dX11_misses_15 : decode cX11_misses 15 = .ok (.getfield 82, 3) := by decide +kernel
theorem dX11_misses_18 : decode cX11_misses 18 = .ok (.invokevirtual 228, 3) := by decide +kernel
set_option maxHeartbeats 4000000 in
set_option maxRecDepth 100000 in
theorem k_X11_misses (l : Launch) (D : va_G) (cI cS : ClassId) (sz : Nat) (a : Nat → Nat) (na nc N : Nat) (L u0 : SU) (hL : TyX L) (hN : N = 0 ∨ N = 24576) (x0 : Int32) : Met l yX11_misses wsX11_misses ({ frames := 5, cells := 0, slots := 0, locals := 200 }) (PQ D cI cS (wX cI cS a na nc N L u0) sz [.ref (a 0), .int x0]) (QF (S := SU) D (wX cI cS a na nc N L u0) (wX cI cS a na nc N L) sz (fun r _ => Rg (-11) 4095 r ∧ True)) 0 0 (va_A (wX cI cS a na nc N L u0) sz) := by
  refine Met.ofW (cc := cX11_misses) (maxL := 3) (ret := (some .int)) (by decide) rfl ?_
  intro p e s m args below meth c s₁ B hml hv
  obtain ⟨rfl, hsz, hP, hKK, hD0⟩ := hv
  have hx := B.exec
  have hb := B.bytes
  have hr := B.returns
  have hts := atoms_spec (ws := wsX11_misses) B.pre
  have hown : s.vm.findClass RX11 = some m.cls := findClass_of_methodNamed B.named
  have hlocks := B.notSynchronized
  have hK := hKK.1
  have hin11 : ∀ w ∈ wsX110, w ∈ wsX11_misses := by decide +kernel
  subst hsz
  have hD := hD0.self (sz := s.heap.size)
  obtain ⟨A, hAe⟩ : ∃ A, A = va_A (wX cI cS a na nc N L u0) s.heap.size := ⟨_, rfl⟩
  rw [← hAe] at hD
  have hA : ∀ q : Nat, s.heap.size ≤ q → A q := fun q h => by rw [hAe]; exact Or.inr h
  have hS : va_S A s.heap s.heap [] := va_S.rf
  have hl := lv_entry ([.ref (a 0), .int x0]) (n := 3) (Nat.le_of_ble_eq_true rfl)
  rw [lg_entry_eq]
  generalize (lg_sl ([.ref (a 0), .int x0]) ++ List.replicate (3 - (lg_sl ([.ref (a 0), .int x0])).length) Slot.unset).toArray = ls at hl ⊢
  have hl : lv_has ls 3 [(0, .ref (a 0)), (1, .int x0)] := hl
  obtain ⟨u, hu9⟩ : ∃ u : SU, u = u0 := ⟨_, rfl⟩
  rw [← hu9] at hP hD
  refine lv_aload_n hx hb dX11_misses_0 rfl (lv_at hl 0 rfl) ?_
  refine lv_iload_n hx hb dX11_misses_1 rfl (lv_at hl 1 rfl) ?_
  refine wk_qi (wX cI cS a na nc N L) u (As := [.int x0]) (rest := []) ⟨hx, hb, hml, hown, hts⟩ (k_X11_refusalOfTold l D cI cS _ a na nc N L u hL hN x0) hKK hP hD hS hA 0 (ci := 11) rfl rfl (cwV 1 hts gX11_misses_X11_refusalOfTold rfl rfl rfl (by decide +kernel) ⟨Nat.le_of_ble_eq_true rfl, Nat.le_of_ble_eq_true rfl⟩) rfl hl.1 rfl (Nat.le_of_ble_eq_true rfl) dX11_misses_2 ⟨Nat.le_of_ble_eq_true rfl, Nat.le_of_ble_eq_true rfl⟩ (fun r47039 u H locs hr47039 hP hD hS => ?_)
  refine lv_istore_n (lv' := [(2, .int r47039), (0, .ref (a 0)), (1, .int x0)]) hx hb dX11_misses_5 rfl hl (by decide) rfl (fun ls hl => ?_)
  refine lv_iload_n hx hb dX11_misses_6 rfl (lv_at hl 0 rfl) ?_
  refine lv_if_eq (tgt := 14) hx hb dX11_misses_7 (by decide) (fun c47040 => ?_) (fun c47040 => ?_)
  · have g47041 : Rg 0 3 x0 := (hr47039.2 c47040)
    have g47042 : Rg 0 0 r47039 := wk_eql hr47039.1 (by decide : Rg 0 0 (0 : Int32)) c47040 (by decide)
    refine lv_aload_n hx hb dX11_misses_14 rfl (lv_at hl 1 rfl) ?_
    refine va_get (D := D) (ci := 11) (v := .ref (a 34)) (C := RX11) (T := TX11) (N := 16) hx hb hts hin11 hown hK hP 0 rfl rfl 13 (by decide) (hts (.fieldLink RX11 82 "MissedPoints" "told" "LMissedPoints$Told;") (by decide +kernel)) (fun _ h9 => h9) rfl dX11_misses_15 ?_
    refine wk_sv 34 (As := []) (rest := []) ⟨hx, hb, hml, hown, hts⟩ (k_X9_missed l D cI cS a na nc N L u hL hN) hKK hP (ci := 9) rfl rfl (cwV 0 hts gX11_misses_X9_missed rfl rfl rfl (by decide +kernel) ⟨Nat.le_of_ble_eq_true rfl, Nat.le_of_ble_eq_true rfl⟩) rfl hl.1 rfl (Nat.le_of_ble_eq_true rfl) dX11_misses_18 ⟨Nat.le_of_ble_eq_true rfl, Nat.le_of_ble_eq_true rfl⟩ (fun r47043 hr47043 => ?_)
    subst hAe
    exact W.iret (v := r47043) hx hb hr (fun t ht hW => ⟨⟨_, u, rfl, ⟨(show Rg (-11) 4095 r47043 from rg_w hr47043.1 (by decide) (by decide)), trivial⟩, by rw [ht]; exact hP, hD⟩, hS.F ht⟩) hS.2.2 dX11_misses_21
  · have g47044 : Rg (-11) (-1) r47039 := rg_ne_hi (k := 0) hr47039.1 (by decide) c47040 (by decide)
    refine lv_iload_n hx hb dX11_misses_10 rfl (lv_at hl 0 rfl) ?_
    refine lv_goto (tgt := 21) hx hb dX11_misses_11 (by decide) ?_
    subst hAe
    exact W.iret (v := r47039) hx hb hr (fun t ht hW => ⟨⟨_, u, rfl, ⟨(show Rg (-11) 4095 r47039 from rg_w g47044 (by decide) (by decide)), trivial⟩, by rw [ht]; exact hP, hD⟩, hS.F ht⟩) hS.2.2 dX11_misses_21
set_option maxRecDepth 20000 in
theorem ggX11_way_X9_seekWay : GoodIn wsX11_way wsX9_seekWay := goodIn_r _ [56, 57, 58, 26, 59, 60, 61, 24, 62, 63, 64, 65, 66, 27, 67, 68, 69, 70, 71, 72, 73, 74, 75, 76, 41, 77, 52, 78, 79, 80, 81, 82, 83, 84, 85, 86, 87, 88, 89, 90, 91, 92, 93, 94, 95, 96, 97, 98, 99, 100, 101, 102, 103, 104, 105, 106, 107, 108, 109, 110, 111, 112, 113, 114, 115, 116, 117, 118, 119, 120, 121, 122, 123, 124, 125, 126, 127, 128, 43, 48, 49, 50, 51, 152, 153, 154, 155, 156, 157, 158, 159, 160, 161, 162, 163, 164, 165, 166] rfl (by decide +kernel)
set_option maxRecDepth 20000 in
theorem gX11_way_X9_seekWay : GoodIn wsX11_way (wsV RX11 231 RX9 yX9_seekWay wsX9_seekWay) := goodIn_app (goodIn_of _ (by decide +kernel)) ggX11_way_X9_seekWay
set_option maxRecDepth 20000 in
theorem ggX11_way_X9_wayAt : GoodIn wsX11_way wsX9_wayAt := goodIn_r _ [132, 57, 120, 152, 153, 154, 155, 156, 157] rfl (by decide +kernel)
set_option maxRecDepth 20000 in
theorem gX11_way_X9_wayAt : GoodIn wsX11_way (wsV RX11 234 RX9 yX9_wayAt wsX9_wayAt) := goodIn_app (goodIn_of _ (by decide +kernel)) ggX11_way_X9_wayAt
theorem dX11_way_12 : decode cX11_way 12 = .ok (.aload_n 0, 1) := by decide +kernel
theorem dX11_way_13 : decode cX11_way 13 = .ok (.getfield 82, 3) := by decide +kernel
theorem dX11_way_16 : decode cX11_way 16 = .ok (.invokevirtual 231, 3) := by decide +kernel
theorem dX11_way_19 : decode cX11_way 19 = .ok (.istore 4, 2) := by decide +kernel
theorem dX11_way_21 : decode cX11_way 21 = .ok (.iload_n 2, 1) := by decide +kernel
theorem dX11_way_22 : decode cX11_way 22 = .ok (.iconst (-1), 1) := by decide +kernel
theorem dX11_way_23 : decode cX11_way 23 = .ok (.if_icmp .ne 15, 3) := by decide +kernel
theorem dX11_way_26 : decode cX11_way 26 = .ok (.iload 4, 2) := by decide +kernel
theorem dX11_way_28 : decode cX11_way 28 = .ok (.ifCond .ne 7, 3) := by decide +kernel
theorem dX11_way_31 : decode cX11_way 31 = .ok (.iconst (-1), 1) := by decide +kernel
theorem dX11_way_32 : decode cX11_way 32 = .ok (.goto 5, 3) := by decide +kernel
theorem dX11_way_35 : decode cX11_way 35 = .ok (.iload 4, 2) := by decide +kernel
theorem dX11_way_37 : decode cX11_way 37 = .ok (.ireturn, 1) := by decide +kernel
theorem dX11_way_38 : decode cX11_way 38 = .ok (.aload_n 0, 1) := by decide +kernel
theorem dX11_way_39 : decode cX11_way 39 = .ok (.getfield 82, 3) := by decide +kernel
theorem dX11_way_42 : decode cX11_way 42 = .ok (.iload_n 2, 1) := by decide +kernel
theorem dX11_way_43 : decode cX11_way 43 = .ok (.invokevirtual 234, 3) := by decide +kernel
theorem dX11_way_46 : decode cX11_way 46 = .ok (.ireturn, 1) := by decide +kernel
set_option maxHeartbeats 4000000 in
set_option maxRecDepth 100000 in
theorem k_X11_way (l : Launch) (D : va_G) (cI cS : ClassId) (sz : Nat) (a : Nat → Nat) (na nc N : Nat) (L u0 : SU) (hL : TyX L) (hN : N = 0 ∨ N = 24576) (x0 x1 : Int32) : Met l yX11_way wsX11_way ({ frames := 17, cells := 0, slots := 0, locals := 680 }) (PQ D cI cS (wX cI cS a na nc N L u0) sz [.ref (a 0), .int x0, .int x1]) (QF (S := SU) D (wX cI cS a na nc N L u0) (wX cI cS a na nc N L) sz (fun r _ => Rg (-2147483648) 2147483647 r ∧ True)) 0 0 (va_A (wX cI cS a na nc N L u0) sz) := by
  refine Met.ofW (cc := cX11_way) (maxL := 5) (ret := (some .int)) (by decide) rfl ?_
  intro p e s m args below meth c s₁ B hml hv
  obtain ⟨rfl, hsz, hP, hKK, hD0⟩ := hv
  have hx := B.exec
  have hb := B.bytes
  have hr := B.returns
  have hts := atoms_spec (ws := wsX11_way) B.pre
  have hown : s.vm.findClass RX11 = some m.cls := findClass_of_methodNamed B.named
  have hlocks := B.notSynchronized
  have hK := hKK.1
  have hin11 : ∀ w ∈ wsX110, w ∈ wsX11_way := by decide +kernel
  subst hsz
  have hD := hD0.self (sz := s.heap.size)
  obtain ⟨A, hAe⟩ : ∃ A, A = va_A (wX cI cS a na nc N L u0) s.heap.size := ⟨_, rfl⟩
  rw [← hAe] at hD
  have hA : ∀ q : Nat, s.heap.size ≤ q → A q := fun q h => by rw [hAe]; exact Or.inr h
  have hS : va_S A s.heap s.heap [] := va_S.rf
  have hl := lv_entry ([.ref (a 0), .int x0, .int x1]) (n := 5) (Nat.le_of_ble_eq_true rfl)
  rw [lg_entry_eq]
  generalize (lg_sl ([.ref (a 0), .int x0, .int x1]) ++ List.replicate (5 - (lg_sl ([.ref (a 0), .int x0, .int x1])).length) Slot.unset).toArray = ls at hl ⊢
  have hl : lv_has ls 5 [(0, .ref (a 0)), (1, .int x0), (2, .int x1)] := hl
  obtain ⟨u, hu9⟩ : ∃ u : SU, u = u0 := ⟨_, rfl⟩
  rw [← hu9] at hP hD
  refine lv_aload_n hx hb dX11_way_0 rfl (lv_at hl 0 rfl) ?_
  refine lv_iload_n hx hb dX11_way_1 rfl (lv_at hl 1 rfl) ?_
  refine wk_qi (wX cI cS a na nc N L) u (As := [.int x0]) (rest := []) ⟨hx, hb, hml, hown, hts⟩ (k_X11_refusalOfTold l D cI cS _ a na nc N L u hL hN x0) hKK hP hD hS hA 0 (ci := 11) rfl rfl (cwV 1 hts gX11_way_X11_refusalOfTold rfl rfl rfl (by decide +kernel) ⟨Nat.le_of_ble_eq_true rfl, Nat.le_of_ble_eq_true rfl⟩) rfl hl.1 rfl (Nat.le_of_ble_eq_true rfl) dX11_way_2 ⟨Nat.le_of_ble_eq_true rfl, Nat.le_of_ble_eq_true rfl⟩ (fun r47056 u H locs hr47056 hP hD hS => ?_)
  refine lv_istore_n (lv' := [(3, .int r47056), (0, .ref (a 0)), (1, .int x0), (2, .int x1)]) hx hb dX11_way_5 rfl hl (by decide) rfl (fun ls hl => ?_)
  refine lv_iload_n hx hb dX11_way_6 rfl (lv_at hl 0 rfl) ?_
  refine lv_if_eq (tgt := 12) hx hb dX11_way_7 (by decide) (fun c47057 => ?_) (fun c47057 => ?_)
  · have g47058 : Rg 0 3 x0 := (hr47056.2 c47057)
    have g47059 : Rg 0 0 r47056 := wk_eql hr47056.1 (by decide : Rg 0 0 (0 : Int32)) c47057 (by decide)
    refine lv_aload_n hx hb dX11_way_12 rfl (lv_at hl 1 rfl) ?_
    refine va_get (D := D) (ci := 11) (v := .ref (a 34)) (C := RX11) (T := TX11) (N := 16) hx hb hts hin11 hown hK hP 0 rfl rfl 13 (by decide) (hts (.fieldLink RX11 82 "MissedPoints" "told" "LMissedPoints$Told;") (by decide +kernel)) (fun _ h9 => h9) rfl dX11_way_13 ?_
    refine wk_qi (wX cI cS a na nc N L) u (As := []) (rest := []) ⟨hx, hb, hml, hown, hts⟩ (k_X9_seekWay l D cI cS _ a na nc N L u hL hN) hKK hP hD hS hA 34 (ci := 9) rfl rfl (cwV 0 hts gX11_way_X9_seekWay rfl rfl rfl (by decide +kernel) ⟨Nat.le_of_ble_eq_true rfl, Nat.le_of_ble_eq_true rfl⟩) rfl hl.1 rfl (Nat.le_of_ble_eq_true rfl) dX11_way_16 ⟨Nat.le_of_ble_eq_true rfl, Nat.le_of_ble_eq_true rfl⟩ (fun r47060 u H locs hr47060 hP hD hS => ?_)
    refine lv_istore (lv' := [(4, .int r47060), (3, .int r47056), (0, .ref (a 0)), (1, .int x0), (2, .int x1)]) hx hb dX11_way_19 hl (by decide) rfl (fun ls hl => ?_)
    refine lv_iload_n hx hb dX11_way_21 rfl (lv_at hl 4 rfl) ?_
    refine lv_iconst (v := (-1)) hx hb dX11_way_22 (by decide) ?_
    refine lv_icmp_ne (tgt := 38) hx hb dX11_way_23 (by decide) (fun c47061 => ?_) (fun c47061 => ?_)
    · refine lv_aload_n hx hb dX11_way_38 rfl (lv_at hl 2 rfl) ?_
      refine va_get (D := D) (ci := 11) (v := .ref (a 34)) (C := RX11) (T := TX11) (N := 16) hx hb hts hin11 hown hK hP 0 rfl rfl 13 (by decide) (hts (.fieldLink RX11 82 "MissedPoints" "told" "LMissedPoints$Told;") (by decide +kernel)) (fun _ h9 => h9) rfl dX11_way_39 ?_
      refine lv_iload_n hx hb dX11_way_42 rfl (lv_at hl 4 rfl) ?_
      refine wk_sv 34 (As := [.int x1]) (rest := []) ⟨hx, hb, hml, hown, hts⟩ (k_X9_wayAt l D cI cS a na nc N L u hL hN x1) hKK hP (ci := 9) rfl rfl (cwV 1 hts gX11_way_X9_wayAt rfl rfl rfl (by decide +kernel) ⟨Nat.le_of_ble_eq_true rfl, Nat.le_of_ble_eq_true rfl⟩) rfl hl.1 rfl (Nat.le_of_ble_eq_true rfl) dX11_way_43 ⟨Nat.le_of_ble_eq_true rfl, Nat.le_of_ble_eq_true rfl⟩ (fun r47062 hr47062 => ?_)
      subst hAe
      exact W.iret (v := r47062) hx hb hr (fun t ht hW => ⟨⟨_, u, rfl, ⟨hr47062.1, trivial⟩, by rw [ht]; exact hP, hD⟩, hS.F ht⟩) hS.2.2 dX11_way_46
    · have g47063 : Rg (-1) (-1) x1 := wk_eql (rg_any x1) (by decide : Rg (-1) (-1) ((-1) : Int32)) c47061 (by decide)
      refine lv_iload hx hb dX11_way_26 (lv_at hl 0 rfl) ?_
      refine lv_if_ne (tgt := 35) hx hb dX11_way_28 (by decide) (fun c47064 => ?_) (fun c47064 => ?_)
      · refine lv_iload hx hb dX11_way_35 (lv_at hl 0 rfl) ?_
        subst hAe
        exact W.iret (v := r47060) hx hb hr (fun t ht hW => ⟨⟨_, u, rfl, ⟨hr47060.1, trivial⟩, by rw [ht]; exact hP, hD⟩, hS.F ht⟩) hS.2.2 dX11_way_37
      · have g47065 : Rg 0 0 r47060 := wk_eql hr47060.1 (by decide : Rg 0 0 (0 : Int32)) c47064 (by decide)
        refine lv_iconst (v := (-1)) hx hb dX11_way_31 (by decide) ?_
        refine lv_goto (tgt := 37) hx hb dX11_way_32 (by decide) ?_
        subst hAe
        exact W.iret (v := (-1)) hx hb hr (fun t ht hW => ⟨⟨_, u, rfl, ⟨(by decide : Rg (-2147483648) 2147483647 ((-1) : Int32)), trivial⟩, by rw [ht]; exact hP, hD⟩, hS.F ht⟩) hS.2.2 dX11_way_37
  · have g47066 : Rg (-11) (-1) r47056 := rg_ne_hi (k := 0) hr47056.1 (by decide) c47057 (by decide)
    refine lv_iload_n hx hb dX11_way_10 rfl (lv_at hl 0 rfl) ?_
    subst hAe
    exact W.iret (v := r47056) hx hb hr (fun t ht hW => ⟨⟨_, u, rfl, ⟨(rg_any r47056), trivial⟩, by rw [ht]; exact hP, hD⟩, hS.F ht⟩) hS.2.2 dX11_way_11
set_option maxRecDepth 20000 in
theorem ggX11_chains_X9_chainsWith : GoodIn wsX11_chains wsX9_chainsWith := goodIn_r _ [49, 50, 51, 52, 53, 54, 55, 56, 57, 17, 58, 19, 20, 59, 60, 61, 62, 63, 34, 64, 65, 66, 67, 68, 69, 70, 71, 72, 73, 74, 75, 76, 77, 78, 79, 80, 81, 82, 102, 103, 104, 105, 106, 107, 108, 109, 110] rfl (by decide +kernel)
set_option maxRecDepth 20000 in
theorem gX11_chains_X9_chainsWith : GoodIn wsX11_chains (wsV RX11 255 RX9 yX9_chainsWith wsX9_chainsWith) := goodIn_app (goodIn_of _ (by decide +kernel)) ggX11_chains_X9_chainsWith
set_option maxRecDepth 20000 in
theorem ggX11_chains_X9_readFrom : GoodIn wsX11_chains wsX9_readFrom := goodIn_r _ [18, 19, 20, 21, 22, 23, 11, 24, 25, 26, 27, 28, 29, 30, 31, 32, 33, 34, 35, 36, 37, 38, 39, 40, 41, 42, 43, 44, 45, 99, 100, 101, 102, 103, 104, 105, 106, 107, 108, 109, 110] rfl (by decide +kernel)
set_option maxRecDepth 20000 in
theorem gX11_chains_X9_readFrom : GoodIn wsX11_chains (wsV RX11 221 RX9 yX9_readFrom wsX9_readFrom) := goodIn_app (goodIn_of _ (by decide +kernel)) ggX11_chains_X9_readFrom
theorem dX11_chains_100 : decode cX11_chains 100 = .ok (.ireturn, 1) := by decide +kernel
theorem dX11_chains_38 : decode cX11_chains 38 = .ok (.aload_n 0, 1) := by decide +kernel
theorem dX11_chains_39 : decode cX11_chains 39 = .ok (.getfield 75, 3) := by decide +kernel
theorem dX11_chains_42 : decode cX11_chains 42 = .ok (.iload_n 2, 1) := by decide +kernel
theorem dX11_chains_43 : decode cX11_chains 43 = .ok (.aaload, 1) := by decide +kernel
theorem dX11_chains_44 : decode cX11_chains 44 = .ok (.invokevirtual 251, 3) := by decide +kernel
theorem dX11_chains_47 : decode cX11_chains 47 = .ok (.ifCond .eq 6, 3) := by decide +kernel
theorem dX11_chains_53 : decode cX11_chains 53 = .ok (.aload_n 0, 1) := by decide +kernel
theorem dX11_chains_54 : decode cX11_chains 54 = .ok (.getfield 82, 3) := by decide +kernel
theorem dX11_chains_57 : decode cX11_chains 57 = .ok (.aload_n 0, 1) := by decide +kernel
theorem dX11_chains_58 : decode cX11_chains 58 = .ok (.getfield 75, 3) := by decide +kernel
theorem dX11_chains_61 : decode cX11_chains 61 = .ok (.iload_n 1, 1) := by decide +kernel
theorem dX11_chains_62 : decode cX11_chains 62 = .ok (.aaload, 1) := by decide +kernel
theorem dX11_chains_63 : decode cX11_chains 63 = .ok (.invokevirtual 221, 3) := by decide +kernel
theorem dX11_chains_66 : decode cX11_chains 66 = .ok (.ifCond .eq 19, 3) := by decide +kernel
theorem dX11_chains_69 : decode cX11_chains 69 = .ok (.aload_n 0, 1) := by decide +kernel
theorem dX11_chains_70 : decode cX11_chains 70 = .ok (.getfield 86, 3) := by decide +kernel
theorem dX11_chains_73 : decode cX11_chains 73 = .ok (.aload_n 0, 1) := by decide +kernel
theorem dX11_chains_74 : decode cX11_chains 74 = .ok (.getfield 75, 3) := by decide +kernel
theorem dX11_chains_77 : decode cX11_chains 77 = .ok (.iload_n 2, 1) := by decide +kernel
theorem dX11_chains_78 : decode cX11_chains 78 = .ok (.aaload, 1) := by decide +kernel
theorem dX11_chains_79 : decode cX11_chains 79 = .ok (.invokevirtual 221, 3) := by decide +kernel
theorem dX11_chains_82 : decode cX11_chains 82 = .ok (.ifCond .ne 6, 3) := by decide +kernel
theorem dX11_chains_85 : decode cX11_chains 85 = .ok (.bipush (-3), 2) := by decide +kernel
theorem dX11_chains_87 : decode cX11_chains 87 = .ok (.ireturn, 1) := by decide +kernel
theorem dX11_chains_88 : decode cX11_chains 88 = .ok (.aload_n 0, 1) := by decide +kernel
theorem dX11_chains_89 : decode cX11_chains 89 = .ok (.getfield 82, 3) := by decide +kernel
theorem dX11_chains_92 : decode cX11_chains 92 = .ok (.aload_n 0, 1) := by decide +kernel
theorem dX11_chains_93 : decode cX11_chains 93 = .ok (.getfield 86, 3) := by decide +kernel
theorem dX11_chains_96 : decode cX11_chains 96 = .ok (.iload_n 3, 1) := by decide +kernel
theorem dX11_chains_97 : decode cX11_chains 97 = .ok (.invokevirtual 255, 3) := by decide +kernel
set_option maxHeartbeats 4000000 in
set_option maxRecDepth 100000 in
theorem k_X11_chains (l : Launch) (D : va_G) (cI cS : ClassId) (sz : Nat) (a : Nat → Nat) (na nc N : Nat) (L u0 : SU) (hL : TyX L) (hN : N = 0 ∨ N = 24576) (x0 x1 x2 : Int32) : Met l yX11_chains wsX11_chains ({ frames := 4, cells := 0, slots := 0, locals := 160 }) (PQ D cI cS (wX cI cS a na nc N L u0) sz [.ref (a 0), .int x0, .int x1, .int x2]) (QF (S := SU) D (wX cI cS a na nc N L u0) (wX cI cS a na nc N L) sz (fun r _ => Rg (-2147483648) 2147483647 r ∧ True)) 0 0 (va_A (wX cI cS a na nc N L u0) sz) := by
  refine Met.ofW (cc := cX11_chains) (maxL := 4) (ret := (some .int)) (by decide) rfl ?_
  intro p e s m args below meth c s₁ B hml hv
  obtain ⟨rfl, hsz, hP, hKK, hD0⟩ := hv
  have hx := B.exec
  have hb := B.bytes
  have hr := B.returns
  have hts := atoms_spec (ws := wsX11_chains) B.pre
  have hown : s.vm.findClass RX11 = some m.cls := findClass_of_methodNamed B.named
  have hlocks := B.notSynchronized
  have hK := hKK.1
  have hin11 : ∀ w ∈ wsX110, w ∈ wsX11_chains := by decide +kernel
  subst hsz
  have hD := hD0.self (sz := s.heap.size)
  obtain ⟨A, hAe⟩ : ∃ A, A = va_A (wX cI cS a na nc N L u0) s.heap.size := ⟨_, rfl⟩
  rw [← hAe] at hD
  have hA : ∀ q : Nat, s.heap.size ≤ q → A q := fun q h => by rw [hAe]; exact Or.inr h
  have hS : va_S A s.heap s.heap [] := va_S.rf
  have hl := lv_entry ([.ref (a 0), .int x0, .int x1, .int x2]) (n := 4) (Nat.le_of_ble_eq_true rfl)
  rw [lg_entry_eq]
  generalize (lg_sl ([.ref (a 0), .int x0, .int x1, .int x2]) ++ List.replicate (4 - (lg_sl ([.ref (a 0), .int x0, .int x1, .int x2])).length) Slot.unset).toArray = ls at hl ⊢
  have hl : lv_has ls 4 [(0, .ref (a 0)), (1, .int x0), (2, .int x1), (3, .int x2)] := hl
  obtain ⟨u, hu9⟩ : ∃ u : SU, u = u0 := ⟨_, rfl⟩
  rw [← hu9] at hP hD
  refine lv_iload_n hx hb dX11_chains_0 rfl (lv_at hl 1 rfl) ?_
  refine lz_ss (As := [.int x0]) (rest := []) ⟨hx, hb, hml, hown, hts⟩ (k_X11_isSheet l D cI cS x0) hKK (hP.sub (ws' := []) [] rfl) (va_cwS 1 hts gX11_chains_X11_isSheet rfl rfl rfl (by decide +kernel) ⟨Nat.le_of_ble_eq_true rfl, Nat.le_of_ble_eq_true rfl⟩) rfl hl.1 rfl (Nat.le_of_ble_eq_true rfl) dX11_chains_1 ⟨Nat.le_of_ble_eq_true rfl, Nat.le_of_ble_eq_true rfl⟩ (fun r47104 hr47104 => ?_)
  refine lv_if_eq (tgt := 23) hx hb dX11_chains_4 (by decide) (fun c47105 => ?_) (fun c47105 => ?_)
  · have g47106 : Rg 0 0 r47104 := wk_eql hr47104.1 (by decide : Rg 0 0 (0 : Int32)) c47105 (by decide)
    refine lv_bipush (v := (-2)) hx hb dX11_chains_23 (by decide) ?_
    subst hAe
    exact W.iret (v := (-2)) hx hb hr (fun t ht hW => ⟨⟨_, u, rfl, ⟨(by decide : Rg (-2147483648) 2147483647 ((-2) : Int32)), trivial⟩, by rw [ht]; exact hP, hD⟩, hS.F ht⟩) hS.2.2 dX11_chains_25
  · have g47107 : Rg 0 3 x0 := (hr47104.2 c47105)
    have g47108 : Rg 1 1 r47104 := rg_ne_lo (k := 0) hr47104.1 (by decide) c47105 (by decide)
    refine lv_iload_n hx hb dX11_chains_7 rfl (lv_at hl 2 rfl) ?_
    refine lz_ss (As := [.int x1]) (rest := []) ⟨hx, hb, hml, hown, hts⟩ (k_X11_isSheet l D cI cS x1) hKK (hP.sub (ws' := []) [] rfl) (va_cwS 1 hts gX11_chains_X11_isSheet rfl rfl rfl (by decide +kernel) ⟨Nat.le_of_ble_eq_true rfl, Nat.le_of_ble_eq_true rfl⟩) rfl hl.1 rfl (Nat.le_of_ble_eq_true rfl) dX11_chains_8 ⟨Nat.le_of_ble_eq_true rfl, Nat.le_of_ble_eq_true rfl⟩ (fun r47109 hr47109 => ?_)
    refine lv_if_eq (tgt := 23) hx hb dX11_chains_11 (by decide) (fun c47110 => ?_) (fun c47110 => ?_)
    · have g47111 : Rg 0 0 r47109 := wk_eql hr47109.1 (by decide : Rg 0 0 (0 : Int32)) c47110 (by decide)
      refine lv_bipush (v := (-2)) hx hb dX11_chains_23 (by decide) ?_
      subst hAe
      exact W.iret (v := (-2)) hx hb hr (fun t ht hW => ⟨⟨_, u, rfl, ⟨(by decide : Rg (-2147483648) 2147483647 ((-2) : Int32)), trivial⟩, by rw [ht]; exact hP, hD⟩, hS.F ht⟩) hS.2.2 dX11_chains_25
    · have g47112 : Rg 0 3 x1 := (hr47109.2 c47110)
      have g47113 : Rg 1 1 r47109 := rg_ne_lo (k := 0) hr47109.1 (by decide) c47110 (by decide)
      refine lv_iload_n hx hb dX11_chains_14 rfl (lv_at hl 3 rfl) ?_
      refine lv_if_lt (tgt := 23) hx hb dX11_chains_15 (by decide) (fun c47114 => ?_) (fun c47114 => ?_)
      · have g47115 : Rg (-2147483648) (-1) x2 := rg_ltl (rg_any x2) (by decide : Rg 0 0 (0 : Int32)) c47114 (by decide)
        refine lv_bipush (v := (-2)) hx hb dX11_chains_23 (by decide) ?_
        subst hAe
        exact W.iret (v := (-2)) hx hb hr (fun t ht hW => ⟨⟨_, u, rfl, ⟨(by decide : Rg (-2147483648) 2147483647 ((-2) : Int32)), trivial⟩, by rw [ht]; exact hP, hD⟩, hS.F ht⟩) hS.2.2 dX11_chains_25
      · have g47116 : Rg 0 2147483647 x2 := rg_ler (by decide : Rg 0 0 (0 : Int32)) (rg_any x2) (rg_nlt c47114) (by decide)
        refine lv_iload_n hx hb dX11_chains_18 rfl (lv_at hl 3 rfl) ?_
        refine lv_iconst (v := 2) hx hb dX11_chains_19 (by decide) ?_
        refine lv_icmp_le (tgt := 26) hx hb dX11_chains_20 (by decide) (fun c47117 => ?_) (fun c47117 => ?_)
        · have g47118 : Rg 0 2 x2 := rg_lel g47116 (by decide : Rg 2 2 (2 : Int32)) c47117 (by decide)
          refine lv_aload_n hx hb dX11_chains_26 rfl (lv_at hl 0 rfl) ?_
          refine va_get (D := D) (ci := 11) (v := .ref (a 25)) (C := RX11) (T := TX11) (N := 16) hx hb hts hin11 hown hK hP 0 rfl rfl 12 (by decide) (hts (.fieldLink RX11 75 "MissedPoints" "sheets" "[LMissedPoints$Sheet;") (by decide +kernel)) (fun _ h9 => h9) rfl dX11_chains_27 ?_
          refine lv_iload_n hx hb dX11_chains_30 rfl (lv_at hl 1 rfl) ?_
          obtain ⟨q47119, hq47119, eq47119, zq47119⟩ := ks_sh (a := a) g47107
          refine va_aldq hx hb hK hP 25 1 rfl rfl (rg_in g47107 (by decide) (by decide)) dX11_chains_31 ?_
          refine lz_va (y := .ref (a (26 + 2 * q47119))) (by show va_rf _ = _; rw [zq47119]; rfl) ?_
          refine wk_sv (26 + 2 * q47119) (As := []) (rest := []) ⟨hx, hb, hml, hown, hts⟩ (k_X6_isMissing l D cI cS a na nc N L u hL hN q47119 hq47119) hKK hP (ci := 6) rfl (gx_sh hq47119) (cwV 0 hts gX11_chains_X6_isMissing rfl rfl rfl (by decide +kernel) ⟨Nat.le_of_ble_eq_true rfl, Nat.le_of_ble_eq_true rfl⟩) rfl hl.1 rfl (Nat.le_of_ble_eq_true rfl) dX11_chains_32 ⟨Nat.le_of_ble_eq_true rfl, Nat.le_of_ble_eq_true rfl⟩ (fun r47120 hr47120 => ?_)
          refine lv_if_ne (tgt := 50) hx hb dX11_chains_35 (by decide) (fun c47121 => ?_) (fun c47121 => ?_)
          · have g47122 : Rg 1 1 r47120 := rg_ne_lo (k := 0) hr47120.1 (by decide) c47121 (by decide)
            refine lv_bipush (v := (-11)) hx hb dX11_chains_50 (by decide) ?_
            subst hAe
            exact W.iret (v := (-11)) hx hb hr (fun t ht hW => ⟨⟨_, u, rfl, ⟨(by decide : Rg (-2147483648) 2147483647 ((-11) : Int32)), trivial⟩, by rw [ht]; exact hP, hD⟩, hS.F ht⟩) hS.2.2 dX11_chains_52
          · have g47123 : Rg 0 0 r47120 := wk_eql hr47120.1 (by decide : Rg 0 0 (0 : Int32)) c47121 (by decide)
            refine lv_aload_n hx hb dX11_chains_38 rfl (lv_at hl 0 rfl) ?_
            refine va_get (D := D) (ci := 11) (v := .ref (a 25)) (C := RX11) (T := TX11) (N := 16) hx hb hts hin11 hown hK hP 0 rfl rfl 12 (by decide) (hts (.fieldLink RX11 75 "MissedPoints" "sheets" "[LMissedPoints$Sheet;") (by decide +kernel)) (fun _ h9 => h9) rfl dX11_chains_39 ?_
            refine lv_iload_n hx hb dX11_chains_42 rfl (lv_at hl 2 rfl) ?_
            obtain ⟨q47124, hq47124, eq47124, zq47124⟩ := ks_sh (a := a) g47112
            refine va_aldq hx hb hK hP 25 1 rfl rfl (rg_in g47112 (by decide) (by decide)) dX11_chains_43 ?_
            refine lz_va (y := .ref (a (26 + 2 * q47124))) (by show va_rf _ = _; rw [zq47124]; rfl) ?_
            refine wk_sv (26 + 2 * q47124) (As := []) (rest := []) ⟨hx, hb, hml, hown, hts⟩ (k_X6_isMissing l D cI cS a na nc N L u hL hN q47124 hq47124) hKK hP (ci := 6) rfl (gx_sh hq47124) (cwV 0 hts gX11_chains_X6_isMissing rfl rfl rfl (by decide +kernel) ⟨Nat.le_of_ble_eq_true rfl, Nat.le_of_ble_eq_true rfl⟩) rfl hl.1 rfl (Nat.le_of_ble_eq_true rfl) dX11_chains_44 ⟨Nat.le_of_ble_eq_true rfl, Nat.le_of_ble_eq_true rfl⟩ (fun r47125 hr47125 => ?_)
            refine lv_if_eq (tgt := 53) hx hb dX11_chains_47 (by decide) (fun c47126 => ?_) (fun c47126 => ?_)
            · have g47127 : Rg 0 0 r47125 := wk_eql hr47125.1 (by decide : Rg 0 0 (0 : Int32)) c47126 (by decide)
              refine lv_aload_n hx hb dX11_chains_53 rfl (lv_at hl 0 rfl) ?_
              refine va_get (D := D) (ci := 11) (v := .ref (a 34)) (C := RX11) (T := TX11) (N := 16) hx hb hts hin11 hown hK hP 0 rfl rfl 13 (by decide) (hts (.fieldLink RX11 82 "MissedPoints" "told" "LMissedPoints$Told;") (by decide +kernel)) (fun _ h9 => h9) rfl dX11_chains_54 ?_
              refine lv_aload_n hx hb dX11_chains_57 rfl (lv_at hl 0 rfl) ?_
              refine va_get (D := D) (ci := 11) (v := .ref (a 25)) (C := RX11) (T := TX11) (N := 16) hx hb hts hin11 hown hK hP 0 rfl rfl 12 (by decide) (hts (.fieldLink RX11 75 "MissedPoints" "sheets" "[LMissedPoints$Sheet;") (by decide +kernel)) (fun _ h9 => h9) rfl dX11_chains_58 ?_
              refine lv_iload_n hx hb dX11_chains_61 rfl (lv_at hl 1 rfl) ?_
              obtain ⟨q47128, hq47128, eq47128, zq47128⟩ := ks_sh (a := a) g47107
              refine va_aldq hx hb hK hP 25 1 rfl rfl (rg_in g47107 (by decide) (by decide)) dX11_chains_62 ?_
              refine lz_va (y := .ref (a (26 + 2 * q47128))) (by show va_rf _ = _; rw [zq47128]; rfl) ?_
              refine wk_qi (wX cI cS a na nc N L) u (As := [.ref (a (26 + 2 * q47128))]) (rest := []) ⟨hx, hb, hml, hown, hts⟩ (k_X9_readFrom l D cI cS _ a na nc N L u hL hN q47128 hq47128) hKK hP hD hS hA 34 (ci := 9) rfl rfl (cwV 1 hts gX11_chains_X9_readFrom rfl rfl rfl (by decide +kernel) ⟨Nat.le_of_ble_eq_true rfl, Nat.le_of_ble_eq_true rfl⟩) rfl hl.1 rfl (Nat.le_of_ble_eq_true rfl) dX11_chains_63 ⟨Nat.le_of_ble_eq_true rfl, Nat.le_of_ble_eq_true rfl⟩ (fun r47129 u H locs hr47129 hP hD hS => ?_)
              refine lv_if_eq (tgt := 85) hx hb dX11_chains_66 (by decide) (fun c47130 => ?_) (fun c47130 => ?_)
              · have g47131 : Rg 0 0 r47129 := wk_eql hr47129.1 (by decide : Rg 0 0 (0 : Int32)) c47130 (by decide)
                refine lv_bipush (v := (-3)) hx hb dX11_chains_85 (by decide) ?_
                subst hAe
                exact W.iret (v := (-3)) hx hb hr (fun t ht hW => ⟨⟨_, u, rfl, ⟨(by decide : Rg (-2147483648) 2147483647 ((-3) : Int32)), trivial⟩, by rw [ht]; exact hP, hD⟩, hS.F ht⟩) hS.2.2 dX11_chains_87
              · have g47132 : Rg 1 1 r47129 := rg_ne_lo (k := 0) hr47129.1 (by decide) c47130 (by decide)
                refine lv_aload_n hx hb dX11_chains_69 rfl (lv_at hl 0 rfl) ?_
                refine va_get (D := D) (ci := 11) (v := .ref (a 38)) (C := RX11) (T := TX11) (N := 16) hx hb hts hin11 hown hK hP 0 rfl rfl 14 (by decide) (hts (.fieldLink RX11 86 "MissedPoints" "otherTold" "LMissedPoints$Told;") (by decide +kernel)) (fun _ h9 => h9) rfl dX11_chains_70 ?_
                refine lv_aload_n hx hb dX11_chains_73 rfl (lv_at hl 0 rfl) ?_
                refine va_get (D := D) (ci := 11) (v := .ref (a 25)) (C := RX11) (T := TX11) (N := 16) hx hb hts hin11 hown hK hP 0 rfl rfl 12 (by decide) (hts (.fieldLink RX11 75 "MissedPoints" "sheets" "[LMissedPoints$Sheet;") (by decide +kernel)) (fun _ h9 => h9) rfl dX11_chains_74 ?_
                refine lv_iload_n hx hb dX11_chains_77 rfl (lv_at hl 2 rfl) ?_
                obtain ⟨q47133, hq47133, eq47133, zq47133⟩ := ks_sh (a := a) g47112
                refine va_aldq hx hb hK hP 25 1 rfl rfl (rg_in g47112 (by decide) (by decide)) dX11_chains_78 ?_
                refine lz_va (y := .ref (a (26 + 2 * q47133))) (by show va_rf _ = _; rw [zq47133]; rfl) ?_
                refine wk_qi (wX cI cS a na nc N L) u (As := [.ref (a (26 + 2 * q47133))]) (rest := []) ⟨hx, hb, hml, hown, hts⟩ (k_X9_readFrom_38 l D cI cS _ a na nc N L u hL hN q47133 hq47133) hKK hP hD hS hA 38 (ci := 9) rfl rfl (cwV 1 hts gX11_chains_X9_readFrom rfl rfl rfl (by decide +kernel) ⟨Nat.le_of_ble_eq_true rfl, Nat.le_of_ble_eq_true rfl⟩) rfl hl.1 rfl (Nat.le_of_ble_eq_true rfl) dX11_chains_79 ⟨Nat.le_of_ble_eq_true rfl, Nat.le_of_ble_eq_true rfl⟩ (fun r47134 u H locs hr47134 hP hD hS => ?_)
                refine lv_if_ne (tgt := 88) hx hb dX11_chains_82 (by decide) (fun c47135 => ?_) (fun c47135 => ?_)
                · have g47136 : Rg 1 1 r47134 := rg_ne_lo (k := 0) hr47134.1 (by decide) c47135 (by decide)
                  refine lv_aload_n hx hb dX11_chains_88 rfl (lv_at hl 0 rfl) ?_
                  refine va_get (D := D) (ci := 11) (v := .ref (a 34)) (C := RX11) (T := TX11) (N := 16) hx hb hts hin11 hown hK hP 0 rfl rfl 13 (by decide) (hts (.fieldLink RX11 82 "MissedPoints" "told" "LMissedPoints$Told;") (by decide +kernel)) (fun _ h9 => h9) rfl dX11_chains_89 ?_
                  refine lv_aload_n hx hb dX11_chains_92 rfl (lv_at hl 0 rfl) ?_
                  refine va_get (D := D) (ci := 11) (v := .ref (a 38)) (C := RX11) (T := TX11) (N := 16) hx hb hts hin11 hown hK hP 0 rfl rfl 14 (by decide) (hts (.fieldLink RX11 86 "MissedPoints" "otherTold" "LMissedPoints$Told;") (by decide +kernel)) (fun _ h9 => h9) rfl dX11_chains_93 ?_
                  refine lv_iload_n hx hb dX11_chains_96 rfl (lv_at hl 3 rfl) ?_
                  refine wk_qi (wX cI cS a na nc N L) u (As := [.ref (a 38), .int x2]) (rest := []) ⟨hx, hb, hml, hown, hts⟩ (k_X9_chainsWith l D cI cS _ a na nc N L u hL hN x2) hKK hP hD hS hA 34 (ci := 9) rfl rfl (cwV 2 hts gX11_chains_X9_chainsWith rfl rfl rfl (by decide +kernel) ⟨Nat.le_of_ble_eq_true rfl, Nat.le_of_ble_eq_true rfl⟩) rfl hl.1 rfl (Nat.le_of_ble_eq_true rfl) dX11_chains_97 ⟨Nat.le_of_ble_eq_true rfl, Nat.le_of_ble_eq_true rfl⟩ (fun r47137 u H locs hr47137 hP hD hS => ?_)
                  subst hAe
                  exact W.iret (v := r47137) hx hb hr (fun t ht hW => ⟨⟨_, u, rfl, ⟨hr47137.1, trivial⟩, by rw [ht]; exact hP, hD⟩, hS.F ht⟩) hS.2.2 dX11_chains_100
                · have g47138 : Rg 0 0 r47134 := wk_eql hr47134.1 (by decide : Rg 0 0 (0 : Int32)) c47135 (by decide)
                  refine lv_bipush (v := (-3)) hx hb dX11_chains_85 (by decide) ?_
                  subst hAe
                  exact W.iret (v := (-3)) hx hb hr (fun t ht hW => ⟨⟨_, u, rfl, ⟨(by decide : Rg (-2147483648) 2147483647 ((-3) : Int32)), trivial⟩, by rw [ht]; exact hP, hD⟩, hS.F ht⟩) hS.2.2 dX11_chains_87
            · have g47139 : Rg 1 1 r47125 := rg_ne_lo (k := 0) hr47125.1 (by decide) c47126 (by decide)
              refine lv_bipush (v := (-11)) hx hb dX11_chains_50 (by decide) ?_
              subst hAe
              exact W.iret (v := (-11)) hx hb hr (fun t ht hW => ⟨⟨_, u, rfl, ⟨(by decide : Rg (-2147483648) 2147483647 ((-11) : Int32)), trivial⟩, by rw [ht]; exact hP, hD⟩, hS.F ht⟩) hS.2.2 dX11_chains_52
        · have g47140 : Rg 3 2147483647 x2 := rg_ltr (by decide : Rg 2 2 (2 : Int32)) g47116 (rg_nle c47117) (by decide)
          refine lv_bipush (v := (-2)) hx hb dX11_chains_23 (by decide) ?_
          subst hAe
          exact W.iret (v := (-2)) hx hb hr (fun t ht hW => ⟨⟨_, u, rfl, ⟨(by decide : Rg (-2147483648) 2147483647 ((-2) : Int32)), trivial⟩, by rw [ht]; exact hP, hD⟩, hS.F ht⟩) hS.2.2 dX11_chains_25
set_option maxRecDepth 20000 in
theorem ggX11_shelvePoint_X4_markOf : GoodIn wsX11_shelvePoint wsX4_markOf := goodIn_r _ [14, 15, 16, 17, 18, 19, 20, 21, 22, 23, 24, 25, 7, 26, 9, 27, 28, 29, 30, 31, 32, 33, 34, 35, 36, 37, 38, 39, 40, 41, 42, 43, 44, 45, 46, 47, 48, 49, 50, 51, 52, 53, 54, 55, 56, 57, 58, 59, 60, 61, 62, 63, 64, 65, 66, 67, 68, 69, 70, 71, 72, 73, 74, 5, 6, 8, 104, 105, 106, 107, 108, 109, 101, 102, 103, 110, 111] rfl (by decide +kernel)
set_option maxRecDepth 20000 in
theorem gX11_shelvePoint_X4_markOf : GoodIn wsX11_shelvePoint (wsV RX11 160 RX4 yX4_markOf wsX4_markOf) := goodIn_app (goodIn_of _ (by decide +kernel)) ggX11_shelvePoint_X4_markOf
set_option maxRecDepth 20000 in
theorem ggX11_shelvePoint_X7_put : GoodIn wsX11_shelvePoint wsX7_put := goodIn_r _ [79, 80, 81, 82, 83, 84, 112, 113] rfl (by decide +kernel)
set_option maxRecDepth 20000 in
theorem gX11_shelvePoint_X7_put : GoodIn wsX11_shelvePoint (wsV RX11 302 RX7 yX7_put wsX7_put) := goodIn_app (goodIn_of _ (by decide +kernel)) ggX11_shelvePoint_X7_put
theorem dX11_shelvePoint_14 : decode cX11_shelvePoint 14 = .ok (.aload_n 0, 1) := by decide +kernel
theorem dX11_shelvePoint_15 : decode cX11_shelvePoint 15 = .ok (.getfield 92, 3) := by decide +kernel
theorem dX11_shelvePoint_18 : decode cX11_shelvePoint 18 = .ok (.iload_n 1, 1) := by decide +kernel
theorem dX11_shelvePoint_19 : decode cX11_shelvePoint 19 = .ok (.aload_n 0, 1) := by decide +kernel
theorem dX11_shelvePoint_20 : decode cX11_shelvePoint 20 = .ok (.getfield 30, 3) := by decide +kernel
theorem dX11_shelvePoint_23 : decode cX11_shelvePoint 23 = .ok (.iload_n 2, 1) := by decide +kernel
theorem dX11_shelvePoint_24 : decode cX11_shelvePoint 24 = .ok (.invokevirtual 160, 3) := by decide +kernel
theorem dX11_shelvePoint_27 : decode cX11_shelvePoint 27 = .ok (.iconst 1, 1) := by decide +kernel
theorem dX11_shelvePoint_28 : decode cX11_shelvePoint 28 = .ok (.if_icmp .ne 7, 3) := by decide +kernel
theorem dX11_shelvePoint_31 : decode cX11_shelvePoint 31 = .ok (.iconst 3, 1) := by decide +kernel
theorem dX11_shelvePoint_32 : decode cX11_shelvePoint 32 = .ok (.goto 4, 3) := by decide +kernel
theorem dX11_shelvePoint_35 : decode cX11_shelvePoint 35 = .ok (.iconst 1, 1) := by decide +kernel
theorem dX11_shelvePoint_36 : decode cX11_shelvePoint 36 = .ok (.iconst 1, 1) := by decide +kernel
theorem dX11_shelvePoint_37 : decode cX11_shelvePoint 37 = .ok (.iload_n 2, 1) := by decide +kernel
theorem dX11_shelvePoint_38 : decode cX11_shelvePoint 38 = .ok (.ishl, 1) := by decide +kernel
theorem dX11_shelvePoint_39 : decode cX11_shelvePoint 39 = .ok (.invokevirtual 302, 3) := by decide +kernel
theorem dX11_shelvePoint_42 : decode cX11_shelvePoint 42 = .ok (.ireturn, 1) := by decide +kernel
set_option maxHeartbeats 4000000 in
set_option maxRecDepth 100000 in
theorem k_X11_shelvePoint (l : Launch) (D : va_G) (cI cS : ClassId) (sz : Nat) (a : Nat → Nat) (na nc N : Nat) (L u0 : SU) (hL : TyX L) (hN : N = 0 ∨ N = 24576) (x0 x1 : Int32) : Met l yX11_shelvePoint wsX11_shelvePoint ({ frames := 18, cells := 0, slots := 0, locals := 720 }) (PQ D cI cS (wX cI cS a na nc N L u0) sz [.ref (a 0), .int x0, .int x1]) (QF (S := SU) D (wX cI cS a na nc N L u0) (wX cI cS a na nc N L) sz (fun r _ => Rg (-2) 1 r ∧ True)) 0 0 (va_A (wX cI cS a na nc N L u0) sz) := by
  refine Met.ofW (cc := cX11_shelvePoint) (maxL := 3) (ret := (some .int)) (by decide) rfl ?_
  intro p e s m args below meth c s₁ B hml hv
  obtain ⟨rfl, hsz, hP, hKK, hD0⟩ := hv
  have hx := B.exec
  have hb := B.bytes
  have hr := B.returns
  have hts := atoms_spec (ws := wsX11_shelvePoint) B.pre
  have hown : s.vm.findClass RX11 = some m.cls := findClass_of_methodNamed B.named
  have hlocks := B.notSynchronized
  have hK := hKK.1
  have hin11 : ∀ w ∈ wsX110, w ∈ wsX11_shelvePoint := by decide +kernel
  subst hsz
  have hD := hD0.self (sz := s.heap.size)
  obtain ⟨A, hAe⟩ : ∃ A, A = va_A (wX cI cS a na nc N L u0) s.heap.size := ⟨_, rfl⟩
  rw [← hAe] at hD
  have hA : ∀ q : Nat, s.heap.size ≤ q → A q := fun q h => by rw [hAe]; exact Or.inr h
  have hS : va_S A s.heap s.heap [] := va_S.rf
  have hl := lv_entry ([.ref (a 0), .int x0, .int x1]) (n := 3) (Nat.le_of_ble_eq_true rfl)
  rw [lg_entry_eq]
  generalize (lg_sl ([.ref (a 0), .int x0, .int x1]) ++ List.replicate (3 - (lg_sl ([.ref (a 0), .int x0, .int x1])).length) Slot.unset).toArray = ls at hl ⊢
  have hl : lv_has ls 3 [(0, .ref (a 0)), (1, .int x0), (2, .int x1)] := hl
  obtain ⟨u, hu9⟩ : ∃ u : SU, u = u0 := ⟨_, rfl⟩
  rw [← hu9] at hP hD
  refine lv_aload_n hx hb dX11_shelvePoint_0 rfl (lv_at hl 0 rfl) ?_
  refine va_get (D := D) (ci := 11) (v := .ref (a 1)) (C := RX11) (T := TX11) (N := 16) hx hb hts hin11 hown hK hP 0 rfl rfl 0 (by decide) (hts (.fieldLink RX11 12 "MissedPoints" "net" "LMissedPoints$Net;") (by decide +kernel)) (fun _ h9 => h9) rfl dX11_shelvePoint_1 ?_
  refine lv_iload_n hx hb dX11_shelvePoint_4 rfl (lv_at hl 2 rfl) ?_
  refine wk_sv 1 (As := [.int x1]) (rest := []) ⟨hx, hb, hml, hown, hts⟩ (k_X2_hasPoint l D cI cS a na nc N L u hL hN x1) hKK hP (ci := 2) rfl rfl (cwV 1 hts gX11_shelvePoint_X2_hasPoint rfl rfl rfl (by decide +kernel) ⟨Nat.le_of_ble_eq_true rfl, Nat.le_of_ble_eq_true rfl⟩) rfl hl.1 rfl (Nat.le_of_ble_eq_true rfl) dX11_shelvePoint_5 ⟨Nat.le_of_ble_eq_true rfl, Nat.le_of_ble_eq_true rfl⟩ (fun r47153 hr47153 => ?_)
  refine lv_if_ne (tgt := 14) hx hb dX11_shelvePoint_8 (by decide) (fun c47154 => ?_) (fun c47154 => ?_)
  · have g47155 : Rg 0 11 x1 := (hr47153.2 c47154)
    have g47156 : Rg 1 1 r47153 := rg_ne_lo (k := 0) hr47153.1 (by decide) c47154 (by decide)
    refine lv_aload_n hx hb dX11_shelvePoint_14 rfl (lv_at hl 0 rfl) ?_
    refine va_get (D := D) (ci := 11) (v := .ref (a 42)) (C := RX11) (T := TX11) (N := 16) hx hb hts hin11 hown hK hP 0 rfl rfl 15 (by decide) (hts (.fieldLink RX11 92 "MissedPoints" "shelves" "LMissedPoints$Shelves;") (by decide +kernel)) (fun _ h9 => h9) rfl dX11_shelvePoint_15 ?_
    refine lv_iload_n hx hb dX11_shelvePoint_18 rfl (lv_at hl 1 rfl) ?_
    refine lv_aload_n hx hb dX11_shelvePoint_19 rfl (lv_at hl 0 rfl) ?_
    refine va_get (D := D) (ci := 11) (v := .ref (a 17)) (C := RX11) (T := TX11) (N := 16) hx hb hts hin11 hown hK hP 0 rfl rfl 2 (by decide) (hts (.fieldLink RX11 30 "MissedPoints" "parting" "LMissedPoints$Parting;") (by decide +kernel)) (fun _ h9 => h9) rfl dX11_shelvePoint_20 ?_
    refine lv_iload_n hx hb dX11_shelvePoint_23 rfl (lv_at hl 2 rfl) ?_
    refine wk_qi (wX cI cS a na nc N L) u (As := [.int x1]) (rest := [.int x0, .ref (a 42)]) ⟨hx, hb, hml, hown, hts⟩ (k_X4_markOf l D cI cS _ a na nc N L u hL hN x1) hKK hP hD hS hA 17 (ci := 4) rfl rfl (cwV 1 hts gX11_shelvePoint_X4_markOf rfl rfl rfl (by decide +kernel) ⟨Nat.le_of_ble_eq_true rfl, Nat.le_of_ble_eq_true rfl⟩) rfl hl.1 rfl (Nat.le_of_ble_eq_true rfl) dX11_shelvePoint_24 ⟨Nat.le_of_ble_eq_true rfl, Nat.le_of_ble_eq_true rfl⟩ (fun r47157 u H locs hr47157 hP hD hS => ?_)
    refine lv_iconst (v := 1) hx hb dX11_shelvePoint_27 (by decide) ?_
    refine lv_icmp_ne (tgt := 35) hx hb dX11_shelvePoint_28 (by decide) (fun c47158 => ?_) (fun c47158 => ?_)
    · refine lv_iconst (v := 1) hx hb dX11_shelvePoint_35 (by decide) ?_
      refine lv_iconst (v := 1) hx hb dX11_shelvePoint_36 (by decide) ?_
      refine lv_iload_n hx hb dX11_shelvePoint_37 rfl (lv_at hl 2 rfl) ?_
      refine wk_ishl1 (f := 2048) hx hb dX11_shelvePoint_38 g47155 (by decide) (fun r47159 hr47159 qr47159 => ?_)
      refine wk_qi (wX cI cS a na nc N L) u (As := [.int x0, .int 1, .int r47159]) (rest := []) ⟨hx, hb, hml, hown, hts⟩ (k_X7_put l D cI cS _ a na nc N L u hL hN x0 (1 : Int32) r47159) hKK hP hD hS hA 42 (ci := 7) rfl rfl (cwV 3 hts gX11_shelvePoint_X7_put rfl rfl rfl (by decide +kernel) ⟨Nat.le_of_ble_eq_true rfl, Nat.le_of_ble_eq_true rfl⟩) rfl hl.1 rfl (Nat.le_of_ble_eq_true rfl) dX11_shelvePoint_39 ⟨Nat.le_of_ble_eq_true rfl, Nat.le_of_ble_eq_true rfl⟩ (fun r47160 u H locs hr47160 hP hD hS => ?_)
      subst hAe
      exact W.iret (v := r47160) hx hb hr (fun t ht hW => ⟨⟨_, u, rfl, ⟨hr47160.1, trivial⟩, by rw [ht]; exact hP, hD⟩, hS.F ht⟩) hS.2.2 dX11_shelvePoint_42
    · have g47161 : Rg 1 1 r47157 := wk_eql hr47157.1 (by decide : Rg 1 1 (1 : Int32)) c47158 (by decide)
      refine lv_iconst (v := 3) hx hb dX11_shelvePoint_31 (by decide) ?_
      refine lv_goto (tgt := 36) hx hb dX11_shelvePoint_32 (by decide) ?_
      refine lv_iconst (v := 1) hx hb dX11_shelvePoint_36 (by decide) ?_
      refine lv_iload_n hx hb dX11_shelvePoint_37 rfl (lv_at hl 2 rfl) ?_
      refine wk_ishl1 (f := 2048) hx hb dX11_shelvePoint_38 g47155 (by decide) (fun r47162 hr47162 qr47162 => ?_)
      refine wk_qi (wX cI cS a na nc N L) u (As := [.int x0, .int 3, .int r47162]) (rest := []) ⟨hx, hb, hml, hown, hts⟩ (k_X7_put l D cI cS _ a na nc N L u hL hN x0 (3 : Int32) r47162) hKK hP hD hS hA 42 (ci := 7) rfl rfl (cwV 3 hts gX11_shelvePoint_X7_put rfl rfl rfl (by decide +kernel) ⟨Nat.le_of_ble_eq_true rfl, Nat.le_of_ble_eq_true rfl⟩) rfl hl.1 rfl (Nat.le_of_ble_eq_true rfl) dX11_shelvePoint_39 ⟨Nat.le_of_ble_eq_true rfl, Nat.le_of_ble_eq_true rfl⟩ (fun r47163 u H locs hr47163 hP hD hS => ?_)
      subst hAe
      exact W.iret (v := r47163) hx hb hr (fun t ht hW => ⟨⟨_, u, rfl, ⟨hr47163.1, trivial⟩, by rw [ht]; exact hP, hD⟩, hS.F ht⟩) hS.2.2 dX11_shelvePoint_42
  · have g47164 : Rg 0 0 r47153 := wk_eql hr47153.1 (by decide : Rg 0 0 (0 : Int32)) c47154 (by decide)
    refine lv_bipush (v := (-2)) hx hb dX11_shelvePoint_11 (by decide) ?_
    subst hAe
    exact W.iret (v := (-2)) hx hb hr (fun t ht hW => ⟨⟨_, u, rfl, ⟨(by decide : Rg (-2) 1 ((-2) : Int32)), trivial⟩, by rw [ht]; exact hP, hD⟩, hS.F ht⟩) hS.2.2 dX11_shelvePoint_13
set_option maxRecDepth 20000 in
theorem ggX11_shelvePiece_X7_put : GoodIn wsX11_shelvePiece wsX7_put := goodIn_r _ [89, 90, 91, 92, 93, 94, 122, 123] rfl (by decide +kernel)
set_option maxRecDepth 20000 in
theorem gX11_shelvePiece_X7_put : GoodIn wsX11_shelvePiece (wsV RX11 302 RX7 yX7_put wsX7_put) := goodIn_app (goodIn_of _ (by decide +kernel)) ggX11_shelvePiece_X7_put
theorem dX11_shelvePiece_29 : decode cX11_shelvePiece 29 = .ok (.aload_n 0, 1) := by decide +kernel
theorem dX11_shelvePiece_30 : decode cX11_shelvePiece 30 = .ok (.getfield 92, 3) := by decide +kernel
theorem dX11_shelvePiece_33 : decode cX11_shelvePiece 33 = .ok (.iload_n 1, 1) := by decide +kernel
theorem dX11_shelvePiece_34 : decode cX11_shelvePiece 34 = .ok (.iload_n 2, 1) := by decide +kernel
theorem dX11_shelvePiece_35 : decode cX11_shelvePiece 35 = .ok (.iload 5, 2) := by decide +kernel
theorem dX11_shelvePiece_37 : decode cX11_shelvePiece 37 = .ok (.invokevirtual 302, 3) := by decide +kernel
set_option maxHeartbeats 4000000 in
set_option maxRecDepth 100000 in
theorem k_X11_shelvePiece (l : Launch) (D : va_G) (cI cS : ClassId) (sz : Nat) (a : Nat → Nat) (na nc N : Nat) (L u0 : SU) (hL : TyX L) (hN : N = 0 ∨ N = 24576) (x0 x1 x2 x3 : Int32) : Met l yX11_shelvePiece wsX11_shelvePiece ({ frames := 18, cells := 0, slots := 0, locals := 720 }) (PQ D cI cS (wX cI cS a na nc N L u0) sz [.ref (a 0), .int x0, .int x1, .int x2, .int x3]) (QF (S := SU) D (wX cI cS a na nc N L u0) (wX cI cS a na nc N L) sz (fun r _ => Rg (-2) 1 r ∧ True)) 0 0 (va_A (wX cI cS a na nc N L u0) sz) := by
  refine Met.ofW (cc := cX11_shelvePiece) (maxL := 6) (ret := (some .int)) (by decide) rfl ?_
  intro p e s m args below meth c s₁ B hml hv
  obtain ⟨rfl, hsz, hP, hKK, hD0⟩ := hv
  have hx := B.exec
  have hb := B.bytes
  have hr := B.returns
  have hts := atoms_spec (ws := wsX11_shelvePiece) B.pre
  have hown : s.vm.findClass RX11 = some m.cls := findClass_of_methodNamed B.named
  have hlocks := B.notSynchronized
  have hK := hKK.1
  have hin11 : ∀ w ∈ wsX110, w ∈ wsX11_shelvePiece := by decide +kernel
  subst hsz
  have hD := hD0.self (sz := s.heap.size)
  obtain ⟨A, hAe⟩ : ∃ A, A = va_A (wX cI cS a na nc N L u0) s.heap.size := ⟨_, rfl⟩
  rw [← hAe] at hD
  have hA : ∀ q : Nat, s.heap.size ≤ q → A q := fun q h => by rw [hAe]; exact Or.inr h
  have hS : va_S A s.heap s.heap [] := va_S.rf
  have hl := lv_entry ([.ref (a 0), .int x0, .int x1, .int x2, .int x3]) (n := 6) (Nat.le_of_ble_eq_true rfl)
  rw [lg_entry_eq]
  generalize (lg_sl ([.ref (a 0), .int x0, .int x1, .int x2, .int x3]) ++ List.replicate (6 - (lg_sl ([.ref (a 0), .int x0, .int x1, .int x2, .int x3])).length) Slot.unset).toArray = ls at hl ⊢
  have hl : lv_has ls 6 [(0, .ref (a 0)), (1, .int x0), (2, .int x1), (3, .int x2), (4, .int x3)] := hl
  obtain ⟨u, hu9⟩ : ∃ u : SU, u = u0 := ⟨_, rfl⟩
  rw [← hu9] at hP hD
  refine lv_aload_n hx hb dX11_shelvePiece_0 rfl (lv_at hl 0 rfl) ?_
  refine va_get (D := D) (ci := 11) (v := .ref (a 1)) (C := RX11) (T := TX11) (N := 16) hx hb hts hin11 hown hK hP 0 rfl rfl 0 (by decide) (hts (.fieldLink RX11 12 "MissedPoints" "net" "LMissedPoints$Net;") (by decide +kernel)) (fun _ h9 => h9) rfl dX11_shelvePiece_1 ?_
  refine lv_aload_n hx hb dX11_shelvePiece_4 rfl (lv_at hl 0 rfl) ?_
  refine va_get (D := D) (ci := 11) (v := .ref (a 17)) (C := RX11) (T := TX11) (N := 16) hx hb hts hin11 hown hK hP 0 rfl rfl 2 (by decide) (hts (.fieldLink RX11 30 "MissedPoints" "parting" "LMissedPoints$Parting;") (by decide +kernel)) (fun _ h9 => h9) rfl dX11_shelvePiece_5 ?_
  refine lv_iload_n hx hb dX11_shelvePiece_8 rfl (lv_at hl 3 rfl) ?_
  refine wk_qi (wX cI cS a na nc N L) u (As := [.int x2]) (rest := [.ref (a 1)]) ⟨hx, hb, hml, hown, hts⟩ (k_X4_allOf l D cI cS _ a na nc N L u hL hN x2) hKK hP hD hS hA 17 (ci := 4) rfl rfl (cwV 1 hts gX11_shelvePiece_X4_allOf rfl rfl rfl (by decide +kernel) ⟨Nat.le_of_ble_eq_true rfl, Nat.le_of_ble_eq_true rfl⟩) rfl hl.1 rfl (Nat.le_of_ble_eq_true rfl) dX11_shelvePiece_9 ⟨Nat.le_of_ble_eq_true rfl, Nat.le_of_ble_eq_true rfl⟩ (fun r47170 u H locs hr47170 hP hD hS => ?_)
  refine lv_iload hx hb dX11_shelvePiece_12 (lv_at hl 4 rfl) ?_
  refine wk_sv 1 (As := [.int r47170, .int x3]) (rest := []) ⟨hx, hb, hml, hown, hts⟩ (k_X2_pieceAt l D cI cS a na nc N L u hL hN r47170 x3) hKK hP (ci := 2) rfl rfl (cwV 2 hts gX11_shelvePiece_X2_pieceAt rfl rfl rfl (by decide +kernel) ⟨Nat.le_of_ble_eq_true rfl, Nat.le_of_ble_eq_true rfl⟩) rfl hl.1 rfl (Nat.le_of_ble_eq_true rfl) dX11_shelvePiece_14 ⟨Nat.le_of_ble_eq_true rfl, Nat.le_of_ble_eq_true rfl⟩ (fun r47171 hr47171 => ?_)
  refine lv_istore (lv' := [(5, .int r47171), (0, .ref (a 0)), (1, .int x0), (2, .int x1), (3, .int x2), (4, .int x3)]) hx hb dX11_shelvePiece_17 hl (by decide) rfl (fun ls hl => ?_)
  refine lv_iload hx hb dX11_shelvePiece_19 (lv_at hl 0 rfl) ?_
  refine lv_if_ne (tgt := 29) hx hb dX11_shelvePiece_21 (by decide) (fun c47172 => ?_) (fun c47172 => ?_)
  · refine lv_aload_n hx hb dX11_shelvePiece_29 rfl (lv_at hl 1 rfl) ?_
    refine va_get (D := D) (ci := 11) (v := .ref (a 42)) (C := RX11) (T := TX11) (N := 16) hx hb hts hin11 hown hK hP 0 rfl rfl 15 (by decide) (hts (.fieldLink RX11 92 "MissedPoints" "shelves" "LMissedPoints$Shelves;") (by decide +kernel)) (fun _ h9 => h9) rfl dX11_shelvePiece_30 ?_
    refine lv_iload_n hx hb dX11_shelvePiece_33 rfl (lv_at hl 2 rfl) ?_
    refine lv_iload_n hx hb dX11_shelvePiece_34 rfl (lv_at hl 3 rfl) ?_
    refine lv_iload hx hb dX11_shelvePiece_35 (lv_at hl 0 rfl) ?_
    refine wk_qi (wX cI cS a na nc N L) u (As := [.int x0, .int x1, .int r47171]) (rest := []) ⟨hx, hb, hml, hown, hts⟩ (k_X7_put l D cI cS _ a na nc N L u hL hN x0 x1 r47171) hKK hP hD hS hA 42 (ci := 7) rfl rfl (cwV 3 hts gX11_shelvePiece_X7_put rfl rfl rfl (by decide +kernel) ⟨Nat.le_of_ble_eq_true rfl, Nat.le_of_ble_eq_true rfl⟩) rfl hl.1 rfl (Nat.le_of_ble_eq_true rfl) dX11_shelvePiece_37 ⟨Nat.le_of_ble_eq_true rfl, Nat.le_of_ble_eq_true rfl⟩ (fun r47173 u H locs hr47173 hP hD hS => ?_)
    subst hAe
    exact W.iret (v := r47173) hx hb hr (fun t ht hW => ⟨⟨_, u, rfl, ⟨hr47173.1, trivial⟩, by rw [ht]; exact hP, hD⟩, hS.F ht⟩) hS.2.2 dX11_shelvePiece_40
  · have g47174 : Rg 0 0 r47171 := wk_eql hr47171.1 (by decide : Rg 0 0 (0 : Int32)) c47172 (by decide)
    refine lv_bipush (v := (-2)) hx hb dX11_shelvePiece_24 (by decide) ?_
    refine lv_goto (tgt := 40) hx hb dX11_shelvePiece_26 (by decide) ?_
    subst hAe
    exact W.iret (v := (-2)) hx hb hr (fun t ht hW => ⟨⟨_, u, rfl, ⟨(by decide : Rg (-2) 1 ((-2) : Int32)), trivial⟩, by rw [ht]; exact hP, hD⟩, hS.F ht⟩) hS.2.2 dX11_shelvePiece_40
set_option maxHeartbeats 4000000 in
set_option maxRecDepth 100000 in
theorem k_X11_shelveArea (l : Launch) (D : va_G) (cI cS : ClassId) (sz : Nat) (a : Nat → Nat) (na nc N : Nat) (L u0 : SU) (hL : TyX L) (hN : N = 0 ∨ N = 24576) (x0 x1 : Int32) : Met l yX11_shelveArea wsX11_shelveArea ({ frames := 2, cells := 0, slots := 0, locals := 80 }) (PQ D cI cS (wX cI cS a na nc N L u0) sz [.ref (a 0), .int x0, .int x1]) (QF (S := SU) D (wX cI cS a na nc N L u0) (wX cI cS a na nc N L) sz (fun r _ => Rg (-2) 1 r ∧ True)) 0 0 (va_A (wX cI cS a na nc N L u0) sz) := by
  refine Met.ofW (cc := cX11_shelveArea) (maxL := 3) (ret := (some .int)) (by decide) rfl ?_
  intro p e s m args below meth c s₁ B hml hv
  obtain ⟨rfl, hsz, hP, hKK, hD0⟩ := hv
  have hx := B.exec
  have hb := B.bytes
  have hr := B.returns
  have hts := atoms_spec (ws := wsX11_shelveArea) B.pre
  have hown : s.vm.findClass RX11 = some m.cls := findClass_of_methodNamed B.named
  have hlocks := B.notSynchronized
  have hK := hKK.1
  have hin11 : ∀ w ∈ wsX110, w ∈ wsX11_shelveArea := by decide +kernel
  subst hsz
  have hD := hD0.self (sz := s.heap.size)
  obtain ⟨A, hAe⟩ : ∃ A, A = va_A (wX cI cS a na nc N L u0) s.heap.size := ⟨_, rfl⟩
  rw [← hAe] at hD
  have hA : ∀ q : Nat, s.heap.size ≤ q → A q := fun q h => by rw [hAe]; exact Or.inr h
  have hS : va_S A s.heap s.heap [] := va_S.rf
  have hl := lv_entry ([.ref (a 0), .int x0, .int x1]) (n := 3) (Nat.le_of_ble_eq_true rfl)
  rw [lg_entry_eq]
  generalize (lg_sl ([.ref (a 0), .int x0, .int x1]) ++ List.replicate (3 - (lg_sl ([.ref (a 0), .int x0, .int x1])).length) Slot.unset).toArray = ls at hl ⊢
  have hl : lv_has ls 3 [(0, .ref (a 0)), (1, .int x0), (2, .int x1)] := hl
  obtain ⟨u, hu9⟩ : ∃ u : SU, u = u0 := ⟨_, rfl⟩
  rw [← hu9] at hP hD
  refine lv_aload_n hx hb dX11_shelveArea_0 rfl (lv_at hl 0 rfl) ?_
  refine va_get (D := D) (ci := 11) (v := .ref (a 1)) (C := RX11) (T := TX11) (N := 16) hx hb hts hin11 hown hK hP 0 rfl rfl 0 (by decide) (hts (.fieldLink RX11 12 "MissedPoints" "net" "LMissedPoints$Net;") (by decide +kernel)) (fun _ h9 => h9) rfl dX11_shelveArea_1 ?_
  refine lv_iload_n hx hb dX11_shelveArea_4 rfl (lv_at hl 2 rfl) ?_
  refine wk_sv 1 (As := [.int x1]) (rest := []) ⟨hx, hb, hml, hown, hts⟩ (k_X2_hasAll l D cI cS a na nc N L u hL hN x1) hKK hP (ci := 2) rfl rfl (cwV 1 hts gX11_shelveArea_X2_hasAll rfl rfl rfl (by decide +kernel) ⟨Nat.le_of_ble_eq_true rfl, Nat.le_of_ble_eq_true rfl⟩) rfl hl.1 rfl (Nat.le_of_ble_eq_true rfl) dX11_shelveArea_5 ⟨Nat.le_of_ble_eq_true rfl, Nat.le_of_ble_eq_true rfl⟩ (fun r47181 hr47181 => ?_)
  refine lv_if_eq (tgt := 24) hx hb dX11_shelveArea_8 (by decide) (fun c47182 => ?_) (fun c47182 => ?_)
  · have g47183 : Rg 0 0 r47181 := wk_eql hr47181.1 (by decide : Rg 0 0 (0 : Int32)) c47182 (by decide)
    refine lv_bipush (v := (-2)) hx hb dX11_shelveArea_24 (by decide) ?_
    subst hAe
    exact W.iret (v := (-2)) hx hb hr (fun t ht hW => ⟨⟨_, u, rfl, ⟨(by decide : Rg (-2) 1 ((-2) : Int32)), trivial⟩, by rw [ht]; exact hP, hD⟩, hS.F ht⟩) hS.2.2 dX11_shelveArea_26
  · have g47184 : Rg 0 4095 x1 := (hr47181.2 c47182)
    have g47185 : Rg 1 1 r47181 := rg_ne_lo (k := 0) hr47181.1 (by decide) c47182 (by decide)
    refine lv_aload_n hx hb dX11_shelveArea_11 rfl (lv_at hl 0 rfl) ?_
    refine va_get (D := D) (ci := 11) (v := .ref (a 42)) (C := RX11) (T := TX11) (N := 16) hx hb hts hin11 hown hK hP 0 rfl rfl 15 (by decide) (hts (.fieldLink RX11 92 "MissedPoints" "shelves" "LMissedPoints$Shelves;") (by decide +kernel)) (fun _ h9 => h9) rfl dX11_shelveArea_12 ?_
    refine lv_iload_n hx hb dX11_shelveArea_15 rfl (lv_at hl 1 rfl) ?_
    refine lv_iconst (v := 2) hx hb dX11_shelveArea_16 (by decide) ?_
    refine lv_iload_n hx hb dX11_shelveArea_17 rfl (lv_at hl 2 rfl) ?_
    refine wk_qi (wX cI cS a na nc N L) u (As := [.int x0, .int 2, .int x1]) (rest := []) ⟨hx, hb, hml, hown, hts⟩ (k_X7_put l D cI cS _ a na nc N L u hL hN x0 (2 : Int32) x1) hKK hP hD hS hA 42 (ci := 7) rfl rfl (cwV 3 hts gX11_shelveArea_X7_put rfl rfl rfl (by decide +kernel) ⟨Nat.le_of_ble_eq_true rfl, Nat.le_of_ble_eq_true rfl⟩) rfl hl.1 rfl (Nat.le_of_ble_eq_true rfl) dX11_shelveArea_18 ⟨Nat.le_of_ble_eq_true rfl, Nat.le_of_ble_eq_true rfl⟩ (fun r47186 u H locs hr47186 hP hD hS => ?_)
    refine lv_goto (tgt := 26) hx hb dX11_shelveArea_21 (by decide) ?_
    subst hAe
    exact W.iret (v := r47186) hx hb hr (fun t ht hW => ⟨⟨_, u, rfl, ⟨hr47186.1, trivial⟩, by rw [ht]; exact hP, hD⟩, hS.F ht⟩) hS.2.2 dX11_shelveArea_26
set_option maxRecDepth 20000 in
theorem ggX11_shelveRow_X7_put : GoodIn wsX11_shelveRow wsX7_put := goodIn_r _ [21, 22, 23, 24, 6, 25, 45, 46] rfl (by decide +kernel)
set_option maxRecDepth 20000 in
theorem gX11_shelveRow_X7_put : GoodIn wsX11_shelveRow (wsV RX11 302 RX7 yX7_put wsX7_put) := goodIn_app (goodIn_of _ (by decide +kernel)) ggX11_shelveRow_X7_put
theorem dX11_shelveRow_12 : decode cX11_shelveRow 12 = .ok (.aload_n 0, 1) := by decide +kernel
theorem dX11_shelveRow_13 : decode cX11_shelveRow 13 = .ok (.getfield 92, 3) := by decide +kernel
theorem dX11_shelveRow_16 : decode cX11_shelveRow 16 = .ok (.iload_n 1, 1) := by decide +kernel
theorem dX11_shelveRow_17 : decode cX11_shelveRow 17 = .ok (.bipush 10, 2) := by decide +kernel
theorem dX11_shelveRow_19 : decode cX11_shelveRow 19 = .ok (.aload_n 0, 1) := by decide +kernel
theorem dX11_shelveRow_20 : decode cX11_shelveRow 20 = .ok (.getfield 75, 3) := by decide +kernel
theorem dX11_shelveRow_23 : decode cX11_shelveRow 23 = .ok (.iload_n 2, 1) := by decide +kernel
theorem dX11_shelveRow_24 : decode cX11_shelveRow 24 = .ok (.aaload, 1) := by decide +kernel
theorem dX11_shelveRow_25 : decode cX11_shelveRow 25 = .ok (.getfield 240, 3) := by decide +kernel
theorem dX11_shelveRow_28 : decode cX11_shelveRow 28 = .ok (.iadd, 1) := by decide +kernel
theorem dX11_shelveRow_29 : decode cX11_shelveRow 29 = .ok (.aload_n 0, 1) := by decide +kernel
theorem dX11_shelveRow_30 : decode cX11_shelveRow 30 = .ok (.getfield 75, 3) := by decide +kernel
theorem dX11_shelveRow_33 : decode cX11_shelveRow 33 = .ok (.iload_n 2, 1) := by decide +kernel
theorem dX11_shelveRow_34 : decode cX11_shelveRow 34 = .ok (.aaload, 1) := by decide +kernel
theorem dX11_shelveRow_35 : decode cX11_shelveRow 35 = .ok (.getfield 306, 3) := by decide +kernel
theorem dX11_shelveRow_38 : decode cX11_shelveRow 38 = .ok (.invokevirtual 302, 3) := by decide +kernel
theorem dX11_shelveRow_41 : decode cX11_shelveRow 41 = .ok (.ireturn, 1) := by decide +kernel
set_option maxHeartbeats 4000000 in
set_option maxRecDepth 100000 in
theorem k_X11_shelveRow (l : Launch) (D : va_G) (cI cS : ClassId) (sz : Nat) (a : Nat → Nat) (na nc N : Nat) (L u0 : SU) (hL : TyX L) (hN : N = 0 ∨ N = 24576) (x0 x1 : Int32) : Met l yX11_shelveRow wsX11_shelveRow ({ frames := 2, cells := 0, slots := 0, locals := 80 }) (PQ D cI cS (wX cI cS a na nc N L u0) sz [.ref (a 0), .int x0, .int x1]) (QF (S := SU) D (wX cI cS a na nc N L u0) (wX cI cS a na nc N L) sz (fun r _ => Rg (-11) 1 r ∧ True)) 0 0 (va_A (wX cI cS a na nc N L u0) sz) := by
  refine Met.ofW (cc := cX11_shelveRow) (maxL := 4) (ret := (some .int)) (by decide) rfl ?_
  intro p e s m args below meth c s₁ B hml hv
  obtain ⟨rfl, hsz, hP, hKK, hD0⟩ := hv
  have hx := B.exec
  have hb := B.bytes
  have hr := B.returns
  have hts := atoms_spec (ws := wsX11_shelveRow) B.pre
  have hown : s.vm.findClass RX11 = some m.cls := findClass_of_methodNamed B.named
  have hlocks := B.notSynchronized
  have hK := hKK.1
  have hin6 : ∀ w ∈ wsX60, w ∈ wsX11_shelveRow := by decide +kernel
  have hin11 : ∀ w ∈ wsX110, w ∈ wsX11_shelveRow := by decide +kernel
  subst hsz
  have hD := hD0.self (sz := s.heap.size)
  obtain ⟨A, hAe⟩ : ∃ A, A = va_A (wX cI cS a na nc N L u0) s.heap.size := ⟨_, rfl⟩
  rw [← hAe] at hD
  have hA : ∀ q : Nat, s.heap.size ≤ q → A q := fun q h => by rw [hAe]; exact Or.inr h
  have hS : va_S A s.heap s.heap [] := va_S.rf
  have hl := lv_entry ([.ref (a 0), .int x0, .int x1]) (n := 4) (Nat.le_of_ble_eq_true rfl)
  rw [lg_entry_eq]
  generalize (lg_sl ([.ref (a 0), .int x0, .int x1]) ++ List.replicate (4 - (lg_sl ([.ref (a 0), .int x0, .int x1])).length) Slot.unset).toArray = ls at hl ⊢
  have hl : lv_has ls 4 [(0, .ref (a 0)), (1, .int x0), (2, .int x1)] := hl
  obtain ⟨u, hu9⟩ : ∃ u : SU, u = u0 := ⟨_, rfl⟩
  rw [← hu9] at hP hD
  refine lv_aload_n hx hb dX11_shelveRow_0 rfl (lv_at hl 0 rfl) ?_
  refine lv_iload_n hx hb dX11_shelveRow_1 rfl (lv_at hl 2 rfl) ?_
  refine wk_sv 0 (As := [.int x1]) (rest := []) ⟨hx, hb, hml, hown, hts⟩ (k_X11_refusalOfSheet l D cI cS a na nc N L u hL hN x1) hKK hP (ci := 11) rfl rfl (cwV 1 hts gX11_shelveRow_X11_refusalOfSheet rfl rfl rfl (by decide +kernel) ⟨Nat.le_of_ble_eq_true rfl, Nat.le_of_ble_eq_true rfl⟩) rfl hl.1 rfl (Nat.le_of_ble_eq_true rfl) dX11_shelveRow_2 ⟨Nat.le_of_ble_eq_true rfl, Nat.le_of_ble_eq_true rfl⟩ (fun r47196 hr47196 => ?_)
  refine lv_istore_n (lv' := [(3, .int r47196), (0, .ref (a 0)), (1, .int x0), (2, .int x1)]) hx hb dX11_shelveRow_5 rfl hl (by decide) rfl (fun ls hl => ?_)
  refine lv_iload_n hx hb dX11_shelveRow_6 rfl (lv_at hl 0 rfl) ?_
  refine lv_if_eq (tgt := 12) hx hb dX11_shelveRow_7 (by decide) (fun c47197 => ?_) (fun c47197 => ?_)
  · have g47198 : Rg 0 3 x1 := (hr47196.2 c47197)
    have g47199 : Rg 0 0 r47196 := wk_eql hr47196.1 (by decide : Rg 0 0 (0 : Int32)) c47197 (by decide)
    refine lv_aload_n hx hb dX11_shelveRow_12 rfl (lv_at hl 1 rfl) ?_
    refine va_get (D := D) (ci := 11) (v := .ref (a 42)) (C := RX11) (T := TX11) (N := 16) hx hb hts hin11 hown hK hP 0 rfl rfl 15 (by decide) (hts (.fieldLink RX11 92 "MissedPoints" "shelves" "LMissedPoints$Shelves;") (by decide +kernel)) (fun _ h9 => h9) rfl dX11_shelveRow_13 ?_
    refine lv_iload_n hx hb dX11_shelveRow_16 rfl (lv_at hl 2 rfl) ?_
    refine lv_bipush (v := 10) hx hb dX11_shelveRow_17 (by decide) ?_
    refine lv_aload_n hx hb dX11_shelveRow_19 rfl (lv_at hl 1 rfl) ?_
    refine va_get (D := D) (ci := 11) (v := .ref (a 25)) (C := RX11) (T := TX11) (N := 16) hx hb hts hin11 hown hK hP 0 rfl rfl 12 (by decide) (hts (.fieldLink RX11 75 "MissedPoints" "sheets" "[LMissedPoints$Sheet;") (by decide +kernel)) (fun _ h9 => h9) rfl dX11_shelveRow_20 ?_
    refine lv_iload_n hx hb dX11_shelveRow_23 rfl (lv_at hl 3 rfl) ?_
    obtain ⟨q47200, hq47200, eq47200, zq47200⟩ := ks_sh (a := a) g47198
    refine va_aldq hx hb hK hP 25 1 rfl rfl (rg_in g47198 (by decide) (by decide)) dX11_shelveRow_24 ?_
    refine lz_va (y := .ref (a (26 + 2 * q47200))) (by show va_rf _ = _; rw [zq47200]; rfl) ?_
    refine va_getN (D := D) (ci := 6) (v := .int ((L (26 + 2 * q47200) 1))) (C := RX6) (T := TX6) (N := 3) hx hb hts hin6 hown hK hP (26 + 2 * q47200) (gx_sh hq47200) rfl 1 (by decide) (va_Nw.use rfl hKK.2.2.2.2.2.2.2.1) (fun _ h9 => h9) rfl dX11_shelveRow_25 ?_
    refine lv_iadd hx hb dX11_shelveRow_28 ?_
    refine wk_topP (P := fun r => r = (10 : Int32) + ((L (26 + 2 * q47200) 1))) rfl (fun r47201 qr47201 => ?_)
    refine lv_aload_n hx hb dX11_shelveRow_29 rfl (lv_at hl 1 rfl) ?_
    refine va_get (D := D) (ci := 11) (v := .ref (a 25)) (C := RX11) (T := TX11) (N := 16) hx hb hts hin11 hown hK hP 0 rfl rfl 12 (by decide) (hts (.fieldLink RX11 75 "MissedPoints" "sheets" "[LMissedPoints$Sheet;") (by decide +kernel)) (fun _ h9 => h9) rfl dX11_shelveRow_30 ?_
    refine lv_iload_n hx hb dX11_shelveRow_33 rfl (lv_at hl 3 rfl) ?_
    obtain ⟨q47202, hq47202, eq47202, zq47202⟩ := ks_sh (a := a) g47198
    refine va_aldq hx hb hK hP 25 1 rfl rfl (rg_in g47198 (by decide) (by decide)) dX11_shelveRow_34 ?_
    refine lz_va (y := .ref (a (26 + 2 * q47202))) (by show va_rf _ = _; rw [zq47202]; rfl) ?_
    refine va_getN (D := D) (ci := 6) (v := .int ((L (26 + 2 * q47202) 2))) (C := RX6) (T := TX6) (N := 3) hx hb hts hin6 hown hK hP (26 + 2 * q47202) (gx_sh hq47202) rfl 2 (by decide) (va_Nw.use rfl hKK.2.2.2.2.2.2.2.2.2.1) (fun _ h9 => h9) rfl dX11_shelveRow_35 ?_
    refine wk_qi (wX cI cS a na nc N L) u (As := [.int x0, .int r47201, .int ((L (26 + 2 * q47202) 2))]) (rest := []) ⟨hx, hb, hml, hown, hts⟩ (k_X7_put l D cI cS _ a na nc N L u hL hN x0 r47201 ((L (26 + 2 * q47202) 2))) hKK hP hD hS hA 42 (ci := 7) rfl rfl (cwV 3 hts gX11_shelveRow_X7_put rfl rfl rfl (by decide +kernel) ⟨Nat.le_of_ble_eq_true rfl, Nat.le_of_ble_eq_true rfl⟩) rfl hl.1 rfl (Nat.le_of_ble_eq_true rfl) dX11_shelveRow_38 ⟨Nat.le_of_ble_eq_true rfl, Nat.le_of_ble_eq_true rfl⟩ (fun r47203 u H locs hr47203 hP hD hS => ?_)
    subst hAe
    exact W.iret (v := r47203) hx hb hr (fun t ht hW => ⟨⟨_, u, rfl, ⟨(show Rg (-11) 1 r47203 from rg_w hr47203.1 (by decide) (by decide)), trivial⟩, by rw [ht]; exact hP, hD⟩, hS.F ht⟩) hS.2.2 dX11_shelveRow_41
  · have g47204 : Rg (-11) (-1) r47196 := rg_ne_hi (k := 0) hr47196.1 (by decide) c47197 (by decide)
    refine lv_iload_n hx hb dX11_shelveRow_10 rfl (lv_at hl 0 rfl) ?_
    subst hAe
    exact W.iret (v := r47196) hx hb hr (fun t ht hW => ⟨⟨_, u, rfl, ⟨(show Rg (-11) 1 r47196 from rg_w g47204 (by decide) (by decide)), trivial⟩, by rw [ht]; exact hP, hD⟩, hS.F ht⟩) hS.2.2 dX11_shelveRow_11
set_option maxHeartbeats 4000000 in
set_option maxRecDepth 100000 in
theorem k_X11_shelf (l : Launch) (D : va_G) (cI cS : ClassId) (sz : Nat) (a : Nat → Nat) (na nc N : Nat) (L u0 : SU) (hL : TyX L) (hN : N = 0 ∨ N = 24576) (x0 x1 x2 : Int32) : Met l yX11_shelf wsX11_shelf ({ frames := 19, cells := 0, slots := 0, locals := 760 }) (PQ D cI cS (wX cI cS a na nc N L u0) sz [.ref (a 0), .int x0, .int x1, .int x2]) (QF (S := SU) D (wX cI cS a na nc N L u0) (wX cI cS a na nc N L) sz (fun r _ => Rg (-11) 1 r ∧ True)) 0 0 (va_A (wX cI cS a na nc N L u0) sz) := by
  refine Met.ofW (cc := cX11_shelf) (maxL := 4) (ret := (some .int)) (by decide) rfl ?_
  intro p e s m args below meth c s₁ B hml hv
  obtain ⟨rfl, hsz, hP, hKK, hD0⟩ := hv
  have hx := B.exec
  have hb := B.bytes
  have hr := B.returns
  have hts := atoms_spec (ws := wsX11_shelf) B.pre
  have hown : s.vm.findClass RX11 = some m.cls := findClass_of_methodNamed B.named
  have hlocks := B.notSynchronized
  have hK := hKK.1
  have hin11 : ∀ w ∈ wsX110, w ∈ wsX11_shelf := by decide +kernel
  subst hsz
  have hD := hD0.self (sz := s.heap.size)
  obtain ⟨A, hAe⟩ : ∃ A, A = va_A (wX cI cS a na nc N L u0) s.heap.size := ⟨_, rfl⟩
  rw [← hAe] at hD
  have hA : ∀ q : Nat, s.heap.size ≤ q → A q := fun q h => by rw [hAe]; exact Or.inr h
  have hS : va_S A s.heap s.heap [] := va_S.rf
  have hl := lv_entry ([.ref (a 0), .int x0, .int x1, .int x2]) (n := 4) (Nat.le_of_ble_eq_true rfl)
  rw [lg_entry_eq]
  generalize (lg_sl ([.ref (a 0), .int x0, .int x1, .int x2]) ++ List.replicate (4 - (lg_sl ([.ref (a 0), .int x0, .int x1, .int x2])).length) Slot.unset).toArray = ls at hl ⊢
  have hl : lv_has ls 4 [(0, .ref (a 0)), (1, .int x0), (2, .int x1), (3, .int x2)] := hl
  obtain ⟨u, hu9⟩ : ∃ u : SU, u = u0 := ⟨_, rfl⟩
  rw [← hu9] at hP hD
  refine lv_iload_n hx hb dX11_shelf_0 rfl (lv_at hl 1 rfl) ?_
  refine lz_ss (As := [.int x0]) (rest := []) ⟨hx, hb, hml, hown, hts⟩ (k_X11_isShelf l D cI cS x0) hKK (hP.sub (ws' := []) [] rfl) (va_cwS 1 hts gX11_shelf_X11_isShelf rfl rfl rfl (by decide +kernel) ⟨Nat.le_of_ble_eq_true rfl, Nat.le_of_ble_eq_true rfl⟩) rfl hl.1 rfl (Nat.le_of_ble_eq_true rfl) dX11_shelf_1 ⟨Nat.le_of_ble_eq_true rfl, Nat.le_of_ble_eq_true rfl⟩ (fun r47222 hr47222 => ?_)
  refine lv_if_ne (tgt := 10) hx hb dX11_shelf_4 (by decide) (fun c47223 => ?_) (fun c47223 => ?_)
  · have g47224 : Rg 0 3 x0 := (hr47222.2 c47223)
    have g47225 : Rg 1 1 r47222 := rg_ne_lo (k := 0) hr47222.1 (by decide) c47223 (by decide)
    refine lv_iload_n hx hb dX11_shelf_10 rfl (lv_at hl 2 rfl) ?_
    by_cases k47226 : x1 = 0
    · refine lz_top (y := 0) k47226 ?_
      refine lv_tableIn (tgt := 48) (off := 37) hx hb dX11_shelf_11 (by decide) (by decide) rfl (by decide) ?_
      refine lv_aload_n hx hb dX11_shelf_48 rfl (lv_at hl 0 rfl) ?_
      refine lv_iload_n hx hb dX11_shelf_49 rfl (lv_at hl 1 rfl) ?_
      refine lv_iload_n hx hb dX11_shelf_50 rfl (lv_at hl 3 rfl) ?_
      refine wk_qi (wX cI cS a na nc N L) u (As := [.int x0, .int x2]) (rest := []) ⟨hx, hb, hml, hown, hts⟩ (k_X11_shelvePoint l D cI cS _ a na nc N L u hL hN x0 x2) hKK hP hD hS hA 0 (ci := 11) rfl rfl (cwV 2 hts gX11_shelf_X11_shelvePoint rfl rfl rfl (by decide +kernel) ⟨Nat.le_of_ble_eq_true rfl, Nat.le_of_ble_eq_true rfl⟩) rfl hl.1 rfl (Nat.le_of_ble_eq_true rfl) dX11_shelf_51 ⟨Nat.le_of_ble_eq_true rfl, Nat.le_of_ble_eq_true rfl⟩ (fun r47227 u H locs hr47227 hP hD hS => ?_)
      subst hAe
      exact W.iret (v := r47227) hx hb hr (fun t ht hW => ⟨⟨_, u, rfl, ⟨(show Rg (-11) 1 r47227 from rg_w hr47227.1 (by decide) (by decide)), trivial⟩, by rw [ht]; exact hP, hD⟩, hS.F ht⟩) hS.2.2 dX11_shelf_54
    by_cases k47228 : x1 = 1
    · refine lz_top (y := 1) k47228 ?_
      refine lv_tableIn (tgt := 55) (off := 44) hx hb dX11_shelf_11 (by decide) (by decide) rfl (by decide) ?_
      refine lv_aload_n hx hb dX11_shelf_55 rfl (lv_at hl 0 rfl) ?_
      refine lv_iload_n hx hb dX11_shelf_56 rfl (lv_at hl 1 rfl) ?_
      refine lv_iconst (v := 4) hx hb dX11_shelf_57 (by decide) ?_
      refine lv_iconst (v := 0) hx hb dX11_shelf_58 (by decide) ?_
      refine lv_iload_n hx hb dX11_shelf_59 rfl (lv_at hl 3 rfl) ?_
      refine wk_qi (wX cI cS a na nc N L) u (As := [.int x0, .int 4, .int 0, .int x2]) (rest := []) ⟨hx, hb, hml, hown, hts⟩ (k_X11_shelvePiece l D cI cS _ a na nc N L u hL hN x0 (4 : Int32) (0 : Int32) x2) hKK hP hD hS hA 0 (ci := 11) rfl rfl (cwV 4 hts gX11_shelf_X11_shelvePiece rfl rfl rfl (by decide +kernel) ⟨Nat.le_of_ble_eq_true rfl, Nat.le_of_ble_eq_true rfl⟩) rfl hl.1 rfl (Nat.le_of_ble_eq_true rfl) dX11_shelf_60 ⟨Nat.le_of_ble_eq_true rfl, Nat.le_of_ble_eq_true rfl⟩ (fun r47229 u H locs hr47229 hP hD hS => ?_)
      subst hAe
      exact W.iret (v := r47229) hx hb hr (fun t ht hW => ⟨⟨_, u, rfl, ⟨(show Rg (-11) 1 r47229 from rg_w hr47229.1 (by decide) (by decide)), trivial⟩, by rw [ht]; exact hP, hD⟩, hS.F ht⟩) hS.2.2 dX11_shelf_63
    by_cases k47230 : x1 = 2
    · refine lz_top (y := 2) k47230 ?_
      refine lv_tableIn (tgt := 64) (off := 53) hx hb dX11_shelf_11 (by decide) (by decide) rfl (by decide) ?_
      refine lv_aload_n hx hb dX11_shelf_64 rfl (lv_at hl 0 rfl) ?_
      refine lv_iload_n hx hb dX11_shelf_65 rfl (lv_at hl 1 rfl) ?_
      refine lv_iconst (v := 5) hx hb dX11_shelf_66 (by decide) ?_
      refine lv_iconst (v := 2) hx hb dX11_shelf_67 (by decide) ?_
      refine lv_iload_n hx hb dX11_shelf_68 rfl (lv_at hl 3 rfl) ?_
      refine wk_qi (wX cI cS a na nc N L) u (As := [.int x0, .int 5, .int 2, .int x2]) (rest := []) ⟨hx, hb, hml, hown, hts⟩ (k_X11_shelvePiece l D cI cS _ a na nc N L u hL hN x0 (5 : Int32) (2 : Int32) x2) hKK hP hD hS hA 0 (ci := 11) rfl rfl (cwV 4 hts gX11_shelf_X11_shelvePiece rfl rfl rfl (by decide +kernel) ⟨Nat.le_of_ble_eq_true rfl, Nat.le_of_ble_eq_true rfl⟩) rfl hl.1 rfl (Nat.le_of_ble_eq_true rfl) dX11_shelf_69 ⟨Nat.le_of_ble_eq_true rfl, Nat.le_of_ble_eq_true rfl⟩ (fun r47231 u H locs hr47231 hP hD hS => ?_)
      subst hAe
      exact W.iret (v := r47231) hx hb hr (fun t ht hW => ⟨⟨_, u, rfl, ⟨(show Rg (-11) 1 r47231 from rg_w hr47231.1 (by decide) (by decide)), trivial⟩, by rw [ht]; exact hP, hD⟩, hS.F ht⟩) hS.2.2 dX11_shelf_72
    by_cases k47232 : x1 = 3
    · refine lz_top (y := 3) k47232 ?_
      refine lv_tableIn (tgt := 73) (off := 62) hx hb dX11_shelf_11 (by decide) (by decide) rfl (by decide) ?_
      refine lv_aload_n hx hb dX11_shelf_73 rfl (lv_at hl 0 rfl) ?_
      refine lv_iload_n hx hb dX11_shelf_74 rfl (lv_at hl 1 rfl) ?_
      refine lv_iload_n hx hb dX11_shelf_75 rfl (lv_at hl 3 rfl) ?_
      refine wk_qi (wX cI cS a na nc N L) u (As := [.int x0, .int x2]) (rest := []) ⟨hx, hb, hml, hown, hts⟩ (k_X11_shelveArea l D cI cS _ a na nc N L u hL hN x0 x2) hKK hP hD hS hA 0 (ci := 11) rfl rfl (cwV 2 hts gX11_shelf_X11_shelveArea rfl rfl rfl (by decide +kernel) ⟨Nat.le_of_ble_eq_true rfl, Nat.le_of_ble_eq_true rfl⟩) rfl hl.1 rfl (Nat.le_of_ble_eq_true rfl) dX11_shelf_76 ⟨Nat.le_of_ble_eq_true rfl, Nat.le_of_ble_eq_true rfl⟩ (fun r47233 u H locs hr47233 hP hD hS => ?_)
      subst hAe
      exact W.iret (v := r47233) hx hb hr (fun t ht hW => ⟨⟨_, u, rfl, ⟨(show Rg (-11) 1 r47233 from rg_w hr47233.1 (by decide) (by decide)), trivial⟩, by rw [ht]; exact hP, hD⟩, hS.F ht⟩) hS.2.2 dX11_shelf_79
    by_cases k47234 : x1 = 4
    · refine lz_top (y := 4) k47234 ?_
      refine lv_tableIn (tgt := 80) (off := 69) hx hb dX11_shelf_11 (by decide) (by decide) rfl (by decide) ?_
      refine lv_aload_n hx hb dX11_shelf_80 rfl (lv_at hl 0 rfl) ?_
      refine lv_iload_n hx hb dX11_shelf_81 rfl (lv_at hl 1 rfl) ?_
      refine lv_iload_n hx hb dX11_shelf_82 rfl (lv_at hl 3 rfl) ?_
      refine wk_qi (wX cI cS a na nc N L) u (As := [.int x0, .int x2]) (rest := []) ⟨hx, hb, hml, hown, hts⟩ (k_X11_shelveRow l D cI cS _ a na nc N L u hL hN x0 x2) hKK hP hD hS hA 0 (ci := 11) rfl rfl (cwV 2 hts gX11_shelf_X11_shelveRow rfl rfl rfl (by decide +kernel) ⟨Nat.le_of_ble_eq_true rfl, Nat.le_of_ble_eq_true rfl⟩) rfl hl.1 rfl (Nat.le_of_ble_eq_true rfl) dX11_shelf_83 ⟨Nat.le_of_ble_eq_true rfl, Nat.le_of_ble_eq_true rfl⟩ (fun r47235 u H locs hr47235 hP hD hS => ?_)
      subst hAe
      exact W.iret (v := r47235) hx hb hr (fun t ht hW => ⟨⟨_, u, rfl, ⟨hr47235.1, trivial⟩, by rw [ht]; exact hP, hD⟩, hS.F ht⟩) hS.2.2 dX11_shelf_86
    by_cases k47236 : x1 = 5
    · refine lz_top (y := 5) k47236 ?_
      refine lv_tableIn (tgt := 87) (off := 76) hx hb dX11_shelf_11 (by decide) (by decide) rfl (by decide) ?_
      refine lv_aload_n hx hb dX11_shelf_87 rfl (lv_at hl 0 rfl) ?_
      refine va_get (D := D) (ci := 11) (v := .ref (a 42)) (C := RX11) (T := TX11) (N := 16) hx hb hts hin11 hown hK hP 0 rfl rfl 15 (by decide) (hts (.fieldLink RX11 92 "MissedPoints" "shelves" "LMissedPoints$Shelves;") (by decide +kernel)) (fun _ h9 => h9) rfl dX11_shelf_88 ?_
      refine lv_iload_n hx hb dX11_shelf_91 rfl (lv_at hl 1 rfl) ?_
      refine lv_iconst (v := (-1)) hx hb dX11_shelf_92 (by decide) ?_
      refine lv_iconst (v := 0) hx hb dX11_shelf_93 (by decide) ?_
      refine wk_qi (wX cI cS a na nc N L) u (As := [.int x0, .int (-1), .int 0]) (rest := []) ⟨hx, hb, hml, hown, hts⟩ (k_X7_put l D cI cS _ a na nc N L u hL hN x0 ((-1) : Int32) (0 : Int32)) hKK hP hD hS hA 42 (ci := 7) rfl rfl (cwV 3 hts gX11_shelf_X7_put rfl rfl rfl (by decide +kernel) ⟨Nat.le_of_ble_eq_true rfl, Nat.le_of_ble_eq_true rfl⟩) rfl hl.1 rfl (Nat.le_of_ble_eq_true rfl) dX11_shelf_94 ⟨Nat.le_of_ble_eq_true rfl, Nat.le_of_ble_eq_true rfl⟩ (fun r47237 u H locs hr47237 hP hD hS => ?_)
      subst hAe
      exact W.iret (v := r47237) hx hb hr (fun t ht hW => ⟨⟨_, u, rfl, ⟨(show Rg (-11) 1 r47237 from rg_w hr47237.1 (by decide) (by decide)), trivial⟩, by rw [ht]; exact hP, hD⟩, hS.F ht⟩) hS.2.2 dX11_shelf_97
    refine lv_tableOut (tgt := 98) hx hb dX11_shelf_11 (by have z0 : ¬ x1.toInt = 0 := fun z => k47226 (Int32.toInt_inj.mp (z.trans (by decide : (0 : Int) = (0 : Int32).toInt))); have z1 : ¬ x1.toInt = 1 := fun z => k47228 (Int32.toInt_inj.mp (z.trans (by decide : (1 : Int) = (1 : Int32).toInt))); have z2 : ¬ x1.toInt = 2 := fun z => k47230 (Int32.toInt_inj.mp (z.trans (by decide : (2 : Int) = (2 : Int32).toInt))); have z3 : ¬ x1.toInt = 3 := fun z => k47232 (Int32.toInt_inj.mp (z.trans (by decide : (3 : Int) = (3 : Int32).toInt))); have z4 : ¬ x1.toInt = 4 := fun z => k47234 (Int32.toInt_inj.mp (z.trans (by decide : (4 : Int) = (4 : Int32).toInt))); have z5 : ¬ x1.toInt = 5 := fun z => k47236 (Int32.toInt_inj.mp (z.trans (by decide : (5 : Int) = (5 : Int32).toInt))); omega) (by decide) ?_
    refine lv_bipush (v := (-2)) hx hb dX11_shelf_98 (by decide) ?_
    subst hAe
    exact W.iret (v := (-2)) hx hb hr (fun t ht hW => ⟨⟨_, u, rfl, ⟨(by decide : Rg (-11) 1 ((-2) : Int32)), trivial⟩, by rw [ht]; exact hP, hD⟩, hS.F ht⟩) hS.2.2 dX11_shelf_100
  · have g47238 : Rg 0 0 r47222 := wk_eql hr47222.1 (by decide : Rg 0 0 (0 : Int32)) c47223 (by decide)
    refine lv_bipush (v := (-2)) hx hb dX11_shelf_7 (by decide) ?_
    subst hAe
    exact W.iret (v := (-2)) hx hb hr (fun t ht hW => ⟨⟨_, u, rfl, ⟨(by decide : Rg (-11) 1 ((-2) : Int32)), trivial⟩, by rw [ht]; exact hP, hD⟩, hS.F ht⟩) hS.2.2 dX11_shelf_9
set_option maxRecDepth 20000 in
theorem ggX11_refusalOfNumber_X6_hasRange : GoodIn wsX11_refusalOfNumber wsX6_hasRange := goodIn_r _ [19, 20, 37, 38, 39] rfl (by decide +kernel)
set_option maxRecDepth 20000 in
theorem gX11_refusalOfNumber_X6_hasRange : GoodIn wsX11_refusalOfNumber (wsV RX11 344 RX6 yX6_hasRange wsX6_hasRange) := goodIn_app (goodIn_of _ (by decide +kernel)) ggX11_refusalOfNumber_X6_hasRange
theorem dX11_refusalOfNumber_12 : decode cX11_refusalOfNumber 12 = .ok (.aload_n 0, 1) := by decide +kernel
theorem dX11_refusalOfNumber_13 : decode cX11_refusalOfNumber 13 = .ok (.getfield 75, 3) := by decide +kernel
theorem dX11_refusalOfNumber_16 : decode cX11_refusalOfNumber 16 = .ok (.iload_n 1, 1) := by decide +kernel
theorem dX11_refusalOfNumber_17 : decode cX11_refusalOfNumber 17 = .ok (.aaload, 1) := by decide +kernel
theorem dX11_refusalOfNumber_18 : decode cX11_refusalOfNumber 18 = .ok (.iload_n 2, 1) := by decide +kernel
theorem dX11_refusalOfNumber_19 : decode cX11_refusalOfNumber 19 = .ok (.iconst 1, 1) := by decide +kernel
theorem dX11_refusalOfNumber_20 : decode cX11_refusalOfNumber 20 = .ok (.invokevirtual 344, 3) := by decide +kernel
theorem dX11_refusalOfNumber_23 : decode cX11_refusalOfNumber 23 = .ok (.ifCond .eq 7, 3) := by decide +kernel
theorem dX11_refusalOfNumber_26 : decode cX11_refusalOfNumber 26 = .ok (.iconst 0, 1) := by decide +kernel
theorem dX11_refusalOfNumber_27 : decode cX11_refusalOfNumber 27 = .ok (.goto 5, 3) := by decide +kernel
theorem dX11_refusalOfNumber_30 : decode cX11_refusalOfNumber 30 = .ok (.bipush (-12), 2) := by decide +kernel
theorem dX11_refusalOfNumber_32 : decode cX11_refusalOfNumber 32 = .ok (.ireturn, 1) := by decide +kernel
set_option maxHeartbeats 4000000 in
set_option maxRecDepth 100000 in
theorem k_X11_refusalOfNumber (l : Launch) (D : va_G) (cI cS : ClassId) (a : Nat → Nat) (na nc N : Nat) (L u : SU) (hL : TyX L) (hN : N = 0 ∨ N = 24576) (x0 x1 : Int32) : Met l yX11_refusalOfNumber wsX11_refusalOfNumber ({ frames := 2, cells := 0, slots := 0, locals := 80 }) (PS D cI cS (wX cI cS a na nc N L u) [.ref (a 0), .int x0, .int x1]) (vp_Si (fun r => Rg (-12) 0 r ∧ (r = 0 → Rg 0 3 x0 ∧ Rg 0 39 x1))) 0 0 (fun _ => False) := by
  refine Met.ofW (cc := cX11_refusalOfNumber) (maxL := 4) (ret := (some .int)) (by decide) rfl ?_
  intro p e s m args below meth c s₁ B hml hv
  obtain ⟨rfl, hP, hKK⟩ := hv
  have hx := B.exec
  have hb := B.bytes
  have hr := B.returns
  have hts := atoms_spec (ws := wsX11_refusalOfNumber) B.pre
  have hown : s.vm.findClass RX11 = some m.cls := findClass_of_methodNamed B.named
  have hlocks := B.notSynchronized
  have hK := hKK.1
  have hin11 : ∀ w ∈ wsX110, w ∈ wsX11_refusalOfNumber := by decide +kernel
  have hl := lv_entry ([.ref (a 0), .int x0, .int x1]) (n := 4) (Nat.le_of_ble_eq_true rfl)
  rw [lg_entry_eq]
  generalize (lg_sl ([.ref (a 0), .int x0, .int x1]) ++ List.replicate (4 - (lg_sl ([.ref (a 0), .int x0, .int x1])).length) Slot.unset).toArray = ls at hl ⊢
  have hl : lv_has ls 4 [(0, .ref (a 0)), (1, .int x0), (2, .int x1)] := hl
  refine lv_aload_n hx hb dX11_refusalOfNumber_0 rfl (lv_at hl 0 rfl) ?_
  refine lv_iload_n hx hb dX11_refusalOfNumber_1 rfl (lv_at hl 1 rfl) ?_
  refine wk_sv 0 (As := [.int x0]) (rest := []) ⟨hx, hb, hml, hown, hts⟩ (k_X11_refusalOfSheet l D cI cS a na nc N L u hL hN x0) hKK hP (ci := 11) rfl rfl (cwV 1 hts gX11_refusalOfNumber_X11_refusalOfSheet rfl rfl rfl (by decide +kernel) ⟨Nat.le_of_ble_eq_true rfl, Nat.le_of_ble_eq_true rfl⟩) rfl hl.1 rfl (Nat.le_of_ble_eq_true rfl) dX11_refusalOfNumber_2 ⟨Nat.le_of_ble_eq_true rfl, Nat.le_of_ble_eq_true rfl⟩ (fun r47250 hr47250 => ?_)
  refine lv_istore_n (lv' := [(3, .int r47250), (0, .ref (a 0)), (1, .int x0), (2, .int x1)]) hx hb dX11_refusalOfNumber_5 rfl hl (by decide) rfl (fun ls hl => ?_)
  refine lv_iload_n hx hb dX11_refusalOfNumber_6 rfl (lv_at hl 0 rfl) ?_
  refine lv_if_eq (tgt := 12) hx hb dX11_refusalOfNumber_7 (by decide) (fun c47251 => ?_) (fun c47251 => ?_)
  · have g47252 : Rg 0 3 x0 := (hr47250.2 c47251)
    have g47253 : Rg 0 0 r47250 := wk_eql hr47250.1 (by decide : Rg 0 0 (0 : Int32)) c47251 (by decide)
    refine lv_aload_n hx hb dX11_refusalOfNumber_12 rfl (lv_at hl 1 rfl) ?_
    refine va_get (D := D) (ci := 11) (v := .ref (a 25)) (C := RX11) (T := TX11) (N := 16) hx hb hts hin11 hown hK hP 0 rfl rfl 12 (by decide) (hts (.fieldLink RX11 75 "MissedPoints" "sheets" "[LMissedPoints$Sheet;") (by decide +kernel)) (fun _ h9 => h9) rfl dX11_refusalOfNumber_13 ?_
    refine lv_iload_n hx hb dX11_refusalOfNumber_16 rfl (lv_at hl 2 rfl) ?_
    obtain ⟨q47254, hq47254, eq47254, zq47254⟩ := ks_sh (a := a) g47252
    refine va_aldq hx hb hK hP 25 1 rfl rfl (rg_in g47252 (by decide) (by decide)) dX11_refusalOfNumber_17 ?_
    refine lz_va (y := .ref (a (26 + 2 * q47254))) (by show va_rf _ = _; rw [zq47254]; rfl) ?_
    refine lv_iload_n hx hb dX11_refusalOfNumber_18 rfl (lv_at hl 3 rfl) ?_
    refine lv_iconst (v := 1) hx hb dX11_refusalOfNumber_19 (by decide) ?_
    refine wk_sv (26 + 2 * q47254) (As := [.int x1, .int 1]) (rest := []) ⟨hx, hb, hml, hown, hts⟩ (k_X6_hasRange_1 l D cI cS a na nc N L u hL hN q47254 hq47254 x1 (1 : Int32) (by decide : Rg 1 1 (1 : Int32))) hKK hP (ci := 6) rfl (gx_sh hq47254) (cwV 2 hts gX11_refusalOfNumber_X6_hasRange rfl rfl rfl (by decide +kernel) ⟨Nat.le_of_ble_eq_true rfl, Nat.le_of_ble_eq_true rfl⟩) rfl hl.1 rfl (Nat.le_of_ble_eq_true rfl) dX11_refusalOfNumber_20 ⟨Nat.le_of_ble_eq_true rfl, Nat.le_of_ble_eq_true rfl⟩ (fun r47255 hr47255 => ?_)
    refine lv_if_eq (tgt := 30) hx hb dX11_refusalOfNumber_23 (by decide) (fun c47256 => ?_) (fun c47256 => ?_)
    · have g47257 : Rg 0 0 r47255 := wk_eql hr47255.1 (by decide : Rg 0 0 (0 : Int32)) c47256 (by decide)
      refine lv_bipush (v := (-12)) hx hb dX11_refusalOfNumber_30 (by decide) ?_
      exact W.iret (v := (-12)) hx hb hr (fun t ht hW => ⟨_, rfl, ⟨(by decide : Rg (-12) 0 ((-12) : Int32)), fun h9 => absurd h9 (by decide)⟩, ht⟩) (fun q hq => absurd hq List.not_mem_nil) dX11_refusalOfNumber_32
    · have g47258 : Rg 0 39 x1 := (hr47255.2 c47256)
      have g47259 : Rg 1 1 r47255 := rg_ne_lo (k := 0) hr47255.1 (by decide) c47256 (by decide)
      refine lv_iconst (v := 0) hx hb dX11_refusalOfNumber_26 (by decide) ?_
      refine lv_goto (tgt := 32) hx hb dX11_refusalOfNumber_27 (by decide) ?_
      exact W.iret (v := 0) hx hb hr (fun t ht hW => ⟨_, rfl, ⟨(by decide : Rg (-12) 0 (0 : Int32)), fun _ => ⟨g47252, g47258⟩⟩, ht⟩) (fun q hq => absurd hq List.not_mem_nil) dX11_refusalOfNumber_32
  · have g47260 : Rg (-11) (-1) r47250 := rg_ne_hi (k := 0) hr47250.1 (by decide) c47251 (by decide)
    refine lv_iload_n hx hb dX11_refusalOfNumber_10 rfl (lv_at hl 0 rfl) ?_
    exact W.iret (v := r47250) hx hb hr (fun t ht hW => ⟨_, rfl, ⟨(show Rg (-12) 0 r47250 from rg_w g47260 (by decide) (by decide)), fun h9 => absurd h9 (wk_nz g47260 (by decide))⟩, ht⟩) (fun q hq => absurd hq List.not_mem_nil) dX11_refusalOfNumber_11
set_option maxRecDepth 20000 in
theorem ggX11_write_X6_store : GoodIn wsX11_write wsX6_store := goodIn_r _ [28, 29, 19, 30, 21, 22, 17, 23, 24, 47, 48, 49] rfl (by decide +kernel)
set_option maxRecDepth 20000 in
theorem gX11_write_X6_store : GoodIn wsX11_write (wsV RX11 338 RX6 yX6_store wsX6_store) := goodIn_app (goodIn_of _ (by decide +kernel)) ggX11_write_X6_store
theorem dX11_write_16 : decode cX11_write 16 = .ok (.aload_n 0, 1) := by decide +kernel
theorem dX11_write_17 : decode cX11_write 17 = .ok (.getfield 75, 3) := by decide +kernel
theorem dX11_write_20 : decode cX11_write 20 = .ok (.iload_n 1, 1) := by decide +kernel
theorem dX11_write_21 : decode cX11_write 21 = .ok (.aaload, 1) := by decide +kernel
theorem dX11_write_22 : decode cX11_write 22 = .ok (.iload_n 2, 1) := by decide +kernel
theorem dX11_write_23 : decode cX11_write 23 = .ok (.iload_n 3, 1) := by decide +kernel
theorem dX11_write_24 : decode cX11_write 24 = .ok (.invokevirtual 338, 3) := by decide +kernel
theorem dX11_write_27 : decode cX11_write 27 = .ok (.iconst 1, 1) := by decide +kernel
theorem dX11_write_28 : decode cX11_write 28 = .ok (.ireturn, 1) := by decide +kernel
set_option maxHeartbeats 4000000 in
set_option maxRecDepth 100000 in
theorem k_X11_write (l : Launch) (D : va_G) (cI cS : ClassId) (sz : Nat) (a : Nat → Nat) (na nc N : Nat) (L u0 : SU) (hL : TyX L) (hN : N = 0 ∨ N = 24576) (x0 x1 x2 : Int32) : Met l yX11_write wsX11_write ({ frames := 3, cells := 0, slots := 0, locals := 120 }) (PQ D cI cS (wX cI cS a na nc N L u0) sz [.ref (a 0), .int x0, .int x1, .int x2]) (QF (S := SU) D (wX cI cS a na nc N L u0) (wX cI cS a na nc N L) sz (fun r _ => Rg (-12) 1 r ∧ True)) 0 0 (va_A (wX cI cS a na nc N L u0) sz) := by
  refine Met.ofW (cc := cX11_write) (maxL := 5) (ret := (some .int)) (by decide) rfl ?_
  intro p e s m args below meth c s₁ B hml hv
  obtain ⟨rfl, hsz, hP, hKK, hD0⟩ := hv
  have hx := B.exec
  have hb := B.bytes
  have hr := B.returns
  have hts := atoms_spec (ws := wsX11_write) B.pre
  have hown : s.vm.findClass RX11 = some m.cls := findClass_of_methodNamed B.named
  have hlocks := B.notSynchronized
  have hK := hKK.1
  have hin11 : ∀ w ∈ wsX110, w ∈ wsX11_write := by decide +kernel
  subst hsz
  have hD := hD0.self (sz := s.heap.size)
  obtain ⟨A, hAe⟩ : ∃ A, A = va_A (wX cI cS a na nc N L u0) s.heap.size := ⟨_, rfl⟩
  rw [← hAe] at hD
  have hA : ∀ q : Nat, s.heap.size ≤ q → A q := fun q h => by rw [hAe]; exact Or.inr h
  have hS : va_S A s.heap s.heap [] := va_S.rf
  have hl := lv_entry ([.ref (a 0), .int x0, .int x1, .int x2]) (n := 5) (Nat.le_of_ble_eq_true rfl)
  rw [lg_entry_eq]
  generalize (lg_sl ([.ref (a 0), .int x0, .int x1, .int x2]) ++ List.replicate (5 - (lg_sl ([.ref (a 0), .int x0, .int x1, .int x2])).length) Slot.unset).toArray = ls at hl ⊢
  have hl : lv_has ls 5 [(0, .ref (a 0)), (1, .int x0), (2, .int x1), (3, .int x2)] := hl
  obtain ⟨u, hu9⟩ : ∃ u : SU, u = u0 := ⟨_, rfl⟩
  rw [← hu9] at hP hD
  refine lv_aload_n hx hb dX11_write_0 rfl (lv_at hl 0 rfl) ?_
  refine lv_iload_n hx hb dX11_write_1 rfl (lv_at hl 1 rfl) ?_
  refine lv_iload_n hx hb dX11_write_2 rfl (lv_at hl 2 rfl) ?_
  refine wk_sv 0 (As := [.int x0, .int x1]) (rest := []) ⟨hx, hb, hml, hown, hts⟩ (k_X11_refusalOfNumber l D cI cS a na nc N L u hL hN x0 x1) hKK hP (ci := 11) rfl rfl (cwV 2 hts gX11_write_X11_refusalOfNumber rfl rfl rfl (by decide +kernel) ⟨Nat.le_of_ble_eq_true rfl, Nat.le_of_ble_eq_true rfl⟩) rfl hl.1 rfl (Nat.le_of_ble_eq_true rfl) dX11_write_3 ⟨Nat.le_of_ble_eq_true rfl, Nat.le_of_ble_eq_true rfl⟩ (fun r47269 hr47269 => ?_)
  refine lv_istore (lv' := [(4, .int r47269), (0, .ref (a 0)), (1, .int x0), (2, .int x1), (3, .int x2)]) hx hb dX11_write_6 hl (by decide) rfl (fun ls hl => ?_)
  refine lv_iload hx hb dX11_write_8 (lv_at hl 0 rfl) ?_
  refine lv_if_eq (tgt := 16) hx hb dX11_write_10 (by decide) (fun c47270 => ?_) (fun c47270 => ?_)
  · have g47271 : Rg 0 3 x0 := (hr47269.2 c47270).1
    have g47272 : Rg 0 39 x1 := (hr47269.2 c47270).2
    have g47273 : Rg 0 0 r47269 := wk_eql hr47269.1 (by decide : Rg 0 0 (0 : Int32)) c47270 (by decide)
    refine lv_aload_n hx hb dX11_write_16 rfl (lv_at hl 1 rfl) ?_
    refine va_get (D := D) (ci := 11) (v := .ref (a 25)) (C := RX11) (T := TX11) (N := 16) hx hb hts hin11 hown hK hP 0 rfl rfl 12 (by decide) (hts (.fieldLink RX11 75 "MissedPoints" "sheets" "[LMissedPoints$Sheet;") (by decide +kernel)) (fun _ h9 => h9) rfl dX11_write_17 ?_
    refine lv_iload_n hx hb dX11_write_20 rfl (lv_at hl 2 rfl) ?_
    obtain ⟨q47274, hq47274, eq47274, zq47274⟩ := ks_sh (a := a) g47271
    refine va_aldq hx hb hK hP 25 1 rfl rfl (rg_in g47271 (by decide) (by decide)) dX11_write_21 ?_
    refine lz_va (y := .ref (a (26 + 2 * q47274))) (by show va_rf _ = _; rw [zq47274]; rfl) ?_
    refine lv_iload_n hx hb dX11_write_22 rfl (lv_at hl 3 rfl) ?_
    refine lv_iload_n hx hb dX11_write_23 rfl (lv_at hl 4 rfl) ?_
    refine wk_qv (wX cI cS a na nc N L) u (As := [.int x1, .int x2]) (rest := []) ⟨hx, hb, hml, hown, hts⟩ (k_X6_store l D cI cS _ a na nc N L u hL hN q47274 hq47274 x1 x2) hKK hP hD hS hA (26 + 2 * q47274) (ci := 6) rfl (gx_sh hq47274) (cwV 2 hts gX11_write_X6_store rfl rfl rfl (by decide +kernel) ⟨Nat.le_of_ble_eq_true rfl, Nat.le_of_ble_eq_true rfl⟩) rfl hl.1 rfl (Nat.le_of_ble_eq_true rfl) dX11_write_24 ⟨Nat.le_of_ble_eq_true rfl, Nat.le_of_ble_eq_true rfl⟩ (fun u H locs hr47275 hP hD hS => ?_)
    refine lv_iconst (v := 1) hx hb dX11_write_27 (by decide) ?_
    subst hAe
    exact W.iret (v := 1) hx hb hr (fun t ht hW => ⟨⟨_, u, rfl, ⟨(by decide : Rg (-12) 1 (1 : Int32)), trivial⟩, by rw [ht]; exact hP, hD⟩, hS.F ht⟩) hS.2.2 dX11_write_28
  · have g47276 : Rg (-12) (-1) r47269 := rg_ne_hi (k := 0) hr47269.1 (by decide) c47270 (by decide)
    refine lv_iload hx hb dX11_write_13 (lv_at hl 0 rfl) ?_
    subst hAe
    exact W.iret (v := r47269) hx hb hr (fun t ht hW => ⟨⟨_, u, rfl, ⟨(show Rg (-12) 1 r47269 from rg_w g47276 (by decide) (by decide)), trivial⟩, by rw [ht]; exact hP, hD⟩, hS.F ht⟩) hS.2.2 dX11_write_15
set_option maxRecDepth 20000 in
theorem ggX11_item_X6_at : GoodIn wsX11_item wsX6_at := goodIn_r _ [28, 29, 30, 21, 22, 17, 23, 24, 47, 48, 49] rfl (by decide +kernel)
set_option maxRecDepth 20000 in
theorem gX11_item_X6_at : GoodIn wsX11_item (wsV RX11 341 RX6 yX6_at wsX6_at) := goodIn_app (goodIn_of _ (by decide +kernel)) ggX11_item_X6_at
theorem dX11_item_15 : decode cX11_item 15 = .ok (.aload_n 0, 1) := by decide +kernel
theorem dX11_item_16 : decode cX11_item 16 = .ok (.getfield 75, 3) := by decide +kernel
theorem dX11_item_19 : decode cX11_item 19 = .ok (.iload_n 1, 1) := by decide +kernel
theorem dX11_item_20 : decode cX11_item 20 = .ok (.aaload, 1) := by decide +kernel
theorem dX11_item_21 : decode cX11_item 21 = .ok (.iload_n 2, 1) := by decide +kernel
theorem dX11_item_22 : decode cX11_item 22 = .ok (.invokevirtual 341, 3) := by decide +kernel
set_option maxHeartbeats 4000000 in
set_option maxRecDepth 100000 in
theorem k_X11_item (l : Launch) (D : va_G) (cI cS : ClassId) (a : Nat → Nat) (na nc N : Nat) (L u : SU) (hL : TyX L) (hN : N = 0 ∨ N = 24576) (x0 x1 : Int32) : Met l yX11_item wsX11_item ({ frames := 3, cells := 0, slots := 0, locals := 120 }) (PS D cI cS (wX cI cS a na nc N L u) [.ref (a 0), .int x0, .int x1]) (vp_Si (fun r => Rg (-2147483648) 2147483647 r ∧ True)) 0 0 (fun _ => False) := by
  refine Met.ofW (cc := cX11_item) (maxL := 4) (ret := (some .int)) (by decide) rfl ?_
  intro p e s m args below meth c s₁ B hml hv
  obtain ⟨rfl, hP, hKK⟩ := hv
  have hx := B.exec
  have hb := B.bytes
  have hr := B.returns
  have hts := atoms_spec (ws := wsX11_item) B.pre
  have hown : s.vm.findClass RX11 = some m.cls := findClass_of_methodNamed B.named
  have hlocks := B.notSynchronized
  have hK := hKK.1
  have hin11 : ∀ w ∈ wsX110, w ∈ wsX11_item := by decide +kernel
  have hl := lv_entry ([.ref (a 0), .int x0, .int x1]) (n := 4) (Nat.le_of_ble_eq_true rfl)
  rw [lg_entry_eq]
  generalize (lg_sl ([.ref (a 0), .int x0, .int x1]) ++ List.replicate (4 - (lg_sl ([.ref (a 0), .int x0, .int x1])).length) Slot.unset).toArray = ls at hl ⊢
  have hl : lv_has ls 4 [(0, .ref (a 0)), (1, .int x0), (2, .int x1)] := hl
  refine lv_aload_n hx hb dX11_item_0 rfl (lv_at hl 0 rfl) ?_
  refine lv_iload_n hx hb dX11_item_1 rfl (lv_at hl 1 rfl) ?_
  refine lv_iload_n hx hb dX11_item_2 rfl (lv_at hl 2 rfl) ?_
  refine wk_sv 0 (As := [.int x0, .int x1]) (rest := []) ⟨hx, hb, hml, hown, hts⟩ (k_X11_refusalOfNumber l D cI cS a na nc N L u hL hN x0 x1) hKK hP (ci := 11) rfl rfl (cwV 2 hts gX11_item_X11_refusalOfNumber rfl rfl rfl (by decide +kernel) ⟨Nat.le_of_ble_eq_true rfl, Nat.le_of_ble_eq_true rfl⟩) rfl hl.1 rfl (Nat.le_of_ble_eq_true rfl) dX11_item_3 ⟨Nat.le_of_ble_eq_true rfl, Nat.le_of_ble_eq_true rfl⟩ (fun r47285 hr47285 => ?_)
  refine lv_istore_n (lv' := [(3, .int r47285), (0, .ref (a 0)), (1, .int x0), (2, .int x1)]) hx hb dX11_item_6 rfl hl (by decide) rfl (fun ls hl => ?_)
  refine lv_iload_n hx hb dX11_item_7 rfl (lv_at hl 0 rfl) ?_
  refine lv_if_eq (tgt := 15) hx hb dX11_item_8 (by decide) (fun c47286 => ?_) (fun c47286 => ?_)
  · have g47287 : Rg 0 3 x0 := (hr47285.2 c47286).1
    have g47288 : Rg 0 39 x1 := (hr47285.2 c47286).2
    have g47289 : Rg 0 0 r47285 := wk_eql hr47285.1 (by decide : Rg 0 0 (0 : Int32)) c47286 (by decide)
    refine lv_aload_n hx hb dX11_item_15 rfl (lv_at hl 1 rfl) ?_
    refine va_get (D := D) (ci := 11) (v := .ref (a 25)) (C := RX11) (T := TX11) (N := 16) hx hb hts hin11 hown hK hP 0 rfl rfl 12 (by decide) (hts (.fieldLink RX11 75 "MissedPoints" "sheets" "[LMissedPoints$Sheet;") (by decide +kernel)) (fun _ h9 => h9) rfl dX11_item_16 ?_
    refine lv_iload_n hx hb dX11_item_19 rfl (lv_at hl 2 rfl) ?_
    obtain ⟨q47290, hq47290, eq47290, zq47290⟩ := ks_sh (a := a) g47287
    refine va_aldq hx hb hK hP 25 1 rfl rfl (rg_in g47287 (by decide) (by decide)) dX11_item_20 ?_
    refine lz_va (y := .ref (a (26 + 2 * q47290))) (by show va_rf _ = _; rw [zq47290]; rfl) ?_
    refine lv_iload_n hx hb dX11_item_21 rfl (lv_at hl 3 rfl) ?_
    refine wk_sv (26 + 2 * q47290) (As := [.int x1]) (rest := []) ⟨hx, hb, hml, hown, hts⟩ (k_X6_at l D cI cS a na nc N L u hL hN q47290 hq47290 x1) hKK hP (ci := 6) rfl (gx_sh hq47290) (cwV 1 hts gX11_item_X6_at rfl rfl rfl (by decide +kernel) ⟨Nat.le_of_ble_eq_true rfl, Nat.le_of_ble_eq_true rfl⟩) rfl hl.1 rfl (Nat.le_of_ble_eq_true rfl) dX11_item_22 ⟨Nat.le_of_ble_eq_true rfl, Nat.le_of_ble_eq_true rfl⟩ (fun r47291 hr47291 => ?_)
    exact W.iret (v := r47291) hx hb hr (fun t ht hW => ⟨_, rfl, ⟨hr47291.1, trivial⟩, ht⟩) (fun q hq => absurd hq List.not_mem_nil) dX11_item_25
  · have g47292 : Rg (-12) (-1) r47285 := rg_ne_hi (k := 0) hr47285.1 (by decide) c47286 (by decide)
    refine lv_iload_n hx hb dX11_item_11 rfl (lv_at hl 0 rfl) ?_
    refine lv_goto (tgt := 25) hx hb dX11_item_12 (by decide) ?_
    exact W.iret (v := r47285) hx hb hr (fun t ht hW => ⟨_, rfl, ⟨(rg_any r47285), trivial⟩, ht⟩) (fun q hq => absurd hq List.not_mem_nil) dX11_item_25
