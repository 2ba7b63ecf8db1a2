set_option maxRecDepth 20000 in
theorem ggX9_chainsWith_J6_bitCount_0f7a4 : GoodIn wsX9_chainsWith wsJ6_bitCount_0f7a4 := goodIn_r _ [34, 35, 36, 37] rfl (by decide +kernel)
set_option maxRecDepth 20000 in
theorem gX9_chainsWith_J6_bitCount_0f7a4 : GoodIn wsX9_chainsWith (va_wsS RX9 63 yJ6_bitCount_0f7a4 wsJ6_bitCount_0f7a4) := goodIn_app (goodIn_of _ (by decide +kernel)) ggX9_chainsWith_J6_bitCount_0f7a4
set_option maxRecDepth 20000 in
theorem ggX9_chainsWith_X2_firstPiece : GoodIn wsX9_chainsWith wsX2_firstPiece := goodIn_r _ [19, 20, 21, 22, 23, 24, 25, 26, 27] rfl (by decide +kernel)
set_option maxRecDepth 20000 in
theorem gX9_chainsWith_X2_firstPiece : GoodIn wsX9_chainsWith (va_wsS RX9 98 yX2_firstPiece wsX2_firstPiece) := goodIn_app (goodIn_of _ (by decide +kernel)) ggX9_chainsWith_X2_firstPiece
set_option maxRecDepth 20000 in
theorem ggX9_chainsWith_X9_layUnlike : GoodIn wsX9_chainsWith wsX9_layUnlike := goodIn_r _ [10, 11, 1, 12, 13, 14, 9, 15, 38, 39, 40, 41, 42, 43, 44, 45, 46] rfl (by decide +kernel)
set_option maxRecDepth 20000 in
theorem gX9_chainsWith_X9_layUnlike : GoodIn wsX9_chainsWith (wsV RX9 94 RX9 yX9_layUnlike wsX9_layUnlike) := goodIn_app (goodIn_of _ (by decide +kernel)) ggX9_chainsWith_X9_layUnlike
set_option maxRecDepth 20000 in
theorem ggX9_chainsWith_X9_unlikeLines : GoodIn wsX9_chainsWith wsX9_unlikeLines := goodIn_r _ [31, 11, 1, 32, 33, 22, 34, 35, 36, 37, 38, 39, 40, 41, 42, 43, 44, 45, 46] rfl (by decide +kernel)
set_option maxRecDepth 20000 in
theorem gX9_chainsWith_X9_unlikeLines : GoodIn wsX9_chainsWith (wsV RX9 102 RX9 yX9_unlikeLines wsX9_unlikeLines) := goodIn_app (goodIn_of _ (by decide +kernel)) ggX9_chainsWith_X9_unlikeLines
theorem dX9_chainsWith_0 : decode cX9_chainsWith 0 = .ok (.aload_n 0, 1) := by decide +kernel
theorem dX9_chainsWith_1 : decode cX9_chainsWith 1 = .ok (.aload_n 1, 1) := by decide +kernel
theorem dX9_chainsWith_10 : decode cX9_chainsWith 10 = .ok (.istore 5, 2) := by decide +kernel
theorem dX9_chainsWith_102 : decode cX9_chainsWith 102 = .ok (.iload 6, 2) := by decide +kernel
theorem dX9_chainsWith_104 : decode cX9_chainsWith 104 = .ok (.ireturn, 1) := by decide +kernel
theorem dX9_chainsWith_12 : decode cX9_chainsWith 12 = .ok (.iconst 0, 1) := by decide +kernel
theorem dX9_chainsWith_13 : decode cX9_chainsWith 13 = .ok (.istore 6, 2) := by decide +kernel
theorem dX9_chainsWith_15 : decode cX9_chainsWith 15 = .ok (.iconst 0, 1) := by decide +kernel
theorem dX9_chainsWith_16 : decode cX9_chainsWith 16 = .ok (.istore 7, 2) := by decide +kernel
theorem dX9_chainsWith_18 : decode cX9_chainsWith 18 = .ok (.iload 7, 2) := by decide +kernel
theorem dX9_chainsWith_2 : decode cX9_chainsWith 2 = .ok (.invokevirtual 94, 3) := by decide +kernel
theorem dX9_chainsWith_20 : decode cX9_chainsWith 20 = .ok (.bipush 12, 2) := by decide +kernel
theorem dX9_chainsWith_22 : decode cX9_chainsWith 22 = .ok (.if_icmp .ge 63, 3) := by decide +kernel
theorem dX9_chainsWith_25 : decode cX9_chainsWith 25 = .ok (.iload_n 3, 1) := by decide +kernel
theorem dX9_chainsWith_26 : decode cX9_chainsWith 26 = .ok (.ifCond .eq 59, 3) := by decide +kernel
theorem dX9_chainsWith_29 : decode cX9_chainsWith 29 = .ok (.aload_n 0, 1) := by decide +kernel
theorem dX9_chainsWith_30 : decode cX9_chainsWith 30 = .ok (.getfield 18, 3) := by decide +kernel
theorem dX9_chainsWith_33 : decode cX9_chainsWith 33 = .ok (.iload_n 3, 1) := by decide +kernel
theorem dX9_chainsWith_34 : decode cX9_chainsWith 34 = .ok (.invokestatic 98, 3) := by decide +kernel
theorem dX9_chainsWith_37 : decode cX9_chainsWith 37 = .ok (.istore 8, 2) := by decide +kernel
theorem dX9_chainsWith_39 : decode cX9_chainsWith 39 = .ok (.aload_n 0, 1) := by decide +kernel
theorem dX9_chainsWith_40 : decode cX9_chainsWith 40 = .ok (.iload 8, 2) := by decide +kernel
theorem dX9_chainsWith_42 : decode cX9_chainsWith 42 = .ok (.invokevirtual 102, 3) := by decide +kernel
theorem dX9_chainsWith_45 : decode cX9_chainsWith 45 = .ok (.istore 9, 2) := by decide +kernel
theorem dX9_chainsWith_47 : decode cX9_chainsWith 47 = .ok (.iload_n 3, 1) := by decide +kernel
theorem dX9_chainsWith_48 : decode cX9_chainsWith 48 = .ok (.iload 8, 2) := by decide +kernel
theorem dX9_chainsWith_5 : decode cX9_chainsWith 5 = .ok (.istore_n 3, 1) := by decide +kernel
theorem dX9_chainsWith_50 : decode cX9_chainsWith 50 = .ok (.iconst (-1), 1) := by decide +kernel
theorem dX9_chainsWith_51 : decode cX9_chainsWith 51 = .ok (.ixor, 1) := by decide +kernel
theorem dX9_chainsWith_52 : decode cX9_chainsWith 52 = .ok (.iand, 1) := by decide +kernel
theorem dX9_chainsWith_53 : decode cX9_chainsWith 53 = .ok (.istore_n 3, 1) := by decide +kernel
theorem dX9_chainsWith_54 : decode cX9_chainsWith 54 = .ok (.iinc 4 1, 3) := by decide +kernel
theorem dX9_chainsWith_57 : decode cX9_chainsWith 57 = .ok (.iload 5, 2) := by decide +kernel
theorem dX9_chainsWith_59 : decode cX9_chainsWith 59 = .ok (.iload 9, 2) := by decide +kernel
theorem dX9_chainsWith_6 : decode cX9_chainsWith 6 = .ok (.iconst 0, 1) := by decide +kernel
theorem dX9_chainsWith_61 : decode cX9_chainsWith 61 = .ok (.invokestatic 105, 3) := by decide +kernel
theorem dX9_chainsWith_64 : decode cX9_chainsWith 64 = .ok (.istore 5, 2) := by decide +kernel
theorem dX9_chainsWith_66 : decode cX9_chainsWith 66 = .ok (.iload 9, 2) := by decide +kernel
theorem dX9_chainsWith_68 : decode cX9_chainsWith 68 = .ok (.iload 8, 2) := by decide +kernel
theorem dX9_chainsWith_7 : decode cX9_chainsWith 7 = .ok (.istore 4, 2) := by decide +kernel
theorem dX9_chainsWith_70 : decode cX9_chainsWith 70 = .ok (.invokestatic 63, 3) := by decide +kernel
theorem dX9_chainsWith_73 : decode cX9_chainsWith 73 = .ok (.if_icmp .ne 6, 3) := by decide +kernel
theorem dX9_chainsWith_76 : decode cX9_chainsWith 76 = .ok (.iinc 6 1, 3) := by decide +kernel
theorem dX9_chainsWith_79 : decode cX9_chainsWith 79 = .ok (.iinc 7 1, 3) := by decide +kernel
theorem dX9_chainsWith_82 : decode cX9_chainsWith 82 = .ok (.goto (-64), 3) := by decide +kernel
theorem dX9_chainsWith_85 : decode cX9_chainsWith 85 = .ok (.iload_n 2, 1) := by decide +kernel
theorem dX9_chainsWith_86 : decode cX9_chainsWith 86 = .ok (.ifCond .ne 6, 3) := by decide +kernel
theorem dX9_chainsWith_89 : decode cX9_chainsWith 89 = .ok (.iload 4, 2) := by decide +kernel
theorem dX9_chainsWith_9 : decode cX9_chainsWith 9 = .ok (.iconst 0, 1) := by decide +kernel
theorem dX9_chainsWith_91 : decode cX9_chainsWith 91 = .ok (.ireturn, 1) := by decide +kernel
theorem dX9_chainsWith_92 : decode cX9_chainsWith 92 = .ok (.iload_n 2, 1) := by decide +kernel
theorem dX9_chainsWith_93 : decode cX9_chainsWith 93 = .ok (.iconst 1, 1) := by decide +kernel
theorem dX9_chainsWith_94 : decode cX9_chainsWith 94 = .ok (.if_icmp .ne 8, 3) := by decide +kernel
theorem dX9_chainsWith_97 : decode cX9_chainsWith 97 = .ok (.iload 5, 2) := by decide +kernel
theorem dX9_chainsWith_99 : decode cX9_chainsWith 99 = .ok (.goto 5, 3) := by decide +kernel
set_option maxHeartbeats 4000000 in
set_option maxRecDepth 100000 in
theorem k_X9_chainsWith (l : Launch) (D : va_G) (cI cS : ClassId) (sz : Nat) (a : Nat → Nat) (na nc N : Nat) (L u0 : SU) (hL : TyX L) (hN : N = 0 ∨ N = 24576) (x0 : Int32) : Met l yX9_chainsWith wsX9_chainsWith ({ frames := 2, cells := 0, slots := 0, locals := 80 }) (PQ D cI cS (wX cI cS a na nc N L u0) sz [.ref (a 34), .ref (a 38), .int x0]) (QF (S := SU) D (wX cI cS a na nc N L u0) (wX cI cS a na nc N L) sz (fun r _ => Rg (-2147483648) 2147483647 r ∧ True)) 0 0 (va_A (wX cI cS a na nc N L u0) sz) := by
  refine Met.ofW (cc := cX9_chainsWith) (maxL := 10) (ret := (some .int)) (by decide) rfl ?_
  intro p e s m args below meth c s₁ B hml hv
  obtain ⟨rfl, hsz, hP, hKK, hD0⟩ := hv
  have hx := B.exec
  have hb := B.bytes
  have hr := B.returns
  have hts := atoms_spec (ws := wsX9_chainsWith) B.pre
  have hown : s.vm.findClass RX9 = some m.cls := findClass_of_methodNamed B.named
  have hlocks := B.notSynchronized
  have hK := hKK.1
  have hin9 : ∀ w ∈ wsX90, w ∈ wsX9_chainsWith := by decide +kernel
  subst hsz
  have hD := hD0.self (sz := s.heap.size)
  obtain ⟨A, hAe⟩ : ∃ A, A = va_A (wX cI cS a na nc N L u0) s.heap.size := ⟨_, rfl⟩
  rw [← hAe] at hD
  have hA : ∀ q : Nat, s.heap.size ≤ q → A q := fun q h => by rw [hAe]; exact Or.inr h
  have hS : va_S A s.heap s.heap [] := va_S.rf
  have hl := lv_entry ([.ref (a 34), .ref (a 38), .int x0]) (n := 10) (Nat.le_of_ble_eq_true rfl)
  rw [lg_entry_eq]
  generalize (lg_sl ([.ref (a 34), .ref (a 38), .int x0]) ++ List.replicate (10 - (lg_sl ([.ref (a 34), .ref (a 38), .int x0])).length) Slot.unset).toArray = ls at hl ⊢
  have hl : lv_has ls 10 [(0, .ref (a 34)), (1, .ref (a 38)), (2, .int x0)] := hl
  obtain ⟨u, hu9⟩ : ∃ u : SU, u = u0 := ⟨_, rfl⟩
  rw [← hu9] at hP hD
  have lp18 : ∀ (n18 : Nat) (y18_l3 : Int32) (y18_l4 : Int32) (y18_l5 : Int32) (y18_l6 : Int32) (y18_l7 : Int32) (u : SU) (H : Heap) (locs : List Loc) (ls : Array Slot), Rg 0 4095 y18_l3 → Rg 0 2147483647 y18_l5 → Rg 0 12 y18_l7 → va_P D cls (wX cI cS a na nc N L u) H → va_D A (wX cI cS a na nc N L u) → va_S A s.heap H locs → lv_has ls 10 [(0, .ref (a 34)), (2, .int x0), (3, .int y18_l3), (4, .int y18_l4), (5, .int y18_l5), (6, .int y18_l6), (7, .int y18_l7)] → 12 - y18_l7.toInt < (n18 : Int) → W p l e (headSpec wsX9_chainsWith ({ frames := 2, cells := 0, slots := 0, locals := 80 })).room s m ([.ref (a 34), .ref (a 38), .int x0]).toArray below meth c H locs 0 0 (MQ below (QF (S := SU) D (wX cI cS a na nc N L u0) (wX cI cS a na nc N L) s.heap.size (fun r _ => Rg (-2147483648) 2147483647 r ∧ True)) ([.ref (a 34), .ref (a 38), .int x0]).toArray s 0 0 (va_A (wX cI cS a na nc N L u0) s.heap.size)) (F0 m 18 ls []) := by
    intro n18
    induction n18 with
    | zero =>
      intro y18_l3 y18_l4 y18_l5 y18_l6 y18_l7 u H locs ls g18_l3 g18_l5 g18_l7 hP hD hS hl hm18
      exact absurd rfl (me_z g18_l7 hm18)
    | succ n18 ih18 =>
      intro y18_l3 y18_l4 y18_l5 y18_l6 y18_l7 u H locs ls g18_l3 g18_l5 g18_l7 hP hD hS hl hm18
      refine lv_iload hx hb dX9_chainsWith_18 (lv_at hl 6 rfl) ?_
      refine lv_bipush (v := 12) hx hb dX9_chainsWith_20 (by decide) ?_
      refine lv_icmp_ge (tgt := 85) hx hb dX9_chainsWith_22 (by decide) (fun c44183 => ?_) (fun c44183 => ?_)
      · have g44184 : Rg 12 12 y18_l7 := rg_ler (by decide : Rg 12 12 (12 : Int32)) g18_l7 c44183 (by decide)
        refine lv_iload_n hx hb dX9_chainsWith_85 rfl (lv_at hl 1 rfl) ?_
        refine lv_if_ne (tgt := 92) hx hb dX9_chainsWith_86 (by decide) (fun c44185 => ?_) (fun c44185 => ?_)
        · refine lv_iload_n hx hb dX9_chainsWith_92 rfl (lv_at hl 1 rfl) ?_
          refine lv_iconst (v := 1) hx hb dX9_chainsWith_93 (by decide) ?_
          refine lv_icmp_ne (tgt := 102) hx hb dX9_chainsWith_94 (by decide) (fun c44186 => ?_) (fun c44186 => ?_)
          · refine lv_iload hx hb dX9_chainsWith_102 (lv_at hl 5 rfl) ?_
            subst hAe
            exact W.iret (v := y18_l6) hx hb hr (fun t ht hW => ⟨⟨_, u, rfl, ⟨(rg_any y18_l6), trivial⟩, by rw [ht]; exact hP, hD⟩, hS.F ht⟩) hS.2.2 dX9_chainsWith_104
          · have g44187 : Rg 1 1 x0 := wk_eql (rg_any x0) (by decide : Rg 1 1 (1 : Int32)) c44186 (by decide)
            refine lv_iload hx hb dX9_chainsWith_97 (lv_at hl 4 rfl) ?_
            refine lv_goto (tgt := 104) hx hb dX9_chainsWith_99 (by decide) ?_
            subst hAe
            exact W.iret (v := y18_l5) hx hb hr (fun t ht hW => ⟨⟨_, u, rfl, ⟨(rg_any y18_l5), trivial⟩, by rw [ht]; exact hP, hD⟩, hS.F ht⟩) hS.2.2 dX9_chainsWith_104
        · have g44188 : Rg 0 0 x0 := wk_eql (rg_any x0) (by decide : Rg 0 0 (0 : Int32)) c44185 (by decide)
          refine lv_iload hx hb dX9_chainsWith_89 (lv_at hl 3 rfl) ?_
          subst hAe
          exact W.iret (v := y18_l4) hx hb hr (fun t ht hW => ⟨⟨_, u, rfl, ⟨(rg_any y18_l4), trivial⟩, by rw [ht]; exact hP, hD⟩, hS.F ht⟩) hS.2.2 dX9_chainsWith_91
      · have g44189 : Rg 0 11 y18_l7 := rg_ltl g18_l7 (by decide : Rg 12 12 (12 : Int32)) (rg_nle c44183) (by decide)
        refine lv_iload_n hx hb dX9_chainsWith_25 rfl (lv_at hl 2 rfl) ?_
        refine lv_if_eq (tgt := 85) hx hb dX9_chainsWith_26 (by decide) (fun c44190 => ?_) (fun c44190 => ?_)
        · have g44191 : Rg 0 0 y18_l3 := wk_eql g18_l3 (by decide : Rg 0 0 (0 : Int32)) c44190 (by decide)
          refine lv_iload_n hx hb dX9_chainsWith_85 rfl (lv_at hl 1 rfl) ?_
          refine lv_if_ne (tgt := 92) hx hb dX9_chainsWith_86 (by decide) (fun c44192 => ?_) (fun c44192 => ?_)
          · refine lv_iload_n hx hb dX9_chainsWith_92 rfl (lv_at hl 1 rfl) ?_
            refine lv_iconst (v := 1) hx hb dX9_chainsWith_93 (by decide) ?_
            refine lv_icmp_ne (tgt := 102) hx hb dX9_chainsWith_94 (by decide) (fun c44193 => ?_) (fun c44193 => ?_)
            · refine lv_iload hx hb dX9_chainsWith_102 (lv_at hl 5 rfl) ?_
              subst hAe
              exact W.iret (v := y18_l6) hx hb hr (fun t ht hW => ⟨⟨_, u, rfl, ⟨(rg_any y18_l6), trivial⟩, by rw [ht]; exact hP, hD⟩, hS.F ht⟩) hS.2.2 dX9_chainsWith_104
            · have g44194 : Rg 1 1 x0 := wk_eql (rg_any x0) (by decide : Rg 1 1 (1 : Int32)) c44193 (by decide)
              refine lv_iload hx hb dX9_chainsWith_97 (lv_at hl 4 rfl) ?_
              refine lv_goto (tgt := 104) hx hb dX9_chainsWith_99 (by decide) ?_
              subst hAe
              exact W.iret (v := y18_l5) hx hb hr (fun t ht hW => ⟨⟨_, u, rfl, ⟨(rg_any y18_l5), trivial⟩, by rw [ht]; exact hP, hD⟩, hS.F ht⟩) hS.2.2 dX9_chainsWith_104
          · have g44195 : Rg 0 0 x0 := wk_eql (rg_any x0) (by decide : Rg 0 0 (0 : Int32)) c44192 (by decide)
            refine lv_iload hx hb dX9_chainsWith_89 (lv_at hl 3 rfl) ?_
            subst hAe
            exact W.iret (v := y18_l4) hx hb hr (fun t ht hW => ⟨⟨_, u, rfl, ⟨(rg_any y18_l4), trivial⟩, by rw [ht]; exact hP, hD⟩, hS.F ht⟩) hS.2.2 dX9_chainsWith_91
        · have g44196 : Rg 1 4095 y18_l3 := rg_ne_lo (k := 0) g18_l3 (by decide) c44190 (by decide)
          refine lv_aload_n hx hb dX9_chainsWith_29 rfl (lv_at hl 0 rfl) ?_
          refine va_get (D := D) (ci := 9) (v := .ref (a 37)) (C := RX9) (T := TX9) (N := 6) hx hb hts hin9 hown hK hP 34 rfl rfl 4 (by decide) (hts (.fieldLink RX9 18 "MissedPoints$Told" "unlike" "[I") (by decide +kernel)) (fun _ h9 => h9) rfl dX9_chainsWith_30 ?_
          refine lv_iload_n hx hb dX9_chainsWith_33 rfl (lv_at hl 2 rfl) ?_
          refine lz_ss (As := [.ref (a 37), .int y18_l3]) (rest := []) ⟨hx, hb, hml, hown, hts⟩ (k_X2_firstPiece_37 l D cI cS a na nc N L u hL hN y18_l3) hKK hP (va_cwS 2 hts gX9_chainsWith_X2_firstPiece rfl rfl rfl (by decide +kernel) ⟨Nat.le_of_ble_eq_true rfl, Nat.le_of_ble_eq_true rfl⟩) rfl hl.1 rfl (Nat.le_of_ble_eq_true rfl) dX9_chainsWith_34 ⟨Nat.le_of_ble_eq_true rfl, Nat.le_of_ble_eq_true rfl⟩ (fun r44197 hr44197 => ?_)
          refine lv_istore (lv' := [(8, .int r44197), (0, .ref (a 34)), (2, .int x0), (3, .int y18_l3), (4, .int y18_l4), (5, .int y18_l5), (6, .int y18_l6), (7, .int y18_l7)]) hx hb dX9_chainsWith_37 hl (by decide) rfl (fun ls hl => ?_)
          refine lv_aload_n hx hb dX9_chainsWith_39 rfl (lv_at hl 1 rfl) ?_
          refine lv_iload hx hb dX9_chainsWith_40 (lv_at hl 0 rfl) ?_
          refine wk_sv 34 (As := [.int r44197]) (rest := []) ⟨hx, hb, hml, hown, hts⟩ (k_X9_unlikeLines l D cI cS a na nc N L u hL hN r44197) hKK hP (ci := 9) rfl rfl (cwV 1 hts gX9_chainsWith_X9_unlikeLines rfl rfl rfl (by decide +kernel) ⟨Nat.le_of_ble_eq_true rfl, Nat.le_of_ble_eq_true rfl⟩) rfl hl.1 rfl (Nat.le_of_ble_eq_true rfl) dX9_chainsWith_42 ⟨Nat.le_of_ble_eq_true rfl, Nat.le_of_ble_eq_true rfl⟩ (fun r44198 hr44198 => ?_)
          refine lv_istore (lv' := [(9, .int r44198), (8, .int r44197), (0, .ref (a 34)), (2, .int x0), (3, .int y18_l3), (4, .int y18_l4), (5, .int y18_l5), (6, .int y18_l6), (7, .int y18_l7)]) hx hb dX9_chainsWith_45 hl (by decide) rfl (fun ls hl => ?_)
          refine lv_iload_n hx hb dX9_chainsWith_47 rfl (lv_at hl 4 rfl) ?_
          refine lv_iload hx hb dX9_chainsWith_48 (lv_at hl 1 rfl) ?_
          refine lv_iconst (v := (-1)) hx hb dX9_chainsWith_50 (by decide) ?_
          refine lv_ixor hx hb dX9_chainsWith_51 ?_
          refine wk_topP (P := fun r => r = r44197 ^^^ ((-1) : Int32)) rfl (fun r44199 qr44199 => ?_)
          refine wk_iandl hx hb dX9_chainsWith_52 g44196 (by decide) (fun r44200 hr44200 qr44200 => ?_)
          refine lv_istore_n (lv' := [(3, .int r44200), (9, .int r44198), (8, .int r44197), (0, .ref (a 34)), (2, .int x0), (4, .int y18_l4), (5, .int y18_l5), (6, .int y18_l6), (7, .int y18_l7)]) hx hb dX9_chainsWith_53 rfl hl (by decide) rfl (fun ls hl => ?_)
          refine wk_iincA (lv' := fun r => [(4, .int r), (3, .int r44200), (9, .int r44198), (8, .int r44197), (0, .ref (a 34)), (2, .int x0), (5, .int y18_l5), (6, .int y18_l6), (7, .int y18_l7)]) hx hb dX9_chainsWith_54 hl (k := 5) rfl (by decide) (fun _ => rfl) (fun r44201 ls hl => ?_)
          refine lv_iload hx hb dX9_chainsWith_57 (lv_at hl 6 rfl) ?_
          refine lv_iload hx hb dX9_chainsWith_59 (lv_at hl 2 rfl) ?_
          refine va_mmax hx hb (by rw [hml]; exact hl.1.symm) hown (hts (.methodLink RX9 105 Lib.Math.max.name) (by decide +kernel)) (hts (.static Lib.Math.max.name) (by decide +kernel)) (hts (.initialized "java/lang/Math") (by decide +kernel)) (hts (.code Lib.Math.max.name Lib.Math.max.code 2 (some .int)) (by decide +kernel)) (Nat.le_of_ble_eq_true rfl) (Nat.le_of_ble_eq_true rfl) (Nat.le_of_ble_eq_true rfl) (Nat.le_of_ble_eq_true rfl) dX9_chainsWith_61 ?_
          refine wk_topP (P := Rg 0 2147483647) (wk_max g18_l5 hr44198.1 (by decide)) (fun r44202 hr44202 => ?_)
          refine lv_istore (lv' := [(5, .int r44202), (4, .int r44201), (3, .int r44200), (9, .int r44198), (8, .int r44197), (0, .ref (a 34)), (2, .int x0), (6, .int y18_l6), (7, .int y18_l7)]) hx hb dX9_chainsWith_64 hl (by decide) rfl (fun ls hl => ?_)
          refine lv_iload hx hb dX9_chainsWith_66 (lv_at hl 3 rfl) ?_
          refine lv_iload hx hb dX9_chainsWith_68 (lv_at hl 4 rfl) ?_
          refine lz_ss (As := [.int r44197]) (rest := [.int r44198]) ⟨hx, hb, hml, hown, hts⟩ (k_J6_bitCount_0f7a4 l D cI cS r44197) hKK (hP.sub (ws' := []) [] rfl) (va_cwS 1 hts gX9_chainsWith_J6_bitCount_0f7a4 rfl rfl rfl (by decide +kernel) ⟨Nat.le_of_ble_eq_true rfl, Nat.le_of_ble_eq_true rfl⟩) rfl hl.1 rfl (Nat.le_of_ble_eq_true rfl) dX9_chainsWith_70 ⟨Nat.le_of_ble_eq_true rfl, Nat.le_of_ble_eq_true rfl⟩ (fun r44203 hr44203 => ?_)
          refine lv_icmp_ne (tgt := 79) hx hb dX9_chainsWith_73 (by decide) (fun c44204 => ?_) (fun c44204 => ?_)
          · refine wk_iinc (lv' := fun r => [(7, .int r), (5, .int r44202), (4, .int r44201), (3, .int r44200), (9, .int r44198), (8, .int r44197), (0, .ref (a 34)), (2, .int x0), (6, .int y18_l6)]) (e1 := 1) (f := 12) hx hb dX9_chainsWith_79 hl (k := 8) rfl (by decide) g44189 (by decide) (fun _ => rfl) (fun r44205 ls hr44205 er44205 hl => ?_)
            refine lv_goto (tgt := 18) hx hb dX9_chainsWith_82 (by decide) ?_
            exact ih18 r44200 r44201 r44202 y18_l6 r44205 u _ _ ls hr44200 hr44202 (show Rg 0 12 r44205 from rg_w hr44205 (by decide) (by decide)) hP hD hS (lv_sub (l' := [(0, .ref (a 34)), (2, .int x0), (3, .int r44200), (4, .int r44201), (5, .int r44202), (6, .int y18_l6), (7, .int r44205)]) hl [6, 7, 3, 2, 1, 8, 0] rfl) (me_up hm18 er44205 (by decide))
          · refine wk_iincA (lv' := fun r => [(6, .int r), (5, .int r44202), (4, .int r44201), (3, .int r44200), (9, .int r44198), (8, .int r44197), (0, .ref (a 34)), (2, .int x0), (7, .int y18_l7)]) hx hb dX9_chainsWith_76 hl (k := 7) rfl (by decide) (fun _ => rfl) (fun r44206 ls hl => ?_)
            refine wk_iinc (lv' := fun r => [(7, .int r), (6, .int r44206), (5, .int r44202), (4, .int r44201), (3, .int r44200), (9, .int r44198), (8, .int r44197), (0, .ref (a 34)), (2, .int x0)]) (e1 := 1) (f := 12) hx hb dX9_chainsWith_79 hl (k := 8) rfl (by decide) g44189 (by decide) (fun _ => rfl) (fun r44207 ls hr44207 er44207 hl => ?_)
            refine lv_goto (tgt := 18) hx hb dX9_chainsWith_82 (by decide) ?_
            exact ih18 r44200 r44201 r44202 r44206 r44207 u _ _ ls hr44200 hr44202 (show Rg 0 12 r44207 from rg_w hr44207 (by decide) (by decide)) hP hD hS (lv_sub (l' := [(0, .ref (a 34)), (2, .int x0), (3, .int r44200), (4, .int r44201), (5, .int r44202), (6, .int r44206), (7, .int r44207)]) hl [7, 8, 4, 3, 2, 1, 0] rfl) (me_up hm18 er44207 (by decide))
  refine lv_aload_n hx hb dX9_chainsWith_0 rfl (lv_at hl 0 rfl) ?_
  refine lv_aload_n hx hb dX9_chainsWith_1 rfl (lv_at hl 1 rfl) ?_
  refine wk_qi (wX cI cS a na nc N L) u (As := [.ref (a 38)]) (rest := []) ⟨hx, hb, hml, hown, hts⟩ (k_X9_layUnlike l D cI cS _ a na nc N L u hL hN) hKK hP hD hS hA 34 (ci := 9) rfl rfl (cwV 1 hts gX9_chainsWith_X9_layUnlike rfl rfl rfl (by decide +kernel) ⟨Nat.le_of_ble_eq_true rfl, Nat.le_of_ble_eq_true rfl⟩) rfl hl.1 rfl (Nat.le_of_ble_eq_true rfl) dX9_chainsWith_2 ⟨Nat.le_of_ble_eq_true rfl, Nat.le_of_ble_eq_true rfl⟩ (fun r44208 u H locs hr44208 hP hD hS => ?_)
  refine lv_istore_n (lv' := [(3, .int r44208), (0, .ref (a 34)), (1, .ref (a 38)), (2, .int x0)]) hx hb dX9_chainsWith_5 rfl hl (by decide) rfl (fun ls hl => ?_)
  refine lv_iconst (v := 0) hx hb dX9_chainsWith_6 (by decide) ?_
  refine lv_istore (lv' := [(4, .int 0), (3, .int r44208), (0, .ref (a 34)), (1, .ref (a 38)), (2, .int x0)]) hx hb dX9_chainsWith_7 hl (by decide) rfl (fun ls hl => ?_)
  refine lv_iconst (v := 0) hx hb dX9_chainsWith_9 (by decide) ?_
  refine lv_istore (lv' := [(5, .int 0), (4, .int 0), (3, .int r44208), (0, .ref (a 34)), (1, .ref (a 38)), (2, .int x0)]) hx hb dX9_chainsWith_10 hl (by decide) rfl (fun ls hl => ?_)
  refine lv_iconst (v := 0) hx hb dX9_chainsWith_12 (by decide) ?_
  refine lv_istore (lv' := [(6, .int 0), (5, .int 0), (4, .int 0), (3, .int r44208), (0, .ref (a 34)), (1, .ref (a 38)), (2, .int x0)]) hx hb dX9_chainsWith_13 hl (by decide) rfl (fun ls hl => ?_)
  refine lv_iconst (v := 0) hx hb dX9_chainsWith_15 (by decide) ?_
  refine lv_istore (lv' := [(7, .int 0), (6, .int 0), (5, .int 0), (4, .int 0), (3, .int r44208), (0, .ref (a 34)), (1, .ref (a 38)), (2, .int x0)]) hx hb dX9_chainsWith_16 hl (by decide) rfl (fun ls hl => ?_)
  exact lp18 13 r44208 (0 : Int32) (0 : Int32) (0 : Int32) (0 : Int32) u _ _ ls hr44208.1 (by decide : Rg 0 2147483647 (0 : Int32)) (by decide : Rg 0 12 (0 : Int32)) hP hD hS (lv_sub (l' := [(0, .ref (a 34)), (2, .int x0), (3, .int r44208), (4, .int 0), (5, .int 0), (6, .int 0), (7, .int 0)]) hl [5, 7, 4, 3, 2, 1, 0] rfl) (me_i (by decide : Rg 0 12 (0 : Int32)) (by decide))
set_option maxHeartbeats 4000000 in
set_option maxRecDepth 100000 in
theorem k_X11_isShelf (l : Launch) (D : va_G) (cI cS : ClassId) (x0 : Int32) : Met l yX11_isShelf wsX11_isShelf ({ frames := 0, cells := 0, slots := 0, locals := 0 }) (PS D cI cS [] [.int x0]) (vp_Si (fun r => Rg 0 1 r ∧ (r ≠ 0 → Rg 0 3 x0))) 0 0 (fun _ => False) := by
  refine Met.ofW (cc := cX11_isShelf) (maxL := 1) (ret := (some .boolean)) (by decide) rfl ?_
  intro p e s m args below meth c s₁ B hml hv
  obtain ⟨rfl, hP, hKK⟩ := hv
  have hx := B.exec
  have hb := B.bytes
  have hr := B.returns
  have hts := atoms_spec (ws := wsX11_isShelf) B.pre
  have hown : s.vm.findClass RX11 = some m.cls := findClass_of_methodNamed B.named
  have hlocks := B.notSynchronized
  have hK := hKK.1
  have hl := lv_entry ([.int x0]) (n := 1) (Nat.le_of_ble_eq_true rfl)
  rw [lg_entry_eq]
  generalize (lg_sl ([.int x0]) ++ List.replicate (1 - (lg_sl ([.int x0])).length) Slot.unset).toArray = ls at hl ⊢
  have hl : lv_has ls 1 [(0, .int x0)] := hl
  refine lv_iload_n hx hb dX11_isShelf_0 rfl (lv_at hl 0 rfl) ?_
  refine lv_if_lt (tgt := 13) hx hb dX11_isShelf_1 (by decide) (fun c44215 => ?_) (fun c44215 => ?_)
  · have g44216 : Rg (-2147483648) (-1) x0 := rg_ltl (rg_any x0) (by decide : Rg 0 0 (0 : Int32)) c44215 (by decide)
    refine lv_iconst (v := 0) hx hb dX11_isShelf_13 (by decide) ?_
    exact W.zret (v := 0) hx hb hr (by decide) (fun t ht hW => ⟨_, rfl, ⟨(by decide : Rg 0 1 (0 : Int32)), fun h9 => absurd rfl h9⟩, ht⟩) (fun q hq => absurd hq List.not_mem_nil) dX11_isShelf_14
  · have g44217 : Rg 0 2147483647 x0 := rg_ler (by decide : Rg 0 0 (0 : Int32)) (rg_any x0) (rg_nlt c44215) (by decide)
    refine lv_iload_n hx hb dX11_isShelf_4 rfl (lv_at hl 0 rfl) ?_
    refine lv_iconst (v := 4) hx hb dX11_isShelf_5 (by decide) ?_
    refine lv_icmp_ge (tgt := 13) hx hb dX11_isShelf_6 (by decide) (fun c44218 => ?_) (fun c44218 => ?_)
    · have g44219 : Rg 4 2147483647 x0 := rg_ler (by decide : Rg 4 4 (4 : Int32)) g44217 c44218 (by decide)
      refine lv_iconst (v := 0) hx hb dX11_isShelf_13 (by decide) ?_
      exact W.zret (v := 0) hx hb hr (by decide) (fun t ht hW => ⟨_, rfl, ⟨(by decide : Rg 0 1 (0 : Int32)), fun h9 => absurd rfl h9⟩, ht⟩) (fun q hq => absurd hq List.not_mem_nil) dX11_isShelf_14
    · have g44220 : Rg 0 3 x0 := rg_ltl g44217 (by decide : Rg 4 4 (4 : Int32)) (rg_nle c44218) (by decide)
      refine lv_iconst (v := 1) hx hb dX11_isShelf_9 (by decide) ?_
      refine lv_goto (tgt := 14) hx hb dX11_isShelf_10 (by decide) ?_
      exact W.zret (v := 1) hx hb hr (by decide) (fun t ht hW => ⟨_, rfl, ⟨(by decide : Rg 0 1 (1 : Int32)), fun _ => g44220⟩, ht⟩) (fun q hq => absurd hq List.not_mem_nil) dX11_isShelf_14
set_option maxHeartbeats 4000000 in
set_option maxRecDepth 100000 in
theorem k_X11_isKind (l : Launch) (D : va_G) (cI cS : ClassId) (x0 : Int32) : Met l yX11_isKind wsX11_isKind ({ frames := 0, cells := 0, slots := 0, locals := 0 }) (PS D cI cS [] [.int x0]) (vp_Si (fun r => Rg 0 1 r ∧ (r ≠ 0 → Rg 0 5 x0))) 0 0 (fun _ => False) := by
  refine Met.ofW (cc := cX11_isKind) (maxL := 1) (ret := (some .boolean)) (by decide) rfl ?_
  intro p e s m args below meth c s₁ B hml hv
  obtain ⟨rfl, hP, hKK⟩ := hv
  have hx := B.exec
  have hb := B.bytes
  have hr := B.returns
  have hts := atoms_spec (ws := wsX11_isKind) B.pre
  have hown : s.vm.findClass RX11 = some m.cls := findClass_of_methodNamed B.named
  have hlocks := B.notSynchronized
  have hK := hKK.1
  have hl := lv_entry ([.int x0]) (n := 1) (Nat.le_of_ble_eq_true rfl)
  rw [lg_entry_eq]
  generalize (lg_sl ([.int x0]) ++ List.replicate (1 - (lg_sl ([.int x0])).length) Slot.unset).toArray = ls at hl ⊢
  have hl : lv_has ls 1 [(0, .int x0)] := hl
  refine lv_iload_n hx hb dX11_isKind_0 rfl (lv_at hl 0 rfl) ?_
  refine lv_if_lt (tgt := 14) hx hb dX11_isKind_1 (by decide) (fun c44227 => ?_) (fun c44227 => ?_)
  · have g44228 : Rg (-2147483648) (-1) x0 := rg_ltl (rg_any x0) (by decide : Rg 0 0 (0 : Int32)) c44227 (by decide)
    refine lv_iconst (v := 0) hx hb dX11_isKind_14 (by decide) ?_
    exact W.zret (v := 0) hx hb hr (by decide) (fun t ht hW => ⟨_, rfl, ⟨(by decide : Rg 0 1 (0 : Int32)), fun h9 => absurd rfl h9⟩, ht⟩) (fun q hq => absurd hq List.not_mem_nil) dX11_isKind_15
  · have g44229 : Rg 0 2147483647 x0 := rg_ler (by decide : Rg 0 0 (0 : Int32)) (rg_any x0) (rg_nlt c44227) (by decide)
    refine lv_iload_n hx hb dX11_isKind_4 rfl (lv_at hl 0 rfl) ?_
    refine lv_bipush (v := 6) hx hb dX11_isKind_5 (by decide) ?_
    refine lv_icmp_ge (tgt := 14) hx hb dX11_isKind_7 (by decide) (fun c44230 => ?_) (fun c44230 => ?_)
    · have g44231 : Rg 6 2147483647 x0 := rg_ler (by decide : Rg 6 6 (6 : Int32)) g44229 c44230 (by decide)
      refine lv_iconst (v := 0) hx hb dX11_isKind_14 (by decide) ?_
      exact W.zret (v := 0) hx hb hr (by decide) (fun t ht hW => ⟨_, rfl, ⟨(by decide : Rg 0 1 (0 : Int32)), fun h9 => absurd rfl h9⟩, ht⟩) (fun q hq => absurd hq List.not_mem_nil) dX11_isKind_15
    · have g44232 : Rg 0 5 x0 := rg_ltl g44229 (by decide : Rg 6 6 (6 : Int32)) (rg_nle c44230) (by decide)
      refine lv_iconst (v := 1) hx hb dX11_isKind_10 (by decide) ?_
      refine lv_goto (tgt := 15) hx hb dX11_isKind_11 (by decide) ?_
      exact W.zret (v := 1) hx hb hr (by decide) (fun t ht hW => ⟨_, rfl, ⟨(by decide : Rg 0 1 (1 : Int32)), fun _ => g44232⟩, ht⟩) (fun q hq => absurd hq List.not_mem_nil) dX11_isKind_15
set_option maxHeartbeats 4000000 in
set_option maxRecDepth 100000 in
theorem k_X11_isSheet (l : Launch) (D : va_G) (cI cS : ClassId) (x0 : Int32) : Met l yX11_isSheet wsX11_isSheet ({ frames := 0, cells := 0, slots := 0, locals := 0 }) (PS D cI cS [] [.int x0]) (vp_Si (fun r => Rg 0 1 r ∧ (r ≠ 0 → Rg 0 3 x0))) 0 0 (fun _ => False) := by
  refine Met.ofW (cc := cX11_isSheet) (maxL := 1) (ret := (some .boolean)) (by decide) rfl ?_
  intro p e s m args below meth c s₁ B hml hv
  obtain ⟨rfl, hP, hKK⟩ := hv
  have hx := B.exec
  have hb := B.bytes
  have hr := B.returns
  have hts := atoms_spec (ws := wsX11_isSheet) B.pre
  have hown : s.vm.findClass RX11 = some m.cls := findClass_of_methodNamed B.named
  have hlocks := B.notSynchronized
  have hK := hKK.1
  have hl := lv_entry ([.int x0]) (n := 1) (Nat.le_of_ble_eq_true rfl)
  rw [lg_entry_eq]
  generalize (lg_sl ([.int x0]) ++ List.replicate (1 - (lg_sl ([.int x0])).length) Slot.unset).toArray = ls at hl ⊢
  have hl : lv_has ls 1 [(0, .int x0)] := hl
  refine lv_iload_n hx hb dX11_isSheet_0 rfl (lv_at hl 0 rfl) ?_
  refine lv_if_lt (tgt := 13) hx hb dX11_isSheet_1 (by decide) (fun c44239 => ?_) (fun c44239 => ?_)
  · have g44240 : Rg (-2147483648) (-1) x0 := rg_ltl (rg_any x0) (by decide : Rg 0 0 (0 : Int32)) c44239 (by decide)
    refine lv_iconst (v := 0) hx hb dX11_isSheet_13 (by decide) ?_
    exact W.zret (v := 0) hx hb hr (by decide) (fun t ht hW => ⟨_, rfl, ⟨(by decide : Rg 0 1 (0 : Int32)), fun h9 => absurd rfl h9⟩, ht⟩) (fun q hq => absurd hq List.not_mem_nil) dX11_isSheet_14
  · have g44241 : Rg 0 2147483647 x0 := rg_ler (by decide : Rg 0 0 (0 : Int32)) (rg_any x0) (rg_nlt c44239) (by decide)
    refine lv_iload_n hx hb dX11_isSheet_4 rfl (lv_at hl 0 rfl) ?_
    refine lv_iconst (v := 4) hx hb dX11_isSheet_5 (by decide) ?_
    refine lv_icmp_ge (tgt := 13) hx hb dX11_isSheet_6 (by decide) (fun c44242 => ?_) (fun c44242 => ?_)
    · have g44243 : Rg 4 2147483647 x0 := rg_ler (by decide : Rg 4 4 (4 : Int32)) g44241 c44242 (by decide)
      refine lv_iconst (v := 0) hx hb dX11_isSheet_13 (by decide) ?_
      exact W.zret (v := 0) hx hb hr (by decide) (fun t ht hW => ⟨_, rfl, ⟨(by decide : Rg 0 1 (0 : Int32)), fun h9 => absurd rfl h9⟩, ht⟩) (fun q hq => absurd hq List.not_mem_nil) dX11_isSheet_14
    · have g44244 : Rg 0 3 x0 := rg_ltl g44241 (by decide : Rg 4 4 (4 : Int32)) (rg_nle c44242) (by decide)
      refine lv_iconst (v := 1) hx hb dX11_isSheet_9 (by decide) ?_
      refine lv_goto (tgt := 14) hx hb dX11_isSheet_10 (by decide) ?_
      exact W.zret (v := 1) hx hb hr (by decide) (fun t ht hW => ⟨_, rfl, ⟨(by decide : Rg 0 1 (1 : Int32)), fun _ => g44244⟩, ht⟩) (fun q hq => absurd hq List.not_mem_nil) dX11_isSheet_14
set_option maxHeartbeats 4000000 in
set_option maxRecDepth 100000 in
theorem k_X11_isSort (l : Launch) (D : va_G) (cI cS : ClassId) (x0 : Int32) : Met l yX11_isSort wsX11_isSort ({ frames := 0, cells := 0, slots := 0, locals := 0 }) (PS D cI cS [] [.int x0]) (vp_Si (fun r => Rg 0 1 r ∧ (r ≠ 0 → Rg 0 1 x0))) 0 0 (fun _ => False) := by
  refine Met.ofW (cc := cX11_isSort) (maxL := 1) (ret := (some .boolean)) (by decide) rfl ?_
  intro p e s m args below meth c s₁ B hml hv
  obtain ⟨rfl, hP, hKK⟩ := hv
  have hx := B.exec
  have hb := B.bytes
  have hr := B.returns
  have hts := atoms_spec (ws := wsX11_isSort) B.pre
  have hown : s.vm.findClass RX11 = some m.cls := findClass_of_methodNamed B.named
  have hlocks := B.notSynchronized
  have hK := hKK.1
  have hl := lv_entry ([.int x0]) (n := 1) (Nat.le_of_ble_eq_true rfl)
  rw [lg_entry_eq]
  generalize (lg_sl ([.int x0]) ++ List.replicate (1 - (lg_sl ([.int x0])).length) Slot.unset).toArray = ls at hl ⊢
  have hl : lv_has ls 1 [(0, .int x0)] := hl
  refine lv_iload_n hx hb dX11_isSort_0 rfl (lv_at hl 0 rfl) ?_
  refine lv_if_eq (tgt := 9) hx hb dX11_isSort_1 (by decide) (fun c44249 => ?_) (fun c44249 => ?_)
  · have g44250 : Rg 0 0 x0 := wk_eql (rg_any x0) (by decide : Rg 0 0 (0 : Int32)) c44249 (by decide)
    refine lv_iconst (v := 1) hx hb dX11_isSort_9 (by decide) ?_
    refine lv_goto (tgt := 14) hx hb dX11_isSort_10 (by decide) ?_
    exact W.zret (v := 1) hx hb hr (by decide) (fun t ht hW => ⟨_, rfl, ⟨(by decide : Rg 0 1 (1 : Int32)), fun _ => (show Rg 0 1 x0 from rg_w g44250 (by decide) (by decide))⟩, ht⟩) (fun q hq => absurd hq List.not_mem_nil) dX11_isSort_14
  · refine lv_iload_n hx hb dX11_isSort_4 rfl (lv_at hl 0 rfl) ?_
    refine lv_iconst (v := 1) hx hb dX11_isSort_5 (by decide) ?_
    refine lv_icmp_ne (tgt := 13) hx hb dX11_isSort_6 (by decide) (fun c44251 => ?_) (fun c44251 => ?_)
    · refine lv_iconst (v := 0) hx hb dX11_isSort_13 (by decide) ?_
      exact W.zret (v := 0) hx hb hr (by decide) (fun t ht hW => ⟨_, rfl, ⟨(by decide : Rg 0 1 (0 : Int32)), fun h9 => absurd rfl h9⟩, ht⟩) (fun q hq => absurd hq List.not_mem_nil) dX11_isSort_14
    · have g44252 : Rg 1 1 x0 := wk_eql (rg_any x0) (by decide : Rg 1 1 (1 : Int32)) c44251 (by decide)
      refine lv_iconst (v := 1) hx hb dX11_isSort_9 (by decide) ?_
      refine lv_goto (tgt := 14) hx hb dX11_isSort_10 (by decide) ?_
      exact W.zret (v := 1) hx hb hr (by decide) (fun t ht hW => ⟨_, rfl, ⟨(by decide : Rg 0 1 (1 : Int32)), fun _ => (show Rg 0 1 x0 from rg_w g44252 (by decide) (by decide))⟩, ht⟩) (fun q hq => absurd hq List.not_mem_nil) dX11_isSort_14
set_option maxHeartbeats 4000000 in
set_option maxRecDepth 100000 in
theorem k_X11_canDeal (l : Launch) (D : va_G) (cI cS : ClassId) (x0 x1 : Int32) : Met l yX11_canDeal wsX11_canDeal ({ frames := 0, cells := 0, slots := 0, locals := 0 }) (PS D cI cS [] [.int x0, .int x1]) (vp_Si (fun r => Rg 0 1 r ∧ (r ≠ 0 → Rg 0 12 x0 ∧ Rg 0 10 x1))) 0 0 (fun _ => False) := by
  refine Met.ofW (cc := cX11_canDeal) (maxL := 2) (ret := (some .boolean)) (by decide) rfl ?_
  intro p e s m args below meth c s₁ B hml hv
  obtain ⟨rfl, hP, hKK⟩ := hv
  have hx := B.exec
  have hb := B.bytes
  have hr := B.returns
  have hts := atoms_spec (ws := wsX11_canDeal) B.pre
  have hown : s.vm.findClass RX11 = some m.cls := findClass_of_methodNamed B.named
  have hlocks := B.notSynchronized
  have hK := hKK.1
  have hl := lv_entry ([.int x0, .int x1]) (n := 2) (Nat.le_of_ble_eq_true rfl)
  rw [lg_entry_eq]
  generalize (lg_sl ([.int x0, .int x1]) ++ List.replicate (2 - (lg_sl ([.int x0, .int x1])).length) Slot.unset).toArray = ls at hl ⊢
  have hl : lv_has ls 2 [(0, .int x0), (1, .int x1)] := hl
  refine lv_iload_n hx hb dX11_canDeal_0 rfl (lv_at hl 0 rfl) ?_
  refine lv_if_lt (tgt := 24) hx hb dX11_canDeal_1 (by decide) (fun c44265 => ?_) (fun c44265 => ?_)
  · have g44266 : Rg (-2147483648) (-1) x0 := rg_ltl (rg_any x0) (by decide : Rg 0 0 (0 : Int32)) c44265 (by decide)
    refine lv_iconst (v := 0) hx hb dX11_canDeal_24 (by decide) ?_
    exact W.zret (v := 0) hx hb hr (by decide) (fun t ht hW => ⟨_, rfl, ⟨(by decide : Rg 0 1 (0 : Int32)), fun h9 => absurd rfl h9⟩, ht⟩) (fun q hq => absurd hq List.not_mem_nil) dX11_canDeal_25
  · have g44267 : Rg 0 2147483647 x0 := rg_ler (by decide : Rg 0 0 (0 : Int32)) (rg_any x0) (rg_nlt c44265) (by decide)
    refine lv_iload_n hx hb dX11_canDeal_4 rfl (lv_at hl 0 rfl) ?_
    refine lv_bipush (v := 12) hx hb dX11_canDeal_5 (by decide) ?_
    refine lv_icmp_gt (tgt := 24) hx hb dX11_canDeal_7 (by decide) (fun c44268 => ?_) (fun c44268 => ?_)
    · have g44269 : Rg 13 2147483647 x0 := rg_ltr (by decide : Rg 12 12 (12 : Int32)) g44267 c44268 (by decide)
      refine lv_iconst (v := 0) hx hb dX11_canDeal_24 (by decide) ?_
      exact W.zret (v := 0) hx hb hr (by decide) (fun t ht hW => ⟨_, rfl, ⟨(by decide : Rg 0 1 (0 : Int32)), fun h9 => absurd rfl h9⟩, ht⟩) (fun q hq => absurd hq List.not_mem_nil) dX11_canDeal_25
    · have g44270 : Rg 0 12 x0 := rg_lel g44267 (by decide : Rg 12 12 (12 : Int32)) (rg_nlt c44268) (by decide)
      refine lv_iload_n hx hb dX11_canDeal_10 rfl (lv_at hl 1 rfl) ?_
      refine lv_if_lt (tgt := 24) hx hb dX11_canDeal_11 (by decide) (fun c44271 => ?_) (fun c44271 => ?_)
      · have g44272 : Rg (-2147483648) (-1) x1 := rg_ltl (rg_any x1) (by decide : Rg 0 0 (0 : Int32)) c44271 (by decide)
        refine lv_iconst (v := 0) hx hb dX11_canDeal_24 (by decide) ?_
        exact W.zret (v := 0) hx hb hr (by decide) (fun t ht hW => ⟨_, rfl, ⟨(by decide : Rg 0 1 (0 : Int32)), fun h9 => absurd rfl h9⟩, ht⟩) (fun q hq => absurd hq List.not_mem_nil) dX11_canDeal_25
      · have g44273 : Rg 0 2147483647 x1 := rg_ler (by decide : Rg 0 0 (0 : Int32)) (rg_any x1) (rg_nlt c44271) (by decide)
        refine lv_iload_n hx hb dX11_canDeal_14 rfl (lv_at hl 1 rfl) ?_
        refine lv_bipush (v := 10) hx hb dX11_canDeal_15 (by decide) ?_
        refine lv_icmp_gt (tgt := 24) hx hb dX11_canDeal_17 (by decide) (fun c44274 => ?_) (fun c44274 => ?_)
        · have g44275 : Rg 11 2147483647 x1 := rg_ltr (by decide : Rg 10 10 (10 : Int32)) g44273 c44274 (by decide)
          refine lv_iconst (v := 0) hx hb dX11_canDeal_24 (by decide) ?_
          exact W.zret (v := 0) hx hb hr (by decide) (fun t ht hW => ⟨_, rfl, ⟨(by decide : Rg 0 1 (0 : Int32)), fun h9 => absurd rfl h9⟩, ht⟩) (fun q hq => absurd hq List.not_mem_nil) dX11_canDeal_25
        · have g44276 : Rg 0 10 x1 := rg_lel g44273 (by decide : Rg 10 10 (10 : Int32)) (rg_nlt c44274) (by decide)
          refine lv_iconst (v := 1) hx hb dX11_canDeal_20 (by decide) ?_
          refine lv_goto (tgt := 25) hx hb dX11_canDeal_21 (by decide) ?_
          exact W.zret (v := 1) hx hb hr (by decide) (fun t ht hW => ⟨_, rfl, ⟨(by decide : Rg 0 1 (1 : Int32)), fun _ => ⟨g44270, g44276⟩⟩, ht⟩) (fun q hq => absurd hq List.not_mem_nil) dX11_canDeal_25
set_option maxHeartbeats 4000000 in
set_option maxRecDepth 100000 in
theorem k_X11_markOfPieces (l : Launch) (D : va_G) (cI cS : ClassId) (x0 : Int32) : Met l yX11_markOfPieces wsX11_markOfPieces ({ frames := 0, cells := 0, slots := 0, locals := 0 }) (PS D cI cS [] [.int x0]) (vp_Si (fun r => Rg 0 2 r ∧ (r = 0 → Rg 0 0 x0))) 0 0 (fun _ => False) := by
  refine Met.ofW (cc := cX11_markOfPieces) (maxL := 1) (ret := (some .int)) (by decide) rfl ?_
  intro p e s m args below meth c s₁ B hml hv
  obtain ⟨rfl, hP, hKK⟩ := hv
  have hx := B.exec
  have hb := B.bytes
  have hr := B.returns
  have hts := atoms_spec (ws := wsX11_markOfPieces) B.pre
  have hown : s.vm.findClass RX11 = some m.cls := findClass_of_methodNamed B.named
  have hlocks := B.notSynchronized
  have hK := hKK.1
  have hl := lv_entry ([.int x0]) (n := 1) (Nat.le_of_ble_eq_true rfl)
  rw [lg_entry_eq]
  generalize (lg_sl ([.int x0]) ++ List.replicate (1 - (lg_sl ([.int x0])).length) Slot.unset).toArray = ls at hl ⊢
  have hl : lv_has ls 1 [(0, .int x0)] := hl
  refine lv_iload_n hx hb dX11_markOfPieces_0 rfl (lv_at hl 0 rfl) ?_
  refine lv_if_ne (tgt := 8) hx hb dX11_markOfPieces_1 (by decide) (fun c44279 => ?_) (fun c44279 => ?_)
  · refine lv_iconst (v := 2) hx hb dX11_markOfPieces_8 (by decide) ?_
    exact W.iret (v := 2) hx hb hr (fun t ht hW => ⟨_, rfl, ⟨(by decide : Rg 0 2 (2 : Int32)), fun h9 => absurd h9 (by decide)⟩, ht⟩) (fun q hq => absurd hq List.not_mem_nil) dX11_markOfPieces_9
  · have g44280 : Rg 0 0 x0 := wk_eql (rg_any x0) (by decide : Rg 0 0 (0 : Int32)) c44279 (by decide)
    refine lv_iconst (v := 0) hx hb dX11_markOfPieces_4 (by decide) ?_
    refine lv_goto (tgt := 9) hx hb dX11_markOfPieces_5 (by decide) ?_
    exact W.iret (v := 0) hx hb hr (fun t ht hW => ⟨_, rfl, ⟨(by decide : Rg 0 2 (0 : Int32)), fun _ => g44280⟩, ht⟩) (fun q hq => absurd hq List.not_mem_nil) dX11_markOfPieces_9
theorem dX11_greatestDivisor_0 : decode cX11_greatestDivisor 0 = .ok (.iload_n 0, 1) := by decide +kernel
theorem dX11_greatestDivisor_1 : decode cX11_greatestDivisor 1 = .ok (.istore_n 2, 1) := by decide +kernel
theorem dX11_greatestDivisor_11 : decode cX11_greatestDivisor 11 = .ok (.if_icmp .ge 23, 3) := by decide +kernel
theorem dX11_greatestDivisor_14 : decode cX11_greatestDivisor 14 = .ok (.iload_n 3, 1) := by decide +kernel
theorem dX11_greatestDivisor_15 : decode cX11_greatestDivisor 15 = .ok (.ifCond .eq 19, 3) := by decide +kernel
theorem dX11_greatestDivisor_18 : decode cX11_greatestDivisor 18 = .ok (.iload_n 2, 1) := by decide +kernel
theorem dX11_greatestDivisor_19 : decode cX11_greatestDivisor 19 = .ok (.iload_n 3, 1) := by decide +kernel
theorem dX11_greatestDivisor_2 : decode cX11_greatestDivisor 2 = .ok (.iload_n 1, 1) := by decide +kernel
theorem dX11_greatestDivisor_20 : decode cX11_greatestDivisor 20 = .ok (.irem, 1) := by decide +kernel
theorem dX11_greatestDivisor_21 : decode cX11_greatestDivisor 21 = .ok (.istore 5, 2) := by decide +kernel
theorem dX11_greatestDivisor_23 : decode cX11_greatestDivisor 23 = .ok (.iload_n 3, 1) := by decide +kernel
theorem dX11_greatestDivisor_24 : decode cX11_greatestDivisor 24 = .ok (.istore_n 2, 1) := by decide +kernel
theorem dX11_greatestDivisor_25 : decode cX11_greatestDivisor 25 = .ok (.iload 5, 2) := by decide +kernel
theorem dX11_greatestDivisor_27 : decode cX11_greatestDivisor 27 = .ok (.istore_n 3, 1) := by decide +kernel
theorem dX11_greatestDivisor_28 : decode cX11_greatestDivisor 28 = .ok (.iinc 4 1, 3) := by decide +kernel
theorem dX11_greatestDivisor_3 : decode cX11_greatestDivisor 3 = .ok (.istore_n 3, 1) := by decide +kernel
theorem dX11_greatestDivisor_31 : decode cX11_greatestDivisor 31 = .ok (.goto (-24), 3) := by decide +kernel
theorem dX11_greatestDivisor_34 : decode cX11_greatestDivisor 34 = .ok (.iload_n 2, 1) := by decide +kernel
theorem dX11_greatestDivisor_35 : decode cX11_greatestDivisor 35 = .ok (.ireturn, 1) := by decide +kernel
theorem dX11_greatestDivisor_4 : decode cX11_greatestDivisor 4 = .ok (.iconst 0, 1) := by decide +kernel
theorem dX11_greatestDivisor_5 : decode cX11_greatestDivisor 5 = .ok (.istore 4, 2) := by decide +kernel
theorem dX11_greatestDivisor_7 : decode cX11_greatestDivisor 7 = .ok (.iload 4, 2) := by decide +kernel
theorem dX11_greatestDivisor_9 : decode cX11_greatestDivisor 9 = .ok (.bipush 64, 2) := by decide +kernel
set_option maxHeartbeats 4000000 in
set_option maxRecDepth 100000 in
theorem k_X11_greatestDivisor (l : Launch) (D : va_G) (cI cS : ClassId) (x0 x1 : Int32) : Met l yX11_greatestDivisor wsX11_greatestDivisor ({ frames := 0, cells := 0, slots := 0, locals := 0 }) (PS D cI cS [] [.int x0, .int x1]) (vp_Si (fun r => Rg (-2147483648) 2147483647 r ∧ True)) 0 0 (fun _ => False) := by
  refine Met.ofW (cc := cX11_greatestDivisor) (maxL := 6) (ret := (some .int)) (by decide) rfl ?_
  intro p e s m args below meth c s₁ B hml hv
  obtain ⟨rfl, hP, hKK⟩ := hv
  have hx := B.exec
  have hb := B.bytes
  have hr := B.returns
  have hts := atoms_spec (ws := wsX11_greatestDivisor) B.pre
  have hown : s.vm.findClass RX11 = some m.cls := findClass_of_methodNamed B.named
  have hlocks := B.notSynchronized
  have hK := hKK.1
  have hl := lv_entry ([.int x0, .int x1]) (n := 6) (Nat.le_of_ble_eq_true rfl)
  rw [lg_entry_eq]
  generalize (lg_sl ([.int x0, .int x1]) ++ List.replicate (6 - (lg_sl ([.int x0, .int x1])).length) Slot.unset).toArray = ls at hl ⊢
  have hl : lv_has ls 6 [(0, .int x0), (1, .int x1)] := hl
  have lp7 : ∀ (n7 : Nat) (y7_l2 : Int32) (y7_l3 : Int32) (y7_l4 : Int32) (ls : Array Slot), Rg 0 64 y7_l4 → lv_has ls 6 [(2, .int y7_l2), (3, .int y7_l3), (4, .int y7_l4)] → 64 - y7_l4.toInt < (n7 : Int) → W p l e (headSpec wsX11_greatestDivisor ({ frames := 0, cells := 0, slots := 0, locals := 0 })).room s m ([.int x0, .int x1]).toArray below meth c s.heap [] 0 0 (MQ below (vp_Si (fun r => Rg (-2147483648) 2147483647 r ∧ True)) ([.int x0, .int x1]).toArray s 0 0 (fun _ => False)) (F0 m 7 ls []) := by
    intro n7
    induction n7 with
    | zero =>
      intro y7_l2 y7_l3 y7_l4 ls g7_l4 hl hm7
      exact absurd rfl (me_z g7_l4 hm7)
    | succ n7 ih7 =>
      intro y7_l2 y7_l3 y7_l4 ls g7_l4 hl hm7
      refine lv_iload hx hb dX11_greatestDivisor_7 (lv_at hl 2 rfl) ?_
      refine lv_bipush (v := 64) hx hb dX11_greatestDivisor_9 (by decide) ?_
      refine lv_icmp_ge (tgt := 34) hx hb dX11_greatestDivisor_11 (by decide) (fun c44368 => ?_) (fun c44368 => ?_)
      · have g44369 : Rg 64 64 y7_l4 := rg_ler (by decide : Rg 64 64 (64 : Int32)) g7_l4 c44368 (by decide)
        refine lv_iload_n hx hb dX11_greatestDivisor_34 rfl (lv_at hl 0 rfl) ?_
        exact W.iret (v := y7_l2) hx hb hr (fun t ht hW => ⟨_, rfl, ⟨(rg_any y7_l2), trivial⟩, ht⟩) (fun q hq => absurd hq List.not_mem_nil) dX11_greatestDivisor_35
      · have g44370 : Rg 0 63 y7_l4 := rg_ltl g7_l4 (by decide : Rg 64 64 (64 : Int32)) (rg_nle c44368) (by decide)
        refine lv_iload_n hx hb dX11_greatestDivisor_14 rfl (lv_at hl 1 rfl) ?_
        refine lv_if_eq (tgt := 34) hx hb dX11_greatestDivisor_15 (by decide) (fun c44371 => ?_) (fun c44371 => ?_)
        · have g44372 : Rg 0 0 y7_l3 := wk_eql (rg_any y7_l3) (by decide : Rg 0 0 (0 : Int32)) c44371 (by decide)
          refine lv_iload_n hx hb dX11_greatestDivisor_34 rfl (lv_at hl 0 rfl) ?_
          exact W.iret (v := y7_l2) hx hb hr (fun t ht hW => ⟨_, rfl, ⟨(rg_any y7_l2), trivial⟩, ht⟩) (fun q hq => absurd hq List.not_mem_nil) dX11_greatestDivisor_35
        · refine lv_iload_n hx hb dX11_greatestDivisor_18 rfl (lv_at hl 0 rfl) ?_
          refine lv_iload_n hx hb dX11_greatestDivisor_19 rfl (lv_at hl 1 rfl) ?_
          refine lv_irem hx hb dX11_greatestDivisor_20 c44371 ?_
          refine wk_any (fun r44373 => ?_)
          refine lv_istore (lv' := [(5, .int r44373), (2, .int y7_l2), (3, .int y7_l3), (4, .int y7_l4)]) hx hb dX11_greatestDivisor_21 hl (by decide) rfl (fun ls hl => ?_)
          refine lv_iload_n hx hb dX11_greatestDivisor_23 rfl (lv_at hl 2 rfl) ?_
          refine lv_istore_n (lv' := [(2, .int y7_l3), (5, .int r44373), (3, .int y7_l3), (4, .int y7_l4)]) hx hb dX11_greatestDivisor_24 rfl hl (by decide) rfl (fun ls hl => ?_)
          refine lv_iload hx hb dX11_greatestDivisor_25 (lv_at hl 1 rfl) ?_
          refine lv_istore_n (lv' := [(3, .int r44373), (2, .int y7_l3), (5, .int r44373), (4, .int y7_l4)]) hx hb dX11_greatestDivisor_27 rfl hl (by decide) rfl (fun ls hl => ?_)
          refine wk_iinc (lv' := fun r => [(4, .int r), (3, .int r44373), (2, .int y7_l3), (5, .int r44373)]) (e1 := 1) (f := 64) hx hb dX11_greatestDivisor_28 hl (k := 3) rfl (by decide) g44370 (by decide) (fun _ => rfl) (fun r44374 ls hr44374 er44374 hl => ?_)
          refine lv_goto (tgt := 7) hx hb dX11_greatestDivisor_31 (by decide) ?_
          exact ih7 y7_l3 r44373 r44374 ls (show Rg 0 64 r44374 from rg_w hr44374 (by decide) (by decide)) (lv_sub (l' := [(2, .int y7_l3), (3, .int r44373), (4, .int r44374)]) hl [2, 1, 0] rfl) (me_up hm7 er44374 (by decide))
  refine lv_iload_n hx hb dX11_greatestDivisor_0 rfl (lv_at hl 0 rfl) ?_
  refine lv_istore_n (lv' := [(2, .int x0), (0, .int x0), (1, .int x1)]) hx hb dX11_greatestDivisor_1 rfl hl (by decide) rfl (fun ls hl => ?_)
  refine lv_iload_n hx hb dX11_greatestDivisor_2 rfl (lv_at hl 2 rfl) ?_
  refine lv_istore_n (lv' := [(3, .int x1), (2, .int x0), (0, .int x0), (1, .int x1)]) hx hb dX11_greatestDivisor_3 rfl hl (by decide) rfl (fun ls hl => ?_)
  refine lv_iconst (v := 0) hx hb dX11_greatestDivisor_4 (by decide) ?_
  refine lv_istore (lv' := [(4, .int 0), (3, .int x1), (2, .int x0), (0, .int x0), (1, .int x1)]) hx hb dX11_greatestDivisor_5 hl (by decide) rfl (fun ls hl => ?_)
  exact lp7 65 x0 x1 (0 : Int32) ls (by decide : Rg 0 64 (0 : Int32)) (lv_sub (l' := [(2, .int x0), (3, .int x1), (4, .int 0)]) hl [2, 1, 0] rfl) (me_i (by decide : Rg 0 64 (0 : Int32)) (by decide))
set_option maxHeartbeats 4000000 in
set_option maxRecDepth 100000 in
theorem k_X7_put (l : Launch) (D : va_G) (cI cS : ClassId) (sz : Nat) (a : Nat → Nat) (na nc N : Nat) (L u0 : SU) (hL : TyX L) (hN : N = 0 ∨ N = 24576) (x0 x1 x2 : Int32) : Met l yX7_put wsX7_put ({ frames := 1, cells := 0, slots := 0, locals := 40 }) (PQ D cI cS (wX cI cS a na nc N L u0) sz [.ref (a 42), .int x0, .int x1, .int x2]) (QF (S := SU) D (wX cI cS a na nc N L u0) (wX cI cS a na nc N L) sz (fun r _ => Rg (-2) 1 r ∧ True)) 0 0 (va_A (wX cI cS a na nc N L u0) sz) := by
  refine Met.ofW (cc := cX7_put) (maxL := 4) (ret := (some .int)) (by decide) rfl ?_
  intro p e s m args below meth c s₁ B hml hv
  obtain ⟨rfl, hsz, hP, hKK, hD0⟩ := hv
  have hx := B.exec
  have hb := B.bytes
  have hr := B.returns
  have hts := atoms_spec (ws := wsX7_put) B.pre
  have hown : s.vm.findClass RX7 = some m.cls := findClass_of_methodNamed B.named
  have hlocks := B.notSynchronized
  have hK := hKK.1
  have hin7 : ∀ w ∈ wsX70, w ∈ wsX7_put := by decide +kernel
  subst hsz
  have hD := hD0.self (sz := s.heap.size)
  obtain ⟨A, hAe⟩ : ∃ A, A = va_A (wX cI cS a na nc N L u0) s.heap.size := ⟨_, rfl⟩
  rw [← hAe] at hD
  have hA : ∀ q : Nat, s.heap.size ≤ q → A q := fun q h => by rw [hAe]; exact Or.inr h
  have hS : va_S A s.heap s.heap [] := va_S.rf
  have hl := lv_entry ([.ref (a 42), .int x0, .int x1, .int x2]) (n := 4) (Nat.le_of_ble_eq_true rfl)
  rw [lg_entry_eq]
  generalize (lg_sl ([.ref (a 42), .int x0, .int x1, .int x2]) ++ List.replicate (4 - (lg_sl ([.ref (a 42), .int x0, .int x1, .int x2])).length) Slot.unset).toArray = ls at hl ⊢
  have hl : lv_has ls 4 [(0, .ref (a 42)), (1, .int x0), (2, .int x1), (3, .int x2)] := hl
  obtain ⟨u, hu9⟩ : ∃ u : SU, u = u0 := ⟨_, rfl⟩
  rw [← hu9] at hP hD
  refine lv_iload_n hx hb dX7_put_0 rfl (lv_at hl 1 rfl) ?_
  refine lz_sn (As := [.int x0]) (rest := []) ⟨hx, hb, hml, hown, hts⟩ (k_X11_isShelf l D cI cS x0) hKK (hP.sub (ws' := []) [] rfl) ⟨va_cnB 1 hts gX7_put_X11_isShelf_n18 rfl rfl rfl hKK.2.2.2.2.2.2.2.2.2.2.2.2.2.2.2.2.2.2.2.2.2.2.2.2.1 (hts (.initialized RX11) (by decide +kernel)) (by decide +kernel) ⟨Nat.le_of_ble_eq_true rfl, Nat.le_of_ble_eq_true rfl⟩, (hts (.static yX11_isShelf) (by decide +kernel)), trivial⟩ rfl hl.1 rfl (Nat.le_of_ble_eq_true rfl) dX7_put_1 ⟨Nat.le_of_ble_eq_true rfl, Nat.le_of_ble_eq_true rfl⟩ (fun r44380 hr44380 => ?_)
  refine lv_if_ne (tgt := 10) hx hb dX7_put_4 (by decide) (fun c44381 => ?_) (fun c44381 => ?_)
  · have g44382 : Rg 0 3 x0 := (hr44380.2 c44381)
    have g44383 : Rg 1 1 r44380 := rg_ne_lo (k := 0) hr44380.1 (by decide) c44381 (by decide)
    refine lv_aload_n hx hb dX7_put_10 rfl (lv_at hl 0 rfl) ?_
    refine va_get (D := D) (ci := 7) (v := .ref (a 43)) (C := RX7) (T := TX7) (N := 2) hx hb hts hin7 hown hK hP 42 rfl rfl 0 (by decide) (hts (.fieldLink RX7 11 "MissedPoints$Shelves" "kinds" "[I") (by decide +kernel)) (fun _ h9 => h9) rfl dX7_put_11 ?_
    refine lv_iload_n hx hb dX7_put_14 rfl (lv_at hl 1 rfl) ?_
    refine lv_iload_n hx hb dX7_put_15 rfl (lv_at hl 2 rfl) ?_
    refine ks_ast hx hb hK hP hD hS rfl (k := 43) rfl sx_43 (rg_in g44382 (by decide) (by decide)) dX7_put_16 (fun u H locs hP hD hS => ?_)
    refine lv_aload_n hx hb dX7_put_17 rfl (lv_at hl 0 rfl) ?_
    refine va_get (D := D) (ci := 7) (v := .ref (a 44)) (C := RX7) (T := TX7) (N := 2) hx hb hts hin7 hown hK hP 42 rfl rfl 1 (by decide) (hts (.fieldLink RX7 15 "MissedPoints$Shelves" "worths" "[I") (by decide +kernel)) (fun _ h9 => h9) rfl dX7_put_18 ?_
    refine lv_iload_n hx hb dX7_put_21 rfl (lv_at hl 1 rfl) ?_
    refine lv_iload_n hx hb dX7_put_22 rfl (lv_at hl 3 rfl) ?_
    refine ks_ast hx hb hK hP hD hS rfl (k := 44) rfl sx_44 (rg_in g44382 (by decide) (by decide)) dX7_put_23 (fun u H locs hP hD hS => ?_)
    refine lv_iconst (v := 1) hx hb dX7_put_24 (by decide) ?_
    subst hAe
    exact W.iret (v := 1) hx hb hr (fun t ht hW => ⟨⟨_, u, rfl, ⟨(by decide : Rg (-2) 1 (1 : Int32)), trivial⟩, by rw [ht]; exact hP, hD⟩, hS.F ht⟩) hS.2.2 dX7_put_25
  · have g44384 : Rg 0 0 r44380 := wk_eql hr44380.1 (by decide : Rg 0 0 (0 : Int32)) c44381 (by decide)
    refine lv_bipush (v := (-2)) hx hb dX7_put_7 (by decide) ?_
    subst hAe
    exact W.iret (v := (-2)) hx hb hr (fun t ht hW => ⟨⟨_, u, rfl, ⟨(by decide : Rg (-2) 1 ((-2) : Int32)), trivial⟩, by rw [ht]; exact hP, hD⟩, hS.F ht⟩) hS.2.2 dX7_put_9
theorem dX7_isEmpty_21 : decode cX7_isEmpty 21 = .ok (.iconst 0, 1) := by decide +kernel
set_option maxHeartbeats 4000000 in
set_option maxRecDepth 100000 in
theorem k_X7_isEmpty (l : Launch) (D : va_G) (cI cS : ClassId) (a : Nat → Nat) (na nc N : Nat) (L u : SU) (hL : TyX L) (hN : N = 0 ∨ N = 24576) (x0 : Int32) : Met l yX7_isEmpty wsX7_isEmpty ({ frames := 1, cells := 0, slots := 0, locals := 40 }) (PS D cI cS (wX cI cS a na nc N L u) [.ref (a 42), .int x0]) (vp_Si (fun r => Rg 0 1 r ∧ (r = 0 → Rg 0 3 x0))) 0 0 (fun _ => False) := by
  refine Met.ofW (cc := cX7_isEmpty) (maxL := 2) (ret := (some .boolean)) (by decide) rfl ?_
  intro p e s m args below meth c s₁ B hml hv
  obtain ⟨rfl, hP, hKK⟩ := hv
  have hx := B.exec
  have hb := B.bytes
  have hr := B.returns
  have hts := atoms_spec (ws := wsX7_isEmpty) B.pre
  have hown : s.vm.findClass RX7 = some m.cls := findClass_of_methodNamed B.named
  have hlocks := B.notSynchronized
  have hK := hKK.1
  have hin7 : ∀ w ∈ wsX70, w ∈ wsX7_isEmpty := by decide +kernel
  have hl := lv_entry ([.ref (a 42), .int x0]) (n := 2) (Nat.le_of_ble_eq_true rfl)
  rw [lg_entry_eq]
  generalize (lg_sl ([.ref (a 42), .int x0]) ++ List.replicate (2 - (lg_sl ([.ref (a 42), .int x0])).length) Slot.unset).toArray = ls at hl ⊢
  have hl : lv_has ls 2 [(0, .ref (a 42)), (1, .int x0)] := hl
  refine lv_iload_n hx hb dX7_isEmpty_0 rfl (lv_at hl 1 rfl) ?_
  refine lz_sn (As := [.int x0]) (rest := []) ⟨hx, hb, hml, hown, hts⟩ (k_X11_isShelf l D cI cS x0) hKK (hP.sub (ws' := []) [] rfl) ⟨va_cnB 1 hts gX7_isEmpty_X11_isShelf_n18 rfl rfl rfl hKK.2.2.2.2.2.2.2.2.2.2.2.2.2.2.2.2.2.2.2.2.2.2.2.2.1 (hts (.initialized RX11) (by decide +kernel)) (by decide +kernel) ⟨Nat.le_of_ble_eq_true rfl, Nat.le_of_ble_eq_true rfl⟩, (hts (.static yX11_isShelf) (by decide +kernel)), trivial⟩ rfl hl.1 rfl (Nat.le_of_ble_eq_true rfl) dX7_isEmpty_1 ⟨Nat.le_of_ble_eq_true rfl, Nat.le_of_ble_eq_true rfl⟩ (fun r44393 hr44393 => ?_)
  refine lv_if_eq (tgt := 17) hx hb dX7_isEmpty_4 (by decide) (fun c44394 => ?_) (fun c44394 => ?_)
  · have g44395 : Rg 0 0 r44393 := wk_eql hr44393.1 (by decide : Rg 0 0 (0 : Int32)) c44394 (by decide)
    refine lv_iconst (v := 1) hx hb dX7_isEmpty_17 (by decide) ?_
    refine lv_goto (tgt := 22) hx hb dX7_isEmpty_18 (by decide) ?_
    exact W.zret (v := 1) hx hb hr (by decide) (fun t ht hW => ⟨_, rfl, ⟨(by decide : Rg 0 1 (1 : Int32)), fun h9 => absurd h9 (by decide)⟩, ht⟩) (fun q hq => absurd hq List.not_mem_nil) dX7_isEmpty_22
  · have g44396 : Rg 0 3 x0 := (hr44393.2 c44394)
    have g44397 : Rg 1 1 r44393 := rg_ne_lo (k := 0) hr44393.1 (by decide) c44394 (by decide)
    refine lv_aload_n hx hb dX7_isEmpty_7 rfl (lv_at hl 0 rfl) ?_
    refine va_get (D := D) (ci := 7) (v := .ref (a 43)) (C := RX7) (T := TX7) (N := 2) hx hb hts hin7 hown hK hP 42 rfl rfl 0 (by decide) (hts (.fieldLink RX7 11 "MissedPoints$Shelves" "kinds" "[I") (by decide +kernel)) (fun _ h9 => h9) rfl dX7_isEmpty_8 ?_
    refine lv_iload_n hx hb dX7_isEmpty_11 rfl (lv_at hl 1 rfl) ?_
    refine wk_aldA hx hb hK hP 43 0 rfl rfl (rg_in g44396 (by decide) (by decide)) dX7_isEmpty_12 (fun r44398 => ?_)
    refine lv_iconst (v := (-1)) hx hb dX7_isEmpty_13 (by decide) ?_
    refine lv_icmp_ne (tgt := 21) hx hb dX7_isEmpty_14 (by decide) (fun c44399 => ?_) (fun c44399 => ?_)
    · refine lv_iconst (v := 0) hx hb dX7_isEmpty_21 (by decide) ?_
      exact W.zret (v := 0) hx hb hr (by decide) (fun t ht hW => ⟨_, rfl, ⟨(by decide : Rg 0 1 (0 : Int32)), fun _ => g44396⟩, ht⟩) (fun q hq => absurd hq List.not_mem_nil) dX7_isEmpty_22
    · have g44400 : Rg (-1) (-1) r44398 := wk_eql (rg_any r44398) (by decide : Rg (-1) (-1) ((-1) : Int32)) c44399 (by decide)
      refine lv_iconst (v := 1) hx hb dX7_isEmpty_17 (by decide) ?_
      refine lv_goto (tgt := 22) hx hb dX7_isEmpty_18 (by decide) ?_
      exact W.zret (v := 1) hx hb hr (by decide) (fun t ht hW => ⟨_, rfl, ⟨(by decide : Rg 0 1 (1 : Int32)), fun h9 => absurd h9 (by decide)⟩, ht⟩) (fun q hq => absurd hq List.not_mem_nil) dX7_isEmpty_22
set_option maxRecDepth 20000 in
theorem ggX7_worthOf_X11_isShelf : GoodIn wsX7_worthOf wsX11_isShelf := goodIn_r _ [4] rfl (by decide +kernel)
set_option maxRecDepth 20000 in
theorem gX7_worthOf_X11_isShelf_n18 : GoodIn wsX7_worthOf (wsX11_isShelf) := ggX7_worthOf_X11_isShelf
theorem dX7_worthOf_0 : decode cX7_worthOf 0 = .ok (.iload_n 1, 1) := by decide +kernel
theorem dX7_worthOf_1 : decode cX7_worthOf 1 = .ok (.invokestatic 18, 3) := by decide +kernel
theorem dX7_worthOf_11 : decode cX7_worthOf 11 = .ok (.iload_n 1, 1) := by decide +kernel
theorem dX7_worthOf_12 : decode cX7_worthOf 12 = .ok (.iaload, 1) := by decide +kernel
theorem dX7_worthOf_13 : decode cX7_worthOf 13 = .ok (.goto 4, 3) := by decide +kernel
theorem dX7_worthOf_16 : decode cX7_worthOf 16 = .ok (.iconst 0, 1) := by decide +kernel
theorem dX7_worthOf_17 : decode cX7_worthOf 17 = .ok (.ireturn, 1) := by decide +kernel
theorem dX7_worthOf_4 : decode cX7_worthOf 4 = .ok (.ifCond .eq 12, 3) := by decide +kernel
theorem dX7_worthOf_7 : decode cX7_worthOf 7 = .ok (.aload_n 0, 1) := by decide +kernel
theorem dX7_worthOf_8 : decode cX7_worthOf 8 = .ok (.getfield 15, 3) := by decide +kernel
set_option maxHeartbeats 4000000 in
set_option maxRecDepth 100000 in
theorem k_X7_worthOf (l : Launch) (D : va_G) (cI cS : ClassId) (a : Nat → Nat) (na nc N : Nat) (L u : SU) (hL : TyX L) (hN : N = 0 ∨ N = 24576) (x0 : Int32) : Met l yX7_worthOf wsX7_worthOf ({ frames := 1, cells := 0, slots := 0, locals := 40 }) (PS D cI cS (wX cI cS a na nc N L u) [.ref (a 42), .int x0]) (vp_Si (fun r => Rg (-2147483648) 2147483647 r ∧ True)) 0 0 (fun _ => False) := by
  refine Met.ofW (cc := cX7_worthOf) (maxL := 2) (ret := (some .int)) (by decide) rfl ?_
  intro p e s m args below meth c s₁ B hml hv
  obtain ⟨rfl, hP, hKK⟩ := hv
  have hx := B.exec
  have hb := B.bytes
  have hr := B.returns
  have hts := atoms_spec (ws := wsX7_worthOf) B.pre
  have hown : s.vm.findClass RX7 = some m.cls := findClass_of_methodNamed B.named
  have hlocks := B.notSynchronized
  have hK := hKK.1
  have hin7 : ∀ w ∈ wsX70, w ∈ wsX7_worthOf := by decide +kernel
  have hl := lv_entry ([.ref (a 42), .int x0]) (n := 2) (Nat.le_of_ble_eq_true rfl)
  rw [lg_entry_eq]
  generalize (lg_sl ([.ref (a 42), .int x0]) ++ List.replicate (2 - (lg_sl ([.ref (a 42), .int x0])).length) Slot.unset).toArray = ls at hl ⊢
  have hl : lv_has ls 2 [(0, .ref (a 42)), (1, .int x0)] := hl
  refine lv_iload_n hx hb dX7_worthOf_0 rfl (lv_at hl 1 rfl) ?_
  refine lz_sn (As := [.int x0]) (rest := []) ⟨hx, hb, hml, hown, hts⟩ (k_X11_isShelf l D cI cS x0) hKK (hP.sub (ws' := []) [] rfl) ⟨va_cnB 1 hts gX7_worthOf_X11_isShelf_n18 rfl rfl rfl hKK.2.2.2.2.2.2.2.2.2.2.2.2.2.2.2.2.2.2.2.2.2.2.2.2.1 (hts (.initialized RX11) (by decide +kernel)) (by decide +kernel) ⟨Nat.le_of_ble_eq_true rfl, Nat.le_of_ble_eq_true rfl⟩, (hts (.static yX11_isShelf) (by decide +kernel)), trivial⟩ rfl hl.1 rfl (Nat.le_of_ble_eq_true rfl) dX7_worthOf_1 ⟨Nat.le_of_ble_eq_true rfl, Nat.le_of_ble_eq_true rfl⟩ (fun r44407 hr44407 => ?_)
  refine lv_if_eq (tgt := 16) hx hb dX7_worthOf_4 (by decide) (fun c44408 => ?_) (fun c44408 => ?_)
  · have g44409 : Rg 0 0 r44407 := wk_eql hr44407.1 (by decide : Rg 0 0 (0 : Int32)) c44408 (by decide)
    refine lv_iconst (v := 0) hx hb dX7_worthOf_16 (by decide) ?_
    exact W.iret (v := 0) hx hb hr (fun t ht hW => ⟨_, rfl, ⟨(by decide : Rg (-2147483648) 2147483647 (0 : Int32)), trivial⟩, ht⟩) (fun q hq => absurd hq List.not_mem_nil) dX7_worthOf_17
  · have g44410 : Rg 0 3 x0 := (hr44407.2 c44408)
    have g44411 : Rg 1 1 r44407 := rg_ne_lo (k := 0) hr44407.1 (by decide) c44408 (by decide)
    refine lv_aload_n hx hb dX7_worthOf_7 rfl (lv_at hl 0 rfl) ?_
    refine va_get (D := D) (ci := 7) (v := .ref (a 44)) (C := RX7) (T := TX7) (N := 2) hx hb hts hin7 hown hK hP 42 rfl rfl 1 (by decide) (hts (.fieldLink RX7 15 "MissedPoints$Shelves" "worths" "[I") (by decide +kernel)) (fun _ h9 => h9) rfl dX7_worthOf_8 ?_
    refine lv_iload_n hx hb dX7_worthOf_11 rfl (lv_at hl 1 rfl) ?_
    refine wk_aldA hx hb hK hP 44 0 rfl rfl (rg_in g44410 (by decide) (by decide)) dX7_worthOf_12 (fun r44412 => ?_)
    refine lv_goto (tgt := 17) hx hb dX7_worthOf_13 (by decide) ?_
    exact W.iret (v := r44412) hx hb hr (fun t ht hW => ⟨_, rfl, ⟨(rg_any r44412), trivial⟩, ht⟩) (fun q hq => absurd hq List.not_mem_nil) dX7_worthOf_17
set_option maxRecDepth 20000 in
theorem ggX7_holdsRow_X11_isShelf : GoodIn wsX7_holdsRow wsX11_isShelf := goodIn_r _ [4] rfl (by decide +kernel)
set_option maxRecDepth 20000 in
theorem gX7_holdsRow_X11_isShelf_n18 : GoodIn wsX7_holdsRow (wsX11_isShelf) := ggX7_holdsRow_X11_isShelf
theorem dX7_holdsRow_0 : decode cX7_holdsRow 0 = .ok (.iload_n 1, 1) := by decide +kernel
theorem dX7_holdsRow_1 : decode cX7_holdsRow 1 = .ok (.invokestatic 18, 3) := by decide +kernel
theorem dX7_holdsRow_11 : decode cX7_holdsRow 11 = .ok (.iload_n 1, 1) := by decide +kernel
theorem dX7_holdsRow_12 : decode cX7_holdsRow 12 = .ok (.iaload, 1) := by decide +kernel
theorem dX7_holdsRow_13 : decode cX7_holdsRow 13 = .ok (.iload_n 2, 1) := by decide +kernel
theorem dX7_holdsRow_14 : decode cX7_holdsRow 14 = .ok (.if_icmp .ne 7, 3) := by decide +kernel
theorem dX7_holdsRow_17 : decode cX7_holdsRow 17 = .ok (.iconst 1, 1) := by decide +kernel
theorem dX7_holdsRow_18 : decode cX7_holdsRow 18 = .ok (.goto 4, 3) := by decide +kernel
theorem dX7_holdsRow_21 : decode cX7_holdsRow 21 = .ok (.iconst 0, 1) := by decide +kernel
theorem dX7_holdsRow_22 : decode cX7_holdsRow 22 = .ok (.ireturn, 1) := by decide +kernel
theorem dX7_holdsRow_4 : decode cX7_holdsRow 4 = .ok (.ifCond .eq 17, 3) := by decide +kernel
theorem dX7_holdsRow_7 : decode cX7_holdsRow 7 = .ok (.aload_n 0, 1) := by decide +kernel
theorem dX7_holdsRow_8 : decode cX7_holdsRow 8 = .ok (.getfield 11, 3) := by decide +kernel
set_option maxHeartbeats 4000000 in
set_option maxRecDepth 100000 in
theorem k_X7_holdsRow (l : Launch) (D : va_G) (cI cS : ClassId) (a : Nat → Nat) (na nc N : Nat) (L u : SU) (hL : TyX L) (hN : N = 0 ∨ N = 24576) (x0 x1 : Int32) : Met l yX7_holdsRow wsX7_holdsRow ({ frames := 1, cells := 0, slots := 0, locals := 40 }) (PS D cI cS (wX cI cS a na nc N L u) [.ref (a 42), .int x0, .int x1]) (vp_Si (fun r => Rg 0 1 r ∧ (r ≠ 0 → Rg 0 3 x0))) 0 0 (fun _ => False) := by
  refine Met.ofW (cc := cX7_holdsRow) (maxL := 3) (ret := (some .boolean)) (by decide) rfl ?_
  intro p e s m args below meth c s₁ B hml hv
  obtain ⟨rfl, hP, hKK⟩ := hv
  have hx := B.exec
  have hb := B.bytes
  have hr := B.returns
  have hts := atoms_spec (ws := wsX7_holdsRow) B.pre
  have hown : s.vm.findClass RX7 = some m.cls := findClass_of_methodNamed B.named
  have hlocks := B.notSynchronized
  have hK := hKK.1
  have hin7 : ∀ w ∈ wsX70, w ∈ wsX7_holdsRow := by decide +kernel
  have hl := lv_entry ([.ref (a 42), .int x0, .int x1]) (n := 3) (Nat.le_of_ble_eq_true rfl)
  rw [lg_entry_eq]
  generalize (lg_sl ([.ref (a 42), .int x0, .int x1]) ++ List.replicate (3 - (lg_sl ([.ref (a 42), .int x0, .int x1])).length) Slot.unset).toArray = ls at hl ⊢
  have hl : lv_has ls 3 [(0, .ref (a 42)), (1, .int x0), (2, .int x1)] := hl
  refine lv_iload_n hx hb dX7_holdsRow_0 rfl (lv_at hl 1 rfl) ?_
  refine lz_sn (As := [.int x0]) (rest := []) ⟨hx, hb, hml, hown, hts⟩ (k_X11_isShelf l D cI cS x0) hKK (hP.sub (ws' := []) [] rfl) ⟨va_cnB 1 hts gX7_holdsRow_X11_isShelf_n18 rfl rfl rfl hKK.2.2.2.2.2.2.2.2.2.2.2.2.2.2.2.2.2.2.2.2.2.2.2.2.1 (hts (.initialized RX11) (by decide +kernel)) (by decide +kernel) ⟨Nat.le_of_ble_eq_true rfl, Nat.le_of_ble_eq_true rfl⟩, (hts (.static yX11_isShelf) (by decide +kernel)), trivial⟩ rfl hl.1 rfl (Nat.le_of_ble_eq_true rfl) dX7_holdsRow_1 ⟨Nat.le_of_ble_eq_true rfl, Nat.le_of_ble_eq_true rfl⟩ (fun r44420 hr44420 => ?_)
  refine lv_if_eq (tgt := 21) hx hb dX7_holdsRow_4 (by decide) (fun c44421 => ?_) (fun c44421 => ?_)
  · have g44422 : Rg 0 0 r44420 := wk_eql hr44420.1 (by decide : Rg 0 0 (0 : Int32)) c44421 (by decide)
    refine lv_iconst (v := 0) hx hb dX7_holdsRow_21 (by decide) ?_
    exact W.zret (v := 0) hx hb hr (by decide) (fun t ht hW => ⟨_, rfl, ⟨(by decide : Rg 0 1 (0 : Int32)), fun h9 => absurd rfl h9⟩, ht⟩) (fun q hq => absurd hq List.not_mem_nil) dX7_holdsRow_22
  · have g44423 : Rg 0 3 x0 := (hr44420.2 c44421)
    have g44424 : Rg 1 1 r44420 := rg_ne_lo (k := 0) hr44420.1 (by decide) c44421 (by decide)
    refine lv_aload_n hx hb dX7_holdsRow_7 rfl (lv_at hl 0 rfl) ?_
    refine va_get (D := D) (ci := 7) (v := .ref (a 43)) (C := RX7) (T := TX7) (N := 2) hx hb hts hin7 hown hK hP 42 rfl rfl 0 (by decide) (hts (.fieldLink RX7 11 "MissedPoints$Shelves" "kinds" "[I") (by decide +kernel)) (fun _ h9 => h9) rfl dX7_holdsRow_8 ?_
    refine lv_iload_n hx hb dX7_holdsRow_11 rfl (lv_at hl 1 rfl) ?_
    refine wk_aldA hx hb hK hP 43 0 rfl rfl (rg_in g44423 (by decide) (by decide)) dX7_holdsRow_12 (fun r44425 => ?_)
    refine lv_iload_n hx hb dX7_holdsRow_13 rfl (lv_at hl 2 rfl) ?_
    refine lv_icmp_ne (tgt := 21) hx hb dX7_holdsRow_14 (by decide) (fun c44426 => ?_) (fun c44426 => ?_)
    · refine lv_iconst (v := 0) hx hb dX7_holdsRow_21 (by decide) ?_
      exact W.zret (v := 0) hx hb hr (by decide) (fun t ht hW => ⟨_, rfl, ⟨(by decide : Rg 0 1 (0 : Int32)), fun h9 => absurd rfl h9⟩, ht⟩) (fun q hq => absurd hq List.not_mem_nil) dX7_holdsRow_22
    · refine lv_iconst (v := 1) hx hb dX7_holdsRow_17 (by decide) ?_
      refine lv_goto (tgt := 22) hx hb dX7_holdsRow_18 (by decide) ?_
      exact W.zret (v := 1) hx hb hr (by decide) (fun t ht hW => ⟨_, rfl, ⟨(by decide : Rg 0 1 (1 : Int32)), fun _ => g44423⟩, ht⟩) (fun q hq => absurd hq List.not_mem_nil) dX7_holdsRow_22
set_option maxRecDepth 20000 in
theorem ggX11_line_X2_join : GoodIn wsX11_line wsX2_join := goodIn_r _ [21, 16, 22, 17, 3, 4, 5, 6, 7, 8, 9, 10, 11, 39, 40, 41] rfl (by decide +kernel)
set_option maxRecDepth 20000 in
theorem gX11_line_X2_join : GoodIn wsX11_line (wsV RX11 112 RX2 yX2_join wsX2_join) := goodIn_app (goodIn_of _ (by decide +kernel)) ggX11_line_X2_join
set_option maxRecDepth 20000 in
theorem ggX11_line_X2_joined : GoodIn wsX11_line wsX2_joined := goodIn_r _ [15, 16, 17, 3, 4, 5, 6, 7, 8, 9, 10, 11, 39, 40, 41] rfl (by decide +kernel)
set_option maxRecDepth 20000 in
theorem gX11_line_X2_joined : GoodIn wsX11_line (wsV RX11 109 RX2 yX2_joined wsX2_joined) := goodIn_app (goodIn_of _ (by decide +kernel)) ggX11_line_X2_joined
theorem dX11_line_12 : decode cX11_line 12 = .ok (.iload_n 3, 1) := by decide +kernel
theorem dX11_line_13 : decode cX11_line 13 = .ok (.ifCond .eq 11, 3) := by decide +kernel
theorem dX11_line_16 : decode cX11_line 16 = .ok (.iload_n 3, 1) := by decide +kernel
theorem dX11_line_17 : decode cX11_line 17 = .ok (.iconst 1, 1) := by decide +kernel
theorem dX11_line_18 : decode cX11_line 18 = .ok (.if_icmp .eq 6, 3) := by decide +kernel
theorem dX11_line_24 : decode cX11_line 24 = .ok (.aload_n 0, 1) := by decide +kernel
theorem dX11_line_25 : decode cX11_line 25 = .ok (.getfield 12, 3) := by decide +kernel
theorem dX11_line_28 : decode cX11_line 28 = .ok (.iload_n 1, 1) := by decide +kernel
theorem dX11_line_29 : decode cX11_line 29 = .ok (.iload_n 2, 1) := by decide +kernel
theorem dX11_line_30 : decode cX11_line 30 = .ok (.invokevirtual 109, 3) := by decide +kernel
theorem dX11_line_33 : decode cX11_line 33 = .ok (.ifCond .eq 7, 3) := by decide +kernel
theorem dX11_line_36 : decode cX11_line 36 = .ok (.iconst 1, 1) := by decide +kernel
theorem dX11_line_37 : decode cX11_line 37 = .ok (.goto 4, 3) := by decide +kernel
theorem dX11_line_40 : decode cX11_line 40 = .ok (.iconst 0, 1) := by decide +kernel
theorem dX11_line_41 : decode cX11_line 41 = .ok (.istore 4, 2) := by decide +kernel
theorem dX11_line_43 : decode cX11_line 43 = .ok (.iload 4, 2) := by decide +kernel
theorem dX11_line_45 : decode cX11_line 45 = .ok (.iload_n 3, 1) := by decide +kernel
theorem dX11_line_46 : decode cX11_line 46 = .ok (.if_icmp .eq 22, 3) := by decide +kernel
theorem dX11_line_49 : decode cX11_line 49 = .ok (.aload_n 0, 1) := by decide +kernel
theorem dX11_line_50 : decode cX11_line 50 = .ok (.getfield 12, 3) := by decide +kernel
theorem dX11_line_53 : decode cX11_line 53 = .ok (.iload_n 1, 1) := by decide +kernel
theorem dX11_line_54 : decode cX11_line 54 = .ok (.iload_n 2, 1) := by decide +kernel
theorem dX11_line_55 : decode cX11_line 55 = .ok (.iload_n 3, 1) := by decide +kernel
theorem dX11_line_56 : decode cX11_line 56 = .ok (.iconst 1, 1) := by decide +kernel
theorem dX11_line_57 : decode cX11_line 57 = .ok (.if_icmp .ne 7, 3) := by decide +kernel
theorem dX11_line_60 : decode cX11_line 60 = .ok (.iconst 1, 1) := by decide +kernel
theorem dX11_line_61 : decode cX11_line 61 = .ok (.goto 4, 3) := by decide +kernel
theorem dX11_line_64 : decode cX11_line 64 = .ok (.iconst 0, 1) := by decide +kernel
theorem dX11_line_65 : decode cX11_line 65 = .ok (.invokevirtual 112, 3) := by decide +kernel
theorem dX11_line_68 : decode cX11_line 68 = .ok (.iload 4, 2) := by decide +kernel
theorem dX11_line_70 : decode cX11_line 70 = .ok (.ireturn, 1) := by decide +kernel
set_option maxHeartbeats 4000000 in
set_option maxRecDepth 100000 in
theorem k_X11_line (l : Launch) (D : va_G) (cI cS : ClassId) (sz : Nat) (a : Nat → Nat) (na nc N : Nat) (L u0 : SU) (hL : TyX L) (hN : N = 0 ∨ N = 24576) (x0 x1 x2 : Int32) : Met l yX11_line wsX11_line ({ frames := 3, cells := 0, slots := 0, locals := 120 }) (PQ D cI cS (wX cI cS a na nc N L u0) sz [.ref (a 0), .int x0, .int x1, .int x2]) (QF (S := SU) D (wX cI cS a na nc N L u0) (wX cI cS a na nc N L) sz (fun r _ => Rg (-2) 1 r ∧ True)) 0 0 (va_A (wX cI cS a na nc N L u0) sz) := by
  refine Met.ofW (cc := cX11_line) (maxL := 5) (ret := (some .int)) (by decide) rfl ?_
  intro p e s m args below meth c s₁ B hml hv
  obtain ⟨rfl, hsz, hP, hKK, hD0⟩ := hv
  have hx := B.exec
  have hb := B.bytes
  have hr := B.returns
  have hts := atoms_spec (ws := wsX11_line) B.pre
  have hown : s.vm.findClass RX11 = some m.cls := findClass_of_methodNamed B.named
  have hlocks := B.notSynchronized
  have hK := hKK.1
  have hin11 : ∀ w ∈ wsX110, w ∈ wsX11_line := by decide +kernel
  subst hsz
  have hD := hD0.self (sz := s.heap.size)
  obtain ⟨A, hAe⟩ : ∃ A, A = va_A (wX cI cS a na nc N L u0) s.heap.size := ⟨_, rfl⟩
  rw [← hAe] at hD
  have hA : ∀ q : Nat, s.heap.size ≤ q → A q := fun q h => by rw [hAe]; exact Or.inr h
  have hS : va_S A s.heap s.heap [] := va_S.rf
  have hl := lv_entry ([.ref (a 0), .int x0, .int x1, .int x2]) (n := 5) (Nat.le_of_ble_eq_true rfl)
  rw [lg_entry_eq]
  generalize (lg_sl ([.ref (a 0), .int x0, .int x1, .int x2]) ++ List.replicate (5 - (lg_sl ([.ref (a 0), .int x0, .int x1, .int x2])).length) Slot.unset).toArray = ls at hl ⊢
  have hl : lv_has ls 5 [(0, .ref (a 0)), (1, .int x0), (2, .int x1), (3, .int x2)] := hl
  obtain ⟨u, hu9⟩ : ∃ u : SU, u = u0 := ⟨_, rfl⟩
  rw [← hu9] at hP hD
  have ct41 : ∀ (y41_s0 : Int32) (u : SU) (H : Heap) (locs : List Loc) (ls : Array Slot), Rg 0 11 x0 → Rg 0 11 x1 → Rg 0 1 x2 → Rg 0 1 y41_s0 → va_P D cls (wX cI cS a na nc N L u) H → va_D A (wX cI cS a na nc N L u) → va_S A s.heap H locs → lv_has ls 5 [(0, .ref (a 0)), (1, .int x0), (2, .int x1), (3, .int x2)] → W p l e (headSpec wsX11_line ({ frames := 3, cells := 0, slots := 0, locals := 120 })).room s m ([.ref (a 0), .int x0, .int x1, .int x2]).toArray below meth c H locs 0 0 (MQ below (QF (S := SU) D (wX cI cS a na nc N L u0) (wX cI cS a na nc N L) s.heap.size (fun r _ => Rg (-2) 1 r ∧ True)) ([.ref (a 0), .int x0, .int x1, .int x2]).toArray s 0 0 (va_A (wX cI cS a na nc N L u0) s.heap.size)) (F0 m 41 ls [.int y41_s0]) := by
    intro y41_s0 u H locs ls g41_l1 g41_l2 g41_l3 g41_s0 hP hD hS hl
    refine lv_istore (lv' := [(4, .int y41_s0), (0, .ref (a 0)), (1, .int x0), (2, .int x1), (3, .int x2)]) hx hb dX11_line_41 hl (by decide) rfl (fun ls hl => ?_)
    refine lv_iload hx hb dX11_line_43 (lv_at hl 0 rfl) ?_
    refine lv_iload_n hx hb dX11_line_45 rfl (lv_at hl 4 rfl) ?_
    refine lv_icmp_eq (tgt := 68) hx hb dX11_line_46 (by decide) (fun c44475 => ?_) (fun c44475 => ?_)
    · refine lv_iload hx hb dX11_line_68 (lv_at hl 0 rfl) ?_
      subst hAe
      exact W.iret (v := y41_s0) hx hb hr (fun t ht hW => ⟨⟨_, u, rfl, ⟨(show Rg (-2) 1 y41_s0 from rg_w g41_s0 (by decide) (by decide)), trivial⟩, by rw [ht]; exact hP, hD⟩, hS.F ht⟩) hS.2.2 dX11_line_70
    · refine lv_aload_n hx hb dX11_line_49 rfl (lv_at hl 1 rfl) ?_
      refine va_get (D := D) (ci := 11) (v := .ref (a 1)) (C := RX11) (T := TX11) (N := 16) hx hb hts hin11 hown hK hP 0 rfl rfl 0 (by decide) (hts (.fieldLink RX11 12 "MissedPoints" "net" "LMissedPoints$Net;") (by decide +kernel)) (fun _ h9 => h9) rfl dX11_line_50 ?_
      refine lv_iload_n hx hb dX11_line_53 rfl (lv_at hl 2 rfl) ?_
      refine lv_iload_n hx hb dX11_line_54 rfl (lv_at hl 3 rfl) ?_
      refine lv_iload_n hx hb dX11_line_55 rfl (lv_at hl 4 rfl) ?_
      refine lv_iconst (v := 1) hx hb dX11_line_56 (by decide) ?_
      refine lv_icmp_ne (tgt := 64) hx hb dX11_line_57 (by decide) (fun c44476 => ?_) (fun c44476 => ?_)
      · have g44477 : Rg 0 0 x2 := rg_ne_hi (k := 1) g41_l3 (by decide) c44476 (by decide)
        refine lv_iconst (v := 0) hx hb dX11_line_64 (by decide) ?_
        refine wk_qv (wX cI cS a na nc N L) u (As := [.int x0, .int x1, .int 0]) (rest := []) ⟨hx, hb, hml, hown, hts⟩ (k_X2_join l D cI cS _ a na nc N L u hL hN x0 x1 (0 : Int32) (by decide : Rg 0 1 (0 : Int32))) hKK hP hD hS hA 1 (ci := 2) rfl rfl (cwV 3 hts gX11_line_X2_join rfl rfl rfl (by decide +kernel) ⟨Nat.le_of_ble_eq_true rfl, Nat.le_of_ble_eq_true rfl⟩) rfl hl.1 rfl (Nat.le_of_ble_eq_true rfl) dX11_line_65 ⟨Nat.le_of_ble_eq_true rfl, Nat.le_of_ble_eq_true rfl⟩ (fun u H locs hr44478 hP hD hS => ?_)
        refine lv_iload hx hb dX11_line_68 (lv_at hl 0 rfl) ?_
        subst hAe
        exact W.iret (v := y41_s0) hx hb hr (fun t ht hW => ⟨⟨_, u, rfl, ⟨(show Rg (-2) 1 y41_s0 from rg_w g41_s0 (by decide) (by decide)), trivial⟩, by rw [ht]; exact hP, hD⟩, hS.F ht⟩) hS.2.2 dX11_line_70
      · have g44479 : Rg 1 1 x2 := wk_eql g41_l3 (by decide : Rg 1 1 (1 : Int32)) c44476 (by decide)
        refine lv_iconst (v := 1) hx hb dX11_line_60 (by decide) ?_
        refine lv_goto (tgt := 65) hx hb dX11_line_61 (by decide) ?_
        refine wk_qv (wX cI cS a na nc N L) u (As := [.int x0, .int x1, .int 1]) (rest := []) ⟨hx, hb, hml, hown, hts⟩ (k_X2_join l D cI cS _ a na nc N L u hL hN x0 x1 (1 : Int32) (by decide : Rg 0 1 (1 : Int32))) hKK hP hD hS hA 1 (ci := 2) rfl rfl (cwV 3 hts gX11_line_X2_join rfl rfl rfl (by decide +kernel) ⟨Nat.le_of_ble_eq_true rfl, Nat.le_of_ble_eq_true rfl⟩) rfl hl.1 rfl (Nat.le_of_ble_eq_true rfl) dX11_line_65 ⟨Nat.le_of_ble_eq_true rfl, Nat.le_of_ble_eq_true rfl⟩ (fun u H locs hr44480 hP hD hS => ?_)
        refine lv_iload hx hb dX11_line_68 (lv_at hl 0 rfl) ?_
        subst hAe
        exact W.iret (v := y41_s0) hx hb hr (fun t ht hW => ⟨⟨_, u, rfl, ⟨(show Rg (-2) 1 y41_s0 from rg_w g41_s0 (by decide) (by decide)), trivial⟩, by rw [ht]; exact hP, hD⟩, hS.F ht⟩) hS.2.2 dX11_line_70
  refine lv_aload_n hx hb dX11_line_0 rfl (lv_at hl 0 rfl) ?_
  refine va_get (D := D) (ci := 11) (v := .ref (a 1)) (C := RX11) (T := TX11) (N := 16) hx hb hts hin11 hown hK hP 0 rfl rfl 0 (by decide) (hts (.fieldLink RX11 12 "MissedPoints" "net" "LMissedPoints$Net;") (by decide +kernel)) (fun _ h9 => h9) rfl dX11_line_1 ?_
  refine lv_iload_n hx hb dX11_line_4 rfl (lv_at hl 1 rfl) ?_
  refine lv_iload_n hx hb dX11_line_5 rfl (lv_at hl 2 rfl) ?_
  refine wk_sv 1 (As := [.int x0, .int x1]) (rest := []) ⟨hx, hb, hml, hown, hts⟩ (k_X2_areTwo l D cI cS a na nc N L u hL hN x0 x1) hKK hP (ci := 2) rfl rfl (cwV 2 hts gX11_line_X2_areTwo rfl rfl rfl (by decide +kernel) ⟨Nat.le_of_ble_eq_true rfl, Nat.le_of_ble_eq_true rfl⟩) rfl hl.1 rfl (Nat.le_of_ble_eq_true rfl) dX11_line_6 ⟨Nat.le_of_ble_eq_true rfl, Nat.le_of_ble_eq_true rfl⟩ (fun r44481 hr44481 => ?_)
  refine lv_if_eq (tgt := 21) hx hb dX11_line_9 (by decide) (fun c44482 => ?_) (fun c44482 => ?_)
  · have g44483 : Rg 0 0 r44481 := wk_eql hr44481.1 (by decide : Rg 0 0 (0 : Int32)) c44482 (by decide)
    refine lv_bipush (v := (-2)) hx hb dX11_line_21 (by decide) ?_
    subst hAe
    exact W.iret (v := (-2)) hx hb hr (fun t ht hW => ⟨⟨_, u, rfl, ⟨(by decide : Rg (-2) 1 ((-2) : Int32)), trivial⟩, by rw [ht]; exact hP, hD⟩, hS.F ht⟩) hS.2.2 dX11_line_23
  · have g44484 : Rg 0 11 x0 := (hr44481.2 c44482).1
    have g44485 : Rg 0 11 x1 := (hr44481.2 c44482).2
    have g44486 : Rg 1 1 r44481 := rg_ne_lo (k := 0) hr44481.1 (by decide) c44482 (by decide)
    refine lv_iload_n hx hb dX11_line_12 rfl (lv_at hl 3 rfl) ?_
    refine lv_if_eq (tgt := 24) hx hb dX11_line_13 (by decide) (fun c44487 => ?_) (fun c44487 => ?_)
    · have g44488 : Rg 0 0 x2 := wk_eql (rg_any x2) (by decide : Rg 0 0 (0 : Int32)) c44487 (by decide)
      refine lv_aload_n hx hb dX11_line_24 rfl (lv_at hl 0 rfl) ?_
      refine va_get (D := D) (ci := 11) (v := .ref (a 1)) (C := RX11) (T := TX11) (N := 16) hx hb hts hin11 hown hK hP 0 rfl rfl 0 (by decide) (hts (.fieldLink RX11 12 "MissedPoints" "net" "LMissedPoints$Net;") (by decide +kernel)) (fun _ h9 => h9) rfl dX11_line_25 ?_
      refine lv_iload_n hx hb dX11_line_28 rfl (lv_at hl 1 rfl) ?_
      refine lv_iload_n hx hb dX11_line_29 rfl (lv_at hl 2 rfl) ?_
      refine wk_sv 1 (As := [.int x0, .int x1]) (rest := []) ⟨hx, hb, hml, hown, hts⟩ (k_X2_joined l D cI cS a na nc N L u hL hN x0 x1) hKK hP (ci := 2) rfl rfl (cwV 2 hts gX11_line_X2_joined rfl rfl rfl (by decide +kernel) ⟨Nat.le_of_ble_eq_true rfl, Nat.le_of_ble_eq_true rfl⟩) rfl hl.1 rfl (Nat.le_of_ble_eq_true rfl) dX11_line_30 ⟨Nat.le_of_ble_eq_true rfl, Nat.le_of_ble_eq_true rfl⟩ (fun r44489 hr44489 => ?_)
      refine lv_if_eq (tgt := 40) hx hb dX11_line_33 (by decide) (fun c44490 => ?_) (fun c44490 => ?_)
      · have g44491 : Rg 0 0 r44489 := wk_eql hr44489.1 (by decide : Rg 0 0 (0 : Int32)) c44490 (by decide)
        refine lv_iconst (v := 0) hx hb dX11_line_40 (by decide) ?_
        exact ct41 (0 : Int32) u _ _ ls g44484 g44485 (show Rg 0 1 x2 from rg_w g44488 (by decide) (by decide)) (by decide : Rg 0 1 (0 : Int32)) hP hD hS (lv_sub (l' := [(0, .ref (a 0)), (1, .int x0), (2, .int x1), (3, .int x2)]) hl [0, 1, 2, 3] rfl)
      · have g44492 : Rg 1 1 r44489 := rg_ne_lo (k := 0) hr44489.1 (by decide) c44490 (by decide)
        refine lv_iconst (v := 1) hx hb dX11_line_36 (by decide) ?_
        refine lv_goto (tgt := 41) hx hb dX11_line_37 (by decide) ?_
        exact ct41 (1 : Int32) u _ _ ls g44484 g44485 (show Rg 0 1 x2 from rg_w g44488 (by decide) (by decide)) (by decide : Rg 0 1 (1 : Int32)) hP hD hS (lv_sub (l' := [(0, .ref (a 0)), (1, .int x0), (2, .int x1), (3, .int x2)]) hl [0, 1, 2, 3] rfl)
    · refine lv_iload_n hx hb dX11_line_16 rfl (lv_at hl 3 rfl) ?_
      refine lv_iconst (v := 1) hx hb dX11_line_17 (by decide) ?_
      refine lv_icmp_eq (tgt := 24) hx hb dX11_line_18 (by decide) (fun c44493 => ?_) (fun c44493 => ?_)
      · have g44494 : Rg 1 1 x2 := wk_eql (rg_any x2) (by decide : Rg 1 1 (1 : Int32)) c44493 (by decide)
        refine lv_aload_n hx hb dX11_line_24 rfl (lv_at hl 0 rfl) ?_
        refine va_get (D := D) (ci := 11) (v := .ref (a 1)) (C := RX11) (T := TX11) (N := 16) hx hb hts hin11 hown hK hP 0 rfl rfl 0 (by decide) (hts (.fieldLink RX11 12 "MissedPoints" "net" "LMissedPoints$Net;") (by decide +kernel)) (fun _ h9 => h9) rfl dX11_line_25 ?_
        refine lv_iload_n hx hb dX11_line_28 rfl (lv_at hl 1 rfl) ?_
        refine lv_iload_n hx hb dX11_line_29 rfl (lv_at hl 2 rfl) ?_
        refine wk_sv 1 (As := [.int x0, .int x1]) (rest := []) ⟨hx, hb, hml, hown, hts⟩ (k_X2_joined l D cI cS a na nc N L u hL hN x0 x1) hKK hP (ci := 2) rfl rfl (cwV 2 hts gX11_line_X2_joined rfl rfl rfl (by decide +kernel) ⟨Nat.le_of_ble_eq_true rfl, Nat.le_of_ble_eq_true rfl⟩) rfl hl.1 rfl (Nat.le_of_ble_eq_true rfl) dX11_line_30 ⟨Nat.le_of_ble_eq_true rfl, Nat.le_of_ble_eq_true rfl⟩ (fun r44495 hr44495 => ?_)
        refine lv_if_eq (tgt := 40) hx hb dX11_line_33 (by decide) (fun c44496 => ?_) (fun c44496 => ?_)
        · have g44497 : Rg 0 0 r44495 := wk_eql hr44495.1 (by decide : Rg 0 0 (0 : Int32)) c44496 (by decide)
          refine lv_iconst (v := 0) hx hb dX11_line_40 (by decide) ?_
          exact ct41 (0 : Int32) u _ _ ls g44484 g44485 (show Rg 0 1 x2 from rg_w g44494 (by decide) (by decide)) (by decide : Rg 0 1 (0 : Int32)) hP hD hS (lv_sub (l' := [(0, .ref (a 0)), (1, .int x0), (2, .int x1), (3, .int x2)]) hl [0, 1, 2, 3] rfl)
        · have g44498 : Rg 1 1 r44495 := rg_ne_lo (k := 0) hr44495.1 (by decide) c44496 (by decide)
          refine lv_iconst (v := 1) hx hb dX11_line_36 (by decide) ?_
          refine lv_goto (tgt := 41) hx hb dX11_line_37 (by decide) ?_
          exact ct41 (1 : Int32) u _ _ ls g44484 g44485 (show Rg 0 1 x2 from rg_w g44494 (by decide) (by decide)) (by decide : Rg 0 1 (1 : Int32)) hP hD hS (lv_sub (l' := [(0, .ref (a 0)), (1, .int x0), (2, .int x1), (3, .int x2)]) hl [0, 1, 2, 3] rfl)
      · refine lv_bipush (v := (-2)) hx hb dX11_line_21 (by decide) ?_
        subst hAe
        exact W.iret (v := (-2)) hx hb hr (fun t ht hW => ⟨⟨_, u, rfl, ⟨(by decide : Rg (-2) 1 ((-2) : Int32)), trivial⟩, by rw [ht]; exact hP, hD⟩, hS.F ht⟩) hS.2.2 dX11_line_23
set_option maxRecDepth 20000 in
theorem ggX11_next_X2_near : GoodIn wsX11_next wsX2_near := goodIn_r _ [11, 12, 13, 3, 4, 5, 6, 7, 30, 31, 32] rfl (by decide +kernel)
set_option maxRecDepth 20000 in
theorem gX11_next_X2_near : GoodIn wsX11_next (wsV RX11 120 RX2 yX2_near wsX2_near) := goodIn_app (goodIn_of _ (by decide +kernel)) ggX11_next_X2_near
theorem dX11_next_11 : decode cX11_next 11 = .ok (.aload_n 0, 1) := by decide +kernel
theorem dX11_next_12 : decode cX11_next 12 = .ok (.getfield 12, 3) := by decide +kernel
theorem dX11_next_15 : decode cX11_next 15 = .ok (.iload_n 1, 1) := by decide +kernel
theorem dX11_next_16 : decode cX11_next 16 = .ok (.invokevirtual 120, 3) := by decide +kernel
theorem dX11_next_19 : decode cX11_next 19 = .ok (.goto 5, 3) := by decide +kernel
set_option maxHeartbeats 4000000 in
set_option maxRecDepth 100000 in
theorem k_X11_next (l : Launch) (D : va_G) (cI cS : ClassId) (a : Nat → Nat) (na nc N : Nat) (L u : SU) (hL : TyX L) (hN : N = 0 ∨ N = 24576) (x0 : Int32) : Met l yX11_next wsX11_next ({ frames := 2, cells := 0, slots := 0, locals := 80 }) (PS D cI cS (wX cI cS a na nc N L u) [.ref (a 0), .int x0]) (vp_Si (fun r => Rg (-2147483648) 2147483647 r ∧ True)) 0 0 (fun _ => False) := by
  refine Met.ofW (cc := cX11_next) (maxL := 2) (ret := (some .int)) (by decide) rfl ?_
  intro p e s m args below meth c s₁ B hml hv
  obtain ⟨rfl, hP, hKK⟩ := hv
  have hx := B.exec
  have hb := B.bytes
  have hr := B.returns
  have hts := atoms_spec (ws := wsX11_next) B.pre
  have hown : s.vm.findClass RX11 = some m.cls := findClass_of_methodNamed B.named
  have hlocks := B.notSynchronized
  have hK := hKK.1
  have hin11 : ∀ w ∈ wsX110, w ∈ wsX11_next := by decide +kernel
  have hl := lv_entry ([.ref (a 0), .int x0]) (n := 2) (Nat.le_of_ble_eq_true rfl)
  rw [lg_entry_eq]
  generalize (lg_sl ([.ref (a 0), .int x0]) ++ List.replicate (2 - (lg_sl ([.ref (a 0), .int x0])).length) Slot.unset).toArray = ls at hl ⊢
  have hl : lv_has ls 2 [(0, .ref (a 0)), (1, .int x0)] := hl
  refine lv_aload_n hx hb dX11_next_0 rfl (lv_at hl 0 rfl) ?_
  refine va_get (D := D) (ci := 11) (v := .ref (a 1)) (C := RX11) (T := TX11) (N := 16) hx hb hts hin11 hown hK hP 0 rfl rfl 0 (by decide) (hts (.fieldLink RX11 12 "MissedPoints" "net" "LMissedPoints$Net;") (by decide +kernel)) (fun _ h9 => h9) rfl dX11_next_1 ?_
  refine lv_iload_n hx hb dX11_next_4 rfl (lv_at hl 1 rfl) ?_
  refine wk_sv 1 (As := [.int x0]) (rest := []) ⟨hx, hb, hml, hown, hts⟩ (k_X2_hasPoint l D cI cS a na nc N L u hL hN x0) hKK hP (ci := 2) rfl rfl (cwV 1 hts gX11_next_X2_hasPoint rfl rfl rfl (by decide +kernel) ⟨Nat.le_of_ble_eq_true rfl, Nat.le_of_ble_eq_true rfl⟩) rfl hl.1 rfl (Nat.le_of_ble_eq_true rfl) dX11_next_5 ⟨Nat.le_of_ble_eq_true rfl, Nat.le_of_ble_eq_true rfl⟩ (fun r44505 hr44505 => ?_)
  refine lv_if_eq (tgt := 22) hx hb dX11_next_8 (by decide) (fun c44506 => ?_) (fun c44506 => ?_)
  · have g44507 : Rg 0 0 r44505 := wk_eql hr44505.1 (by decide : Rg 0 0 (0 : Int32)) c44506 (by decide)
    refine lv_bipush (v := (-2)) hx hb dX11_next_22 (by decide) ?_
    exact W.iret (v := (-2)) hx hb hr (fun t ht hW => ⟨_, rfl, ⟨(by decide : Rg (-2147483648) 2147483647 ((-2) : Int32)), trivial⟩, ht⟩) (fun q hq => absurd hq List.not_mem_nil) dX11_next_24
  · have g44508 : Rg 0 11 x0 := (hr44505.2 c44506)
    have g44509 : Rg 1 1 r44505 := rg_ne_lo (k := 0) hr44505.1 (by decide) c44506 (by decide)
    refine lv_aload_n hx hb dX11_next_11 rfl (lv_at hl 0 rfl) ?_
    refine va_get (D := D) (ci := 11) (v := .ref (a 1)) (C := RX11) (T := TX11) (N := 16) hx hb hts hin11 hown hK hP 0 rfl rfl 0 (by decide) (hts (.fieldLink RX11 12 "MissedPoints" "net" "LMissedPoints$Net;") (by decide +kernel)) (fun _ h9 => h9) rfl dX11_next_12 ?_
    refine lv_iload_n hx hb dX11_next_15 rfl (lv_at hl 1 rfl) ?_
    refine wk_sv 1 (As := [.int x0]) (rest := []) ⟨hx, hb, hml, hown, hts⟩ (k_X2_near l D cI cS a na nc N L u hL hN x0) hKK hP (ci := 2) rfl rfl (cwV 1 hts gX11_next_X2_near rfl rfl rfl (by decide +kernel) ⟨Nat.le_of_ble_eq_true rfl, Nat.le_of_ble_eq_true rfl⟩) rfl hl.1 rfl (Nat.le_of_ble_eq_true rfl) dX11_next_16 ⟨Nat.le_of_ble_eq_true rfl, Nat.le_of_ble_eq_true rfl⟩ (fun r44510 hr44510 => ?_)
    refine lv_goto (tgt := 24) hx hb dX11_next_19 (by decide) ?_
    exact W.iret (v := r44510) hx hb hr (fun t ht hW => ⟨_, rfl, ⟨hr44510.1, trivial⟩, ht⟩) (fun q hq => absurd hq List.not_mem_nil) dX11_next_24
set_option maxHeartbeats 4000000 in
set_option maxRecDepth 100000 in
theorem k_X11_count (l : Launch) (D : va_G) (cI cS : ClassId) (sz : Nat) (a : Nat → Nat) (na nc N : Nat) (L u0 : SU) (hL : TyX L) (hN : N = 0 ∨ N = 24576) (x0 : Int32) : Met l yX11_count wsX11_count ({ frames := 17, cells := 0, slots := 0, locals := 680 }) (PQ D cI cS (wX cI cS a na nc N L u0) sz [.ref (a 0), .int x0]) (QF (S := SU) D (wX cI cS a na nc N L u0) (wX cI cS a na nc N L) sz (fun r _ => Rg (-2147483648) 2147483647 r ∧ True)) 0 0 (va_A (wX cI cS a na nc N L u0) sz) := by
  refine Met.ofW (cc := cX11_count) (maxL := 2) (ret := (some .int)) (by decide) rfl ?_
  intro p e s m args below meth c s₁ B hml hv
  obtain ⟨rfl, hsz, hP, hKK, hD0⟩ := hv
  have hx := B.exec
  have hb := B.bytes
  have hr := B.returns
  have hts := atoms_spec (ws := wsX11_count) B.pre
  have hown : s.vm.findClass RX11 = some m.cls := findClass_of_methodNamed B.named
  have hlocks := B.notSynchronized
  have hK := hKK.1
  have hin0 : ∀ w ∈ wsX00, w ∈ wsX11_count := by decide +kernel
  have hin2 : ∀ w ∈ wsX20, w ∈ wsX11_count := by decide +kernel
  have hin8 : ∀ w ∈ wsX80, w ∈ wsX11_count := by decide +kernel
  have hin11 : ∀ w ∈ wsX110, w ∈ wsX11_count := by decide +kernel
  subst hsz
  have hD := hD0.self (sz := s.heap.size)
  obtain ⟨A, hAe⟩ : ∃ A, A = va_A (wX cI cS a na nc N L u0) s.heap.size := ⟨_, rfl⟩
  rw [← hAe] at hD
  have hA : ∀ q : Nat, s.heap.size ≤ q → A q := fun q h => by rw [hAe]; exact Or.inr h
  have hS : va_S A s.heap s.heap [] := va_S.rf
  have hl := lv_entry ([.ref (a 0), .int x0]) (n := 2) (Nat.le_of_ble_eq_true rfl)
  rw [lg_entry_eq]
  generalize (lg_sl ([.ref (a 0), .int x0]) ++ List.replicate (2 - (lg_sl ([.ref (a 0), .int x0])).length) Slot.unset).toArray = ls at hl ⊢
  have hl : lv_has ls 2 [(0, .ref (a 0)), (1, .int x0)] := hl
  obtain ⟨u, hu9⟩ : ∃ u : SU, u = u0 := ⟨_, rfl⟩
  rw [← hu9] at hP hD
  refine lv_iload_n hx hb dX11_count_0 rfl (lv_at hl 1 rfl) ?_
  by_cases k44525 : x0 = 0
  · refine lz_top (y := 0) k44525 ?_
    refine lv_tableIn (tgt := 44) (off := 43) hx hb dX11_count_1 (by decide) (by decide) rfl (by decide) ?_
    refine lv_aload_n hx hb dX11_count_44 rfl (lv_at hl 0 rfl) ?_
    refine va_get (D := D) (ci := 11) (v := .ref (a 1)) (C := RX11) (T := TX11) (N := 16) hx hb hts hin11 hown hK hP 0 rfl rfl 0 (by decide) (hts (.fieldLink RX11 12 "MissedPoints" "net" "LMissedPoints$Net;") (by decide +kernel)) (fun _ h9 => h9) rfl dX11_count_45 ?_
    refine va_getN (D := D) (ci := 2) (v := .int (L 1 1)) (C := RX2) (T := TX2) (N := 3) hx hb hts hin2 hown hK hP 1 rfl rfl 1 (by decide) (va_Nw.use rfl hKK.2.2.2.2.2.2.2.2.2.2.1) (fun _ h9 => h9) rfl dX11_count_48 ?_
    subst hAe
    exact W.iret (v := (L 1 1)) hx hb hr (fun t ht hW => ⟨⟨_, u, rfl, ⟨(rg_any (L 1 1)), trivial⟩, by rw [ht]; exact hP, hD⟩, hS.F ht⟩) hS.2.2 dX11_count_51
  by_cases k44526 : x0 = 1
  · refine lz_top (y := 1) k44526 ?_
    refine lv_tableIn (tgt := 52) (off := 51) hx hb dX11_count_1 (by decide) (by decide) rfl (by decide) ?_
    refine lv_aload_n hx hb dX11_count_52 rfl (lv_at hl 0 rfl) ?_
    refine va_get (D := D) (ci := 11) (v := .ref (a 1)) (C := RX11) (T := TX11) (N := 16) hx hb hts hin11 hown hK hP 0 rfl rfl 0 (by decide) (hts (.fieldLink RX11 12 "MissedPoints" "net" "LMissedPoints$Net;") (by decide +kernel)) (fun _ h9 => h9) rfl dX11_count_53 ?_
    refine wk_sv 1 (As := []) (rest := []) ⟨hx, hb, hml, hown, hts⟩ (k_X2_lineCount l D cI cS a na nc N L u hL hN) hKK hP (ci := 2) rfl rfl (cwV 0 hts gX11_count_X2_lineCount rfl rfl rfl (by decide +kernel) ⟨Nat.le_of_ble_eq_true rfl, Nat.le_of_ble_eq_true rfl⟩) rfl hl.1 rfl (Nat.le_of_ble_eq_true rfl) dX11_count_56 ⟨Nat.le_of_ble_eq_true rfl, Nat.le_of_ble_eq_true rfl⟩ (fun r44527 hr44527 => ?_)
    subst hAe
    exact W.iret (v := r44527) hx hb hr (fun t ht hW => ⟨⟨_, u, rfl, ⟨hr44527.1, trivial⟩, by rw [ht]; exact hP, hD⟩, hS.F ht⟩) hS.2.2 dX11_count_59
  by_cases k44528 : x0 = 2
  · refine lz_top (y := 2) k44528 ?_
    refine lv_tableIn (tgt := 60) (off := 59) hx hb dX11_count_1 (by decide) (by decide) rfl (by decide) ?_
    refine lv_aload_n hx hb dX11_count_60 rfl (lv_at hl 0 rfl) ?_
    refine va_get (D := D) (ci := 11) (v := .ref (a 7)) (C := RX11) (T := TX11) (N := 16) hx hb hts hin11 hown hK hP 0 rfl rfl 1 (by decide) (hts (.fieldLink RX11 21 "MissedPoints" "pairs" "LMissedPoints$Pairs;") (by decide +kernel)) (fun _ h9 => h9) rfl dX11_count_61 ?_
    refine lv_aload_n hx hb dX11_count_64 rfl (lv_at hl 0 rfl) ?_
    refine va_get (D := D) (ci := 11) (v := .ref (a 1)) (C := RX11) (T := TX11) (N := 16) hx hb hts hin11 hown hK hP 0 rfl rfl 0 (by decide) (hts (.fieldLink RX11 12 "MissedPoints" "net" "LMissedPoints$Net;") (by decide +kernel)) (fun _ h9 => h9) rfl dX11_count_65 ?_
    refine wk_sv 1 (As := []) (rest := [.ref (a 7)]) ⟨hx, hb, hml, hown, hts⟩ (k_X2_all l D cI cS a na nc N L u hL hN) hKK hP (ci := 2) rfl rfl (cwV 0 hts gX11_count_X2_all rfl rfl rfl (by decide +kernel) ⟨Nat.le_of_ble_eq_true rfl, Nat.le_of_ble_eq_true rfl⟩) rfl hl.1 rfl (Nat.le_of_ble_eq_true rfl) dX11_count_68 ⟨Nat.le_of_ble_eq_true rfl, Nat.le_of_ble_eq_true rfl⟩ (fun r44529 hr44529 => ?_)
    refine wk_qi (wX cI cS a na nc N L) u (As := [.int r44529]) (rest := []) ⟨hx, hb, hml, hown, hts⟩ (k_X3_best l D cI cS _ a na nc N L u hL hN r44529) hKK hP hD hS hA 7 (ci := 3) rfl rfl (cwV 1 hts gX11_count_X3_best rfl rfl rfl (by decide +kernel) ⟨Nat.le_of_ble_eq_true rfl, Nat.le_of_ble_eq_true rfl⟩) rfl hl.1 rfl (Nat.le_of_ble_eq_true rfl) dX11_count_71 ⟨Nat.le_of_ble_eq_true rfl, Nat.le_of_ble_eq_true rfl⟩ (fun r44530 u H locs hr44530 hP hD hS => ?_)
    subst hAe
    exact W.iret (v := r44530) hx hb hr (fun t ht hW => ⟨⟨_, u, rfl, ⟨(rg_any r44530), trivial⟩, by rw [ht]; exact hP, hD⟩, hS.F ht⟩) hS.2.2 dX11_count_74
  by_cases k44531 : x0 = 3
  · refine lz_top (y := 3) k44531 ?_
    refine lv_tableIn (tgt := 75) (off := 74) hx hb dX11_count_1 (by decide) (by decide) rfl (by decide) ?_
    refine lv_aload_n hx hb dX11_count_75 rfl (lv_at hl 0 rfl) ?_
    refine va_get (D := D) (ci := 11) (v := .ref (a 7)) (C := RX11) (T := TX11) (N := 16) hx hb hts hin11 hown hK hP 0 rfl rfl 1 (by decide) (hts (.fieldLink RX11 21 "MissedPoints" "pairs" "LMissedPoints$Pairs;") (by decide +kernel)) (fun _ h9 => h9) rfl dX11_count_76 ?_
    refine lv_aload_n hx hb dX11_count_79 rfl (lv_at hl 0 rfl) ?_
    refine va_get (D := D) (ci := 11) (v := .ref (a 1)) (C := RX11) (T := TX11) (N := 16) hx hb hts hin11 hown hK hP 0 rfl rfl 0 (by decide) (hts (.fieldLink RX11 12 "MissedPoints" "net" "LMissedPoints$Net;") (by decide +kernel)) (fun _ h9 => h9) rfl dX11_count_80 ?_
    refine wk_sv 1 (As := []) (rest := [.ref (a 7)]) ⟨hx, hb, hml, hown, hts⟩ (k_X2_all l D cI cS a na nc N L u hL hN) hKK hP (ci := 2) rfl rfl (cwV 0 hts gX11_count_X2_all rfl rfl rfl (by decide +kernel) ⟨Nat.le_of_ble_eq_true rfl, Nat.le_of_ble_eq_true rfl⟩) rfl hl.1 rfl (Nat.le_of_ble_eq_true rfl) dX11_count_83 ⟨Nat.le_of_ble_eq_true rfl, Nat.le_of_ble_eq_true rfl⟩ (fun r44532 hr44532 => ?_)
    refine wk_qi (wX cI cS a na nc N L) u (As := [.int r44532]) (rest := []) ⟨hx, hb, hml, hown, hts⟩ (k_X3_lack l D cI cS _ a na nc N L u hL hN r44532) hKK hP hD hS hA 7 (ci := 3) rfl rfl (cwV 1 hts gX11_count_X3_lack rfl rfl rfl (by decide +kernel) ⟨Nat.le_of_ble_eq_true rfl, Nat.le_of_ble_eq_true rfl⟩) rfl hl.1 rfl (Nat.le_of_ble_eq_true rfl) dX11_count_86 ⟨Nat.le_of_ble_eq_true rfl, Nat.le_of_ble_eq_true rfl⟩ (fun r44533 u H locs hr44533 hP hD hS => ?_)
    subst hAe
    exact W.iret (v := r44533) hx hb hr (fun t ht hW => ⟨⟨_, u, rfl, ⟨hr44533.1, trivial⟩, by rw [ht]; exact hP, hD⟩, hS.F ht⟩) hS.2.2 dX11_count_89
  by_cases k44534 : x0 = 4
  · refine lz_top (y := 4) k44534 ?_
    refine lv_tableIn (tgt := 90) (off := 89) hx hb dX11_count_1 (by decide) (by decide) rfl (by decide) ?_
    refine lv_aload_n hx hb dX11_count_90 rfl (lv_at hl 0 rfl) ?_
    refine va_get (D := D) (ci := 11) (v := .ref (a 1)) (C := RX11) (T := TX11) (N := 16) hx hb hts hin11 hown hK hP 0 rfl rfl 0 (by decide) (hts (.fieldLink RX11 12 "MissedPoints" "net" "LMissedPoints$Net;") (by decide +kernel)) (fun _ h9 => h9) rfl dX11_count_91 ?_
    refine lv_aload_n hx hb dX11_count_94 rfl (lv_at hl 0 rfl) ?_
    refine va_get (D := D) (ci := 11) (v := .ref (a 1)) (C := RX11) (T := TX11) (N := 16) hx hb hts hin11 hown hK hP 0 rfl rfl 0 (by decide) (hts (.fieldLink RX11 12 "MissedPoints" "net" "LMissedPoints$Net;") (by decide +kernel)) (fun _ h9 => h9) rfl dX11_count_95 ?_
    refine wk_sv 1 (As := []) (rest := [.ref (a 1)]) ⟨hx, hb, hml, hown, hts⟩ (k_X2_all l D cI cS a na nc N L u hL hN) hKK hP (ci := 2) rfl rfl (cwV 0 hts gX11_count_X2_all rfl rfl rfl (by decide +kernel) ⟨Nat.le_of_ble_eq_true rfl, Nat.le_of_ble_eq_true rfl⟩) rfl hl.1 rfl (Nat.le_of_ble_eq_true rfl) dX11_count_98 ⟨Nat.le_of_ble_eq_true rfl, Nat.le_of_ble_eq_true rfl⟩ (fun r44535 hr44535 => ?_)
    refine wk_sv 1 (As := [.int r44535]) (rest := []) ⟨hx, hb, hml, hown, hts⟩ (k_X2_pieceCount l D cI cS a na nc N L u hL hN r44535) hKK hP (ci := 2) rfl rfl (cwV 1 hts gX11_count_X2_pieceCount rfl rfl rfl (by decide +kernel) ⟨Nat.le_of_ble_eq_true rfl, Nat.le_of_ble_eq_true rfl⟩) rfl hl.1 rfl (Nat.le_of_ble_eq_true rfl) dX11_count_101 ⟨Nat.le_of_ble_eq_true rfl, Nat.le_of_ble_eq_true rfl⟩ (fun r44536 hr44536 => ?_)
    subst hAe
    exact W.iret (v := r44536) hx hb hr (fun t ht hW => ⟨⟨_, u, rfl, ⟨hr44536.1, trivial⟩, by rw [ht]; exact hP, hD⟩, hS.F ht⟩) hS.2.2 dX11_count_104
  by_cases k44537 : x0 = 5
  · refine lz_top (y := 5) k44537 ?_
    refine lv_tableIn (tgt := 105) (off := 104) hx hb dX11_count_1 (by decide) (by decide) rfl (by decide) ?_
    refine lv_aload_n hx hb dX11_count_105 rfl (lv_at hl 0 rfl) ?_
    refine va_get (D := D) (ci := 11) (v := .ref (a 21)) (C := RX11) (T := TX11) (N := 16) hx hb hts hin11 hown hK hP 0 rfl rfl 10 (by decide) (hts (.fieldLink RX11 60 "MissedPoints" "tape" "LMissedPoints$Tape;") (by decide +kernel)) (fun _ h9 => h9) rfl dX11_count_106 ?_
    refine va_getN (D := D) (ci := 8) (v := .int (L 21 1)) (C := RX8) (T := TX8) (N := 2) hx hb hts hin8 hown hK hP 21 rfl rfl 1 (by decide) (va_Nw.use rfl hKK.2.1) (fun _ h9 => h9) rfl dX11_count_109 ?_
    subst hAe
    exact W.iret (v := (L 21 1)) hx hb hr (fun t ht hW => ⟨⟨_, u, rfl, ⟨(rg_any (L 21 1)), trivial⟩, by rw [ht]; exact hP, hD⟩, hS.F ht⟩) hS.2.2 dX11_count_112
  by_cases k44538 : x0 = 6
  · refine lz_top (y := 6) k44538 ?_
    refine lv_tableIn (tgt := 113) (off := 112) hx hb dX11_count_1 (by decide) (by decide) rfl (by decide) ?_
    refine lv_aload_n hx hb dX11_count_113 rfl (lv_at hl 0 rfl) ?_
    refine va_get (D := D) (ci := 11) (v := .ref (a 20)) (C := RX11) (T := TX11) (N := 16) hx hb hts hin11 hown hK hP 0 rfl rfl 9 (by decide) (hts (.fieldLink RX11 53 "MissedPoints" "draws" "LMissedPoints$Draws;") (by decide +kernel)) (fun _ h9 => h9) rfl dX11_count_114 ?_
    refine va_getN (D := D) (ci := 0) (v := .int (L 20 0)) (C := RX0) (T := TX0) (N := 1) hx hb hts hin0 hown hK hP 20 rfl rfl 0 (by decide) (va_Nw.use rfl hKK.2.2.1) (fun _ h9 => h9) rfl dX11_count_117 ?_
    subst hAe
    exact W.iret (v := (L 20 0)) hx hb hr (fun t ht hW => ⟨⟨_, u, rfl, ⟨(rg_any (L 20 0)), trivial⟩, by rw [ht]; exact hP, hD⟩, hS.F ht⟩) hS.2.2 dX11_count_120
  refine lv_tableOut (tgt := 121) hx hb dX11_count_1 (by have z0 : ¬ x0.toInt = 0 := fun z => k44525 (Int32.toInt_inj.mp (z.trans (by decide : (0 : Int) = (0 : Int32).toInt))); have z1 : ¬ x0.toInt = 1 := fun z => k44526 (Int32.toInt_inj.mp (z.trans (by decide : (1 : Int) = (1 : Int32).toInt))); have z2 : ¬ x0.toInt = 2 := fun z => k44528 (Int32.toInt_inj.mp (z.trans (by decide : (2 : Int) = (2 : Int32).toInt))); have z3 : ¬ x0.toInt = 3 := fun z => k44531 (Int32.toInt_inj.mp (z.trans (by decide : (3 : Int) = (3 : Int32).toInt))); have z4 : ¬ x0.toInt = 4 := fun z => k44534 (Int32.toInt_inj.mp (z.trans (by decide : (4 : Int) = (4 : Int32).toInt))); have z5 : ¬ x0.toInt = 5 := fun z => k44537 (Int32.toInt_inj.mp (z.trans (by decide : (5 : Int) = (5 : Int32).toInt))); have z6 : ¬ x0.toInt = 6 := fun z => k44538 (Int32.toInt_inj.mp (z.trans (by decide : (6 : Int) = (6 : Int32).toInt))); omega) (by decide) ?_
  refine lv_bipush (v := (-2)) hx hb dX11_count_121 (by decide) ?_
  subst hAe
  exact W.iret (v := (-2)) hx hb hr (fun t ht hW => ⟨⟨_, u, rfl, ⟨(by decide : Rg (-2147483648) 2147483647 ((-2) : Int32)), trivial⟩, by rw [ht]; exact hP, hD⟩, hS.F ht⟩) hS.2.2 dX11_count_123
set_option maxHeartbeats 4000000 in
set_option maxRecDepth 100000 in
theorem k_X11_most (l : Launch) (D : va_G) (cI cS : ClassId) (sz : Nat) (a : Nat → Nat) (na nc N : Nat) (L u0 : SU) (hL : TyX L) (hN : N = 0 ∨ N = 24576) (x0 : Int32) : Met l yX11_most wsX11_most ({ frames := 16, cells := 0, slots := 0, locals := 640 }) (PQ D cI cS (wX cI cS a na nc N L u0) sz [.ref (a 0), .int x0]) (QF (S := SU) D (wX cI cS a na nc N L u0) (wX cI cS a na nc N L) sz (fun r _ => Rg (-2) 65549 r ∧ True)) 0 0 (va_A (wX cI cS a na nc N L u0) sz) := by
  refine Met.ofW (cc := cX11_most) (maxL := 2) (ret := (some .int)) (by decide) rfl ?_
  intro p e s m args below meth c s₁ B hml hv
  obtain ⟨rfl, hsz, hP, hKK, hD0⟩ := hv
  have hx := B.exec
  have hb := B.bytes
  have hr := B.returns
  have hts := atoms_spec (ws := wsX11_most) B.pre
  have hown : s.vm.findClass RX11 = some m.cls := findClass_of_methodNamed B.named
  have hlocks := B.notSynchronized
  have hK := hKK.1
  have hin11 : ∀ w ∈ wsX110, w ∈ wsX11_most := by decide +kernel
  subst hsz
  have hD := hD0.self (sz := s.heap.size)
  obtain ⟨A, hAe⟩ : ∃ A, A = va_A (wX cI cS a na nc N L u0) s.heap.size := ⟨_, rfl⟩
  rw [← hAe] at hD
  have hA : ∀ q : Nat, s.heap.size ≤ q → A q := fun q h => by rw [hAe]; exact Or.inr h
  have hS : va_S A s.heap s.heap [] := va_S.rf
  have hl := lv_entry ([.ref (a 0), .int x0]) (n := 2) (Nat.le_of_ble_eq_true rfl)
  rw [lg_entry_eq]
  generalize (lg_sl ([.ref (a 0), .int x0]) ++ List.replicate (2 - (lg_sl ([.ref (a 0), .int x0])).length) Slot.unset).toArray = ls at hl ⊢
  have hl : lv_has ls 2 [(0, .ref (a 0)), (1, .int x0)] := hl
  obtain ⟨u, hu9⟩ : ∃ u : SU, u = u0 := ⟨_, rfl⟩
  rw [← hu9] at hP hD
  refine lv_aload_n hx hb dX11_most_0 rfl (lv_at hl 0 rfl) ?_
  refine va_get (D := D) (ci := 11) (v := .ref (a 1)) (C := RX11) (T := TX11) (N := 16) hx hb hts hin11 hown hK hP 0 rfl rfl 0 (by decide) (hts (.fieldLink RX11 12 "MissedPoints" "net" "LMissedPoints$Net;") (by decide +kernel)) (fun _ h9 => h9) rfl dX11_most_1 ?_
  refine lv_iload_n hx hb dX11_most_4 rfl (lv_at hl 1 rfl) ?_
  refine wk_sv 1 (As := [.int x0]) (rest := []) ⟨hx, hb, hml, hown, hts⟩ (k_X2_hasAll l D cI cS a na nc N L u hL hN x0) hKK hP (ci := 2) rfl rfl (cwV 1 hts gX11_most_X2_hasAll rfl rfl rfl (by decide +kernel) ⟨Nat.le_of_ble_eq_true rfl, Nat.le_of_ble_eq_true rfl⟩) rfl hl.1 rfl (Nat.le_of_ble_eq_true rfl) dX11_most_5 ⟨Nat.le_of_ble_eq_true rfl, Nat.le_of_ble_eq_true rfl⟩ (fun r44545 hr44545 => ?_)
  refine lv_if_eq (tgt := 22) hx hb dX11_most_8 (by decide) (fun c44546 => ?_) (fun c44546 => ?_)
  · have g44547 : Rg 0 0 r44545 := wk_eql hr44545.1 (by decide : Rg 0 0 (0 : Int32)) c44546 (by decide)
    refine lv_bipush (v := (-2)) hx hb dX11_most_22 (by decide) ?_
    subst hAe
    exact W.iret (v := (-2)) hx hb hr (fun t ht hW => ⟨⟨_, u, rfl, ⟨(by decide : Rg (-2) 65549 ((-2) : Int32)), trivial⟩, by rw [ht]; exact hP, hD⟩, hS.F ht⟩) hS.2.2 dX11_most_24
  · have g44548 : Rg 0 4095 x0 := (hr44545.2 c44546)
    have g44549 : Rg 1 1 r44545 := rg_ne_lo (k := 0) hr44545.1 (by decide) c44546 (by decide)
    refine lv_aload_n hx hb dX11_most_11 rfl (lv_at hl 0 rfl) ?_
    refine va_get (D := D) (ci := 11) (v := .ref (a 7)) (C := RX11) (T := TX11) (N := 16) hx hb hts hin11 hown hK hP 0 rfl rfl 1 (by decide) (hts (.fieldLink RX11 21 "MissedPoints" "pairs" "LMissedPoints$Pairs;") (by decide +kernel)) (fun _ h9 => h9) rfl dX11_most_12 ?_
    refine lv_iload_n hx hb dX11_most_15 rfl (lv_at hl 1 rfl) ?_
    refine wk_qi (wX cI cS a na nc N L) u (As := [.int x0]) (rest := []) ⟨hx, hb, hml, hown, hts⟩ (k_X3_best l D cI cS _ a na nc N L u hL hN x0) hKK hP hD hS hA 7 (ci := 3) rfl rfl (cwV 1 hts gX11_most_X3_best rfl rfl rfl (by decide +kernel) ⟨Nat.le_of_ble_eq_true rfl, Nat.le_of_ble_eq_true rfl⟩) rfl hl.1 rfl (Nat.le_of_ble_eq_true rfl) dX11_most_16 ⟨Nat.le_of_ble_eq_true rfl, Nat.le_of_ble_eq_true rfl⟩ (fun r44550 u H locs hr44550 hP hD hS => ?_)
    refine lv_goto (tgt := 24) hx hb dX11_most_19 (by decide) ?_
    subst hAe
    exact W.iret (v := r44550) hx hb hr (fun t ht hW => ⟨⟨_, u, rfl, ⟨(show Rg (-2) 65549 r44550 from rg_w hr44550.1 (by decide) (by decide)), trivial⟩, by rw [ht]; exact hP, hD⟩, hS.F ht⟩) hS.2.2 dX11_most_24
set_option maxRecDepth 20000 in
theorem ggX11_mate_X9_becomeFirst : GoodIn wsX11_mate wsX9_becomeFirst := goodIn_r _ [13, 14, 15, 16, 17, 18, 19, 20, 21, 22, 23, 24, 6, 25, 8, 26, 27, 28, 29, 30, 31, 32, 33, 34, 35, 4, 5, 7, 36, 37, 38, 39, 40, 41, 42, 43, 44, 45, 46, 47, 48, 49, 50, 51, 52, 53, 54, 55, 56, 57, 58, 59, 60, 61, 62, 63, 64, 65, 66, 67, 68, 69, 70, 71, 72, 73, 74, 75, 76, 77, 101, 102, 103, 104, 105, 106, 107, 108, 109, 110, 98, 99, 100, 111, 112] rfl (by decide +kernel)
set_option maxRecDepth 20000 in
theorem gX11_mate_X9_becomeFirst : GoodIn wsX11_mate (wsV RX11 147 RX9 yX9_becomeFirst wsX9_becomeFirst) := goodIn_app (goodIn_of _ (by decide +kernel)) ggX11_mate_X9_becomeFirst
set_option maxRecDepth 20000 in
theorem ggX11_mate_X9_mateOf : GoodIn wsX11_mate wsX9_mateOf := goodIn_r _ [81, 15, 101, 102, 103, 104, 105, 106] rfl (by decide +kernel)
set_option maxRecDepth 20000 in
theorem gX11_mate_X9_mateOf : GoodIn wsX11_mate (wsV RX11 150 RX9 yX9_mateOf wsX9_mateOf) := goodIn_app (goodIn_of _ (by decide +kernel)) ggX11_mate_X9_mateOf
theorem dX11_mate_14 : decode cX11_mate 14 = .ok (.aload_n 0, 1) := by decide +kernel
theorem dX11_mate_15 : decode cX11_mate 15 = .ok (.getfield 82, 3) := by decide +kernel
theorem dX11_mate_18 : decode cX11_mate 18 = .ok (.invokevirtual 147, 3) := by decide +kernel
theorem dX11_mate_21 : decode cX11_mate 21 = .ok (.aload_n 0, 1) := by decide +kernel
theorem dX11_mate_22 : decode cX11_mate 22 = .ok (.getfield 82, 3) := by decide +kernel
theorem dX11_mate_25 : decode cX11_mate 25 = .ok (.iload_n 1, 1) := by decide +kernel
theorem dX11_mate_26 : decode cX11_mate 26 = .ok (.invokevirtual 150, 3) := by decide +kernel
theorem dX11_mate_29 : decode cX11_mate 29 = .ok (.ireturn, 1) := by decide +kernel
set_option maxHeartbeats 4000000 in
set_option maxRecDepth 100000 in
theorem k_X11_mate (l : Launch) (D : va_G) (cI cS : ClassId) (sz : Nat) (a : Nat → Nat) (na nc N : Nat) (L u0 : SU) (hL : TyX L) (hN : N = 0 ∨ N = 24576) (x0 : Int32) : Met l yX11_mate wsX11_mate ({ frames := 19, cells := 0, slots := 0, locals := 760 }) (PQ D cI cS (wX cI cS a na nc N L u0) sz [.ref (a 0), .int x0]) (QF (S := SU) D (wX cI cS a na nc N L u0) (wX cI cS a na nc N L) sz (fun r _ => Rg (-2147483648) 2147483647 r ∧ True)) 0 0 (va_A (wX cI cS a na nc N L u0) sz) := by
  refine Met.ofW (cc := cX11_mate) (maxL := 2) (ret := (some .int)) (by decide) rfl ?_
  intro p e s m args below meth c s₁ B hml hv
  obtain ⟨rfl, hsz, hP, hKK, hD0⟩ := hv
  have hx := B.exec
  have hb := B.bytes
  have hr := B.returns
  have hts := atoms_spec (ws := wsX11_mate) B.pre
  have hown : s.vm.findClass RX11 = some m.cls := findClass_of_methodNamed B.named
  have hlocks := B.notSynchronized
  have hK := hKK.1
  have hin11 : ∀ w ∈ wsX110, w ∈ wsX11_mate := by decide +kernel
  subst hsz
  have hD := hD0.self (sz := s.heap.size)
  obtain ⟨A, hAe⟩ : ∃ A, A = va_A (wX cI cS a na nc N L u0) s.heap.size := ⟨_, rfl⟩
  rw [← hAe] at hD
  have hA : ∀ q : Nat, s.heap.size ≤ q → A q := fun q h => by rw [hAe]; exact Or.inr h
  have hS : va_S A s.heap s.heap [] := va_S.rf
  have hl := lv_entry ([.ref (a 0), .int x0]) (n := 2) (Nat.le_of_ble_eq_true rfl)
  rw [lg_entry_eq]
  generalize (lg_sl ([.ref (a 0), .int x0]) ++ List.replicate (2 - (lg_sl ([.ref (a 0), .int x0])).length) Slot.unset).toArray = ls at hl ⊢
  have hl : lv_has ls 2 [(0, .ref (a 0)), (1, .int x0)] := hl
  obtain ⟨u, hu9⟩ : ∃ u : SU, u = u0 := ⟨_, rfl⟩
  rw [← hu9] at hP hD
  refine lv_aload_n hx hb dX11_mate_0 rfl (lv_at hl 0 rfl) ?_
  refine va_get (D := D) (ci := 11) (v := .ref (a 1)) (C := RX11) (T := TX11) (N := 16) hx hb hts hin11 hown hK hP 0 rfl rfl 0 (by decide) (hts (.fieldLink RX11 12 "MissedPoints" "net" "LMissedPoints$Net;") (by decide +kernel)) (fun _ h9 => h9) rfl dX11_mate_1 ?_
  refine lv_iload_n hx hb dX11_mate_4 rfl (lv_at hl 1 rfl) ?_
  refine wk_sv 1 (As := [.int x0]) (rest := []) ⟨hx, hb, hml, hown, hts⟩ (k_X2_hasPoint l D cI cS a na nc N L u hL hN x0) hKK hP (ci := 2) rfl rfl (cwV 1 hts gX11_mate_X2_hasPoint rfl rfl rfl (by decide +kernel) ⟨Nat.le_of_ble_eq_true rfl, Nat.le_of_ble_eq_true rfl⟩) rfl hl.1 rfl (Nat.le_of_ble_eq_true rfl) dX11_mate_5 ⟨Nat.le_of_ble_eq_true rfl, Nat.le_of_ble_eq_true rfl⟩ (fun r44558 hr44558 => ?_)
  refine lv_if_ne (tgt := 14) hx hb dX11_mate_8 (by decide) (fun c44559 => ?_) (fun c44559 => ?_)
  · have g44560 : Rg 0 11 x0 := (hr44558.2 c44559)
    have g44561 : Rg 1 1 r44558 := rg_ne_lo (k := 0) hr44558.1 (by decide) c44559 (by decide)
    refine lv_aload_n hx hb dX11_mate_14 rfl (lv_at hl 0 rfl) ?_
    refine va_get (D := D) (ci := 11) (v := .ref (a 34)) (C := RX11) (T := TX11) (N := 16) hx hb hts hin11 hown hK hP 0 rfl rfl 13 (by decide) (hts (.fieldLink RX11 82 "MissedPoints" "told" "LMissedPoints$Told;") (by decide +kernel)) (fun _ h9 => h9) rfl dX11_mate_15 ?_
    refine wk_qv (wX cI cS a na nc N L) u (As := []) (rest := []) ⟨hx, hb, hml, hown, hts⟩ (k_X9_becomeFirst l D cI cS _ a na nc N L u hL hN) hKK hP hD hS hA 34 (ci := 9) rfl rfl (cwV 0 hts gX11_mate_X9_becomeFirst rfl rfl rfl (by decide +kernel) ⟨Nat.le_of_ble_eq_true rfl, Nat.le_of_ble_eq_true rfl⟩) rfl hl.1 rfl (Nat.le_of_ble_eq_true rfl) dX11_mate_18 ⟨Nat.le_of_ble_eq_true rfl, Nat.le_of_ble_eq_true rfl⟩ (fun u H locs hr44562 hP hD hS => ?_)
    refine lv_aload_n hx hb dX11_mate_21 rfl (lv_at hl 0 rfl) ?_
    refine va_get (D := D) (ci := 11) (v := .ref (a 34)) (C := RX11) (T := TX11) (N := 16) hx hb hts hin11 hown hK hP 0 rfl rfl 13 (by decide) (hts (.fieldLink RX11 82 "MissedPoints" "told" "LMissedPoints$Told;") (by decide +kernel)) (fun _ h9 => h9) rfl dX11_mate_22 ?_
    refine lv_iload_n hx hb dX11_mate_25 rfl (lv_at hl 1 rfl) ?_
    refine wk_sv 34 (As := [.int x0]) (rest := []) ⟨hx, hb, hml, hown, hts⟩ (k_X9_mateOf l D cI cS a na nc N L u hL hN x0) hKK hP (ci := 9) rfl rfl (cwV 1 hts gX11_mate_X9_mateOf rfl rfl rfl (by decide +kernel) ⟨Nat.le_of_ble_eq_true rfl, Nat.le_of_ble_eq_true rfl⟩) rfl hl.1 rfl (Nat.le_of_ble_eq_true rfl) dX11_mate_26 ⟨Nat.le_of_ble_eq_true rfl, Nat.le_of_ble_eq_true rfl⟩ (fun r44563 hr44563 => ?_)
    subst hAe
    exact W.iret (v := r44563) hx hb hr (fun t ht hW => ⟨⟨_, u, rfl, ⟨hr44563.1, trivial⟩, by rw [ht]; exact hP, hD⟩, hS.F ht⟩) hS.2.2 dX11_mate_29
  · have g44564 : Rg 0 0 r44558 := wk_eql hr44558.1 (by decide : Rg 0 0 (0 : Int32)) c44559 (by decide)
    refine lv_bipush (v := (-2)) hx hb dX11_mate_11 (by decide) ?_
    subst hAe
    exact W.iret (v := (-2)) hx hb hr (fun t ht hW => ⟨⟨_, u, rfl, ⟨(by decide : Rg (-2147483648) 2147483647 ((-2) : Int32)), trivial⟩, by rw [ht]; exact hP, hD⟩, hS.F ht⟩) hS.2.2 dX11_mate_13
set_option maxRecDepth 20000 in
theorem ggX11_mark_X4_markOf : GoodIn wsX11_mark wsX4_markOf := goodIn_r _ [13, 14, 15, 16, 17, 18, 19, 20, 21, 22, 23, 24, 6, 25, 8, 26, 27, 28, 29, 30, 31, 32, 33, 34, 35, 36, 37, 38, 39, 40, 41, 42, 43, 44, 45, 46, 47, 48, 49, 50, 51, 52, 53, 54, 55, 56, 57, 58, 59, 60, 61, 62, 63, 64, 65, 66, 67, 68, 69, 70, 71, 72, 73, 4, 5, 7, 93, 94, 95, 96, 97, 98, 90, 91, 92, 99, 100] rfl (by decide +kernel)
set_option maxRecDepth 20000 in
theorem gX11_mark_X4_markOf : GoodIn wsX11_mark (wsV RX11 160 RX4 yX4_markOf wsX4_markOf) := goodIn_app (goodIn_of _ (by decide +kernel)) ggX11_mark_X4_markOf
theorem dX11_mark_11 : decode cX11_mark 11 = .ok (.aload_n 0, 1) := by decide +kernel
theorem dX11_mark_12 : decode cX11_mark 12 = .ok (.getfield 30, 3) := by decide +kernel
theorem dX11_mark_15 : decode cX11_mark 15 = .ok (.iload_n 1, 1) := by decide +kernel
theorem dX11_mark_16 : decode cX11_mark 16 = .ok (.invokevirtual 160, 3) := by decide +kernel
theorem dX11_mark_19 : decode cX11_mark 19 = .ok (.goto 5, 3) := by decide +kernel
set_option maxHeartbeats 4000000 in
set_option maxRecDepth 100000 in
theorem k_X11_mark (l : Launch) (D : va_G) (cI cS : ClassId) (sz : Nat) (a : Nat → Nat) (na nc N : Nat) (L u0 : SU) (hL : TyX L) (hN : N = 0 ∨ N = 24576) (x0 : Int32) : Met l yX11_mark wsX11_mark ({ frames := 18, cells := 0, slots := 0, locals := 720 }) (PQ D cI cS (wX cI cS a na nc N L u0) sz [.ref (a 0), .int x0]) (QF (S := SU) D (wX cI cS a na nc N L u0) (wX cI cS a na nc N L) sz (fun r _ => Rg (-2) 2 r ∧ True)) 0 0 (va_A (wX cI cS a na nc N L u0) sz) := by
  refine Met.ofW (cc := cX11_mark) (maxL := 2) (ret := (some .int)) (by decide) rfl ?_
  intro p e s m args below meth c s₁ B hml hv
  obtain ⟨rfl, hsz, hP, hKK, hD0⟩ := hv
  have hx := B.exec
  have hb := B.bytes
  have hr := B.returns
  have hts := atoms_spec (ws := wsX11_mark) B.pre
  have hown : s.vm.findClass RX11 = some m.cls := findClass_of_methodNamed B.named
  have hlocks := B.notSynchronized
  have hK := hKK.1
  have hin11 : ∀ w ∈ wsX110, w ∈ wsX11_mark := by decide +kernel
  subst hsz
  have hD := hD0.self (sz := s.heap.size)
  obtain ⟨A, hAe⟩ : ∃ A, A = va_A (wX cI cS a na nc N L u0) s.heap.size := ⟨_, rfl⟩
  rw [← hAe] at hD
  have hA : ∀ q : Nat, s.heap.size ≤ q → A q := fun q h => by rw [hAe]; exact Or.inr h
  have hS : va_S A s.heap s.heap [] := va_S.rf
  have hl := lv_entry ([.ref (a 0), .int x0]) (n := 2) (Nat.le_of_ble_eq_true rfl)
  rw [lg_entry_eq]
  generalize (lg_sl ([.ref (a 0), .int x0]) ++ List.replicate (2 - (lg_sl ([.ref (a 0), .int x0])).length) Slot.unset).toArray = ls at hl ⊢
  have hl : lv_has ls 2 [(0, .ref (a 0)), (1, .int x0)] := hl
  obtain ⟨u, hu9⟩ : ∃ u : SU, u = u0 := ⟨_, rfl⟩
  rw [← hu9] at hP hD
  refine lv_aload_n hx hb dX11_mark_0 rfl (lv_at hl 0 rfl) ?_
  refine va_get (D := D) (ci := 11) (v := .ref (a 1)) (C := RX11) (T := TX11) (N := 16) hx hb hts hin11 hown hK hP 0 rfl rfl 0 (by decide) (hts (.fieldLink RX11 12 "MissedPoints" "net" "LMissedPoints$Net;") (by decide +kernel)) (fun _ h9 => h9) rfl dX11_mark_1 ?_
  refine lv_iload_n hx hb dX11_mark_4 rfl (lv_at hl 1 rfl) ?_
  refine wk_sv 1 (As := [.int x0]) (rest := []) ⟨hx, hb, hml, hown, hts⟩ (k_X2_hasPoint l D cI cS a na nc N L u hL hN x0) hKK hP (ci := 2) rfl rfl (cwV 1 hts gX11_mark_X2_hasPoint rfl rfl rfl (by decide +kernel) ⟨Nat.le_of_ble_eq_true rfl, Nat.le_of_ble_eq_true rfl⟩) rfl hl.1 rfl (Nat.le_of_ble_eq_true rfl) dX11_mark_5 ⟨Nat.le_of_ble_eq_true rfl, Nat.le_of_ble_eq_true rfl⟩ (fun r44571 hr44571 => ?_)
  refine lv_if_eq (tgt := 22) hx hb dX11_mark_8 (by decide) (fun c44572 => ?_) (fun c44572 => ?_)
  · have g44573 : Rg 0 0 r44571 := wk_eql hr44571.1 (by decide : Rg 0 0 (0 : Int32)) c44572 (by decide)
    refine lv_bipush (v := (-2)) hx hb dX11_mark_22 (by decide) ?_
    subst hAe
    exact W.iret (v := (-2)) hx hb hr (fun t ht hW => ⟨⟨_, u, rfl, ⟨(by decide : Rg (-2) 2 ((-2) : Int32)), trivial⟩, by rw [ht]; exact hP, hD⟩, hS.F ht⟩) hS.2.2 dX11_mark_24
  · have g44574 : Rg 0 11 x0 := (hr44571.2 c44572)
    have g44575 : Rg 1 1 r44571 := rg_ne_lo (k := 0) hr44571.1 (by decide) c44572 (by decide)
    refine lv_aload_n hx hb dX11_mark_11 rfl (lv_at hl 0 rfl) ?_
    refine va_get (D := D) (ci := 11) (v := .ref (a 17)) (C := RX11) (T := TX11) (N := 16) hx hb hts hin11 hown hK hP 0 rfl rfl 2 (by decide) (hts (.fieldLink RX11 30 "MissedPoints" "parting" "LMissedPoints$Parting;") (by decide +kernel)) (fun _ h9 => h9) rfl dX11_mark_12 ?_
    refine lv_iload_n hx hb dX11_mark_15 rfl (lv_at hl 1 rfl) ?_
    refine wk_qi (wX cI cS a na nc N L) u (As := [.int x0]) (rest := []) ⟨hx, hb, hml, hown, hts⟩ (k_X4_markOf l D cI cS _ a na nc N L u hL hN x0) hKK hP hD hS hA 17 (ci := 4) rfl rfl (cwV 1 hts gX11_mark_X4_markOf rfl rfl rfl (by decide +kernel) ⟨Nat.le_of_ble_eq_true rfl, Nat.le_of_ble_eq_true rfl⟩) rfl hl.1 rfl (Nat.le_of_ble_eq_true rfl) dX11_mark_16 ⟨Nat.le_of_ble_eq_true rfl, Nat.le_of_ble_eq_true rfl⟩ (fun r44576 u H locs hr44576 hP hD hS => ?_)
    refine lv_goto (tgt := 24) hx hb dX11_mark_19 (by decide) ?_
    subst hAe
    exact W.iret (v := r44576) hx hb hr (fun t ht hW => ⟨⟨_, u, rfl, ⟨(show Rg (-2) 2 r44576 from rg_w hr44576.1 (by decide) (by decide)), trivial⟩, by rw [ht]; exact hP, hD⟩, hS.F ht⟩) hS.2.2 dX11_mark_24
set_option maxHeartbeats 4000000 in
set_option maxRecDepth 100000 in
theorem k_X11_marked (l : Launch) (D : va_G) (cI cS : ClassId) (sz : Nat) (a : Nat → Nat) (na nc N : Nat) (L u0 : SU) (hL : TyX L) (hN : N = 0 ∨ N = 24576) (x0 : Int32) : Met l yX11_marked wsX11_marked ({ frames := 18, cells := 0, slots := 0, locals := 720 }) (PQ D cI cS (wX cI cS a na nc N L u0) sz [.ref (a 0), .int x0]) (QF (S := SU) D (wX cI cS a na nc N L u0) (wX cI cS a na nc N L) sz (fun r _ => Rg (-2147483648) 2147483647 r ∧ True)) 0 0 (va_A (wX cI cS a na nc N L u0) sz) := by
  refine Met.ofW (cc := cX11_marked) (maxL := 2) (ret := (some .int)) (by decide) rfl ?_
  intro p e s m args below meth c s₁ B hml hv
  obtain ⟨rfl, hsz, hP, hKK, hD0⟩ := hv
  have hx := B.exec
  have hb := B.bytes
  have hr := B.returns
  have hts := atoms_spec (ws := wsX11_marked) B.pre
  have hown : s.vm.findClass RX11 = some m.cls := findClass_of_methodNamed B.named
  have hlocks := B.notSynchronized
  have hK := hKK.1
  have hin11 : ∀ w ∈ wsX110, w ∈ wsX11_marked := by decide +kernel
  subst hsz
  have hD := hD0.self (sz := s.heap.size)
  obtain ⟨A, hAe⟩ : ∃ A, A = va_A (wX cI cS a na nc N L u0) s.heap.size := ⟨_, rfl⟩
  rw [← hAe] at hD
  have hA : ∀ q : Nat, s.heap.size ≤ q → A q := fun q h => by rw [hAe]; exact Or.inr h
  have hS : va_S A s.heap s.heap [] := va_S.rf
  have hl := lv_entry ([.ref (a 0), .int x0]) (n := 2) (Nat.le_of_ble_eq_true rfl)
  rw [lg_entry_eq]
  generalize (lg_sl ([.ref (a 0), .int x0]) ++ List.replicate (2 - (lg_sl ([.ref (a 0), .int x0])).length) Slot.unset).toArray = ls at hl ⊢
  have hl : lv_has ls 2 [(0, .ref (a 0)), (1, .int x0)] := hl
  obtain ⟨u, hu9⟩ : ∃ u : SU, u = u0 := ⟨_, rfl⟩
  rw [← hu9] at hP hD
  refine lv_iload_n hx hb dX11_marked_0 rfl (lv_at hl 1 rfl) ?_
  refine lv_if_lt (tgt := 9) hx hb dX11_marked_1 (by decide) (fun c44584 => ?_) (fun c44584 => ?_)
  · have g44585 : Rg (-2147483648) (-1) x0 := rg_ltl (rg_any x0) (by decide : Rg 0 0 (0 : Int32)) c44584 (by decide)
    refine lv_bipush (v := (-2)) hx hb dX11_marked_9 (by decide) ?_
    refine lv_goto (tgt := 22) hx hb dX11_marked_11 (by decide) ?_
    subst hAe
    exact W.iret (v := (-2)) hx hb hr (fun t ht hW => ⟨⟨_, u, rfl, ⟨(by decide : Rg (-2147483648) 2147483647 ((-2) : Int32)), trivial⟩, by rw [ht]; exact hP, hD⟩, hS.F ht⟩) hS.2.2 dX11_marked_22
  · have g44586 : Rg 0 2147483647 x0 := rg_ler (by decide : Rg 0 0 (0 : Int32)) (rg_any x0) (rg_nlt c44584) (by decide)
    refine lv_iload_n hx hb dX11_marked_4 rfl (lv_at hl 1 rfl) ?_
    refine lv_iconst (v := 2) hx hb dX11_marked_5 (by decide) ?_
    refine lv_icmp_le (tgt := 14) hx hb dX11_marked_6 (by decide) (fun c44587 => ?_) (fun c44587 => ?_)
    · have g44588 : Rg 0 2 x0 := rg_lel g44586 (by decide : Rg 2 2 (2 : Int32)) c44587 (by decide)
      refine lv_aload_n hx hb dX11_marked_14 rfl (lv_at hl 0 rfl) ?_
      refine va_get (D := D) (ci := 11) (v := .ref (a 17)) (C := RX11) (T := TX11) (N := 16) hx hb hts hin11 hown hK hP 0 rfl rfl 2 (by decide) (hts (.fieldLink RX11 30 "MissedPoints" "parting" "LMissedPoints$Parting;") (by decide +kernel)) (fun _ h9 => h9) rfl dX11_marked_15 ?_
      refine lv_iload_n hx hb dX11_marked_18 rfl (lv_at hl 1 rfl) ?_
      refine wk_qi (wX cI cS a na nc N L) u (As := [.int x0]) (rest := []) ⟨hx, hb, hml, hown, hts⟩ (k_X4_allOf l D cI cS _ a na nc N L u hL hN x0) hKK hP hD hS hA 17 (ci := 4) rfl rfl (cwV 1 hts gX11_marked_X4_allOf rfl rfl rfl (by decide +kernel) ⟨Nat.le_of_ble_eq_true rfl, Nat.le_of_ble_eq_true rfl⟩) rfl hl.1 rfl (Nat.le_of_ble_eq_true rfl) dX11_marked_19 ⟨Nat.le_of_ble_eq_true rfl, Nat.le_of_ble_eq_true rfl⟩ (fun r44589 u H locs hr44589 hP hD hS => ?_)
      subst hAe
      exact W.iret (v := r44589) hx hb hr (fun t ht hW => ⟨⟨_, u, rfl, ⟨hr44589.1, trivial⟩, by rw [ht]; exact hP, hD⟩, hS.F ht⟩) hS.2.2 dX11_marked_22
    · have g44590 : Rg 3 2147483647 x0 := rg_ltr (by decide : Rg 2 2 (2 : Int32)) g44586 (rg_nle c44587) (by decide)
      refine lv_bipush (v := (-2)) hx hb dX11_marked_9 (by decide) ?_
      refine lv_goto (tgt := 22) hx hb dX11_marked_11 (by decide) ?_
      subst hAe
      exact W.iret (v := (-2)) hx hb hr (fun t ht hW => ⟨⟨_, u, rfl, ⟨(by decide : Rg (-2147483648) 2147483647 ((-2) : Int32)), trivial⟩, by rw [ht]; exact hP, hD⟩, hS.F ht⟩) hS.2.2 dX11_marked_22
set_option maxHeartbeats 4000000 in
set_option maxRecDepth 100000 in
theorem k_X11_pieces (l : Launch) (D : va_G) (cI cS : ClassId) (sz : Nat) (a : Nat → Nat) (na nc N : Nat) (L u0 : SU) (hL : TyX L) (hN : N = 0 ∨ N = 24576) (x0 : Int32) : Met l yX11_pieces wsX11_pieces ({ frames := 18, cells := 0, slots := 0, locals := 720 }) (PQ D cI cS (wX cI cS a na nc N L u0) sz [.ref (a 0), .int x0]) (QF (S := SU) D (wX cI cS a na nc N L u0) (wX cI cS a na nc N L) sz (fun r _ => Rg (-2147483648) 2147483647 r ∧ True)) 0 0 (va_A (wX cI cS a na nc N L u0) sz) := by
  refine Met.ofW (cc := cX11_pieces) (maxL := 2) (ret := (some .int)) (by decide) rfl ?_
  intro p e s m args below meth c s₁ B hml hv
  obtain ⟨rfl, hsz, hP, hKK, hD0⟩ := hv
  have hx := B.exec
  have hb := B.bytes
  have hr := B.returns
  have hts := atoms_spec (ws := wsX11_pieces) B.pre
  have hown : s.vm.findClass RX11 = some m.cls := findClass_of_methodNamed B.named
  have hlocks := B.notSynchronized
  have hK := hKK.1
  have hin11 : ∀ w ∈ wsX110, w ∈ wsX11_pieces := by decide +kernel
  subst hsz
  have hD := hD0.self (sz := s.heap.size)
  obtain ⟨A, hAe⟩ : ∃ A, A = va_A (wX cI cS a na nc N L u0) s.heap.size := ⟨_, rfl⟩
  rw [← hAe] at hD
  have hA : ∀ q : Nat, s.heap.size ≤ q → A q := fun q h => by rw [hAe]; exact Or.inr h
  have hS : va_S A s.heap s.heap [] := va_S.rf
  have hl := lv_entry ([.ref (a 0), .int x0]) (n := 2) (Nat.le_of_ble_eq_true rfl)
  rw [lg_entry_eq]
  generalize (lg_sl ([.ref (a 0), .int x0]) ++ List.replicate (2 - (lg_sl ([.ref (a 0), .int x0])).length) Slot.unset).toArray = ls at hl ⊢
  have hl : lv_has ls 2 [(0, .ref (a 0)), (1, .int x0)] := hl
  obtain ⟨u, hu9⟩ : ∃ u : SU, u = u0 := ⟨_, rfl⟩
  rw [← hu9] at hP hD
  refine lv_iload_n hx hb dX11_pieces_0 rfl (lv_at hl 1 rfl) ?_
  refine lv_if_eq (tgt := 12) hx hb dX11_pieces_1 (by decide) (fun c44601 => ?_) (fun c44601 => ?_)
  · have g44602 : Rg 0 0 x0 := wk_eql (rg_any x0) (by decide : Rg 0 0 (0 : Int32)) c44601 (by decide)
    refine lv_aload_n hx hb dX11_pieces_12 rfl (lv_at hl 0 rfl) ?_
    refine va_get (D := D) (ci := 11) (v := .ref (a 1)) (C := RX11) (T := TX11) (N := 16) hx hb hts hin11 hown hK hP 0 rfl rfl 0 (by decide) (hts (.fieldLink RX11 12 "MissedPoints" "net" "LMissedPoints$Net;") (by decide +kernel)) (fun _ h9 => h9) rfl dX11_pieces_13 ?_
    refine lv_aload_n hx hb dX11_pieces_16 rfl (lv_at hl 0 rfl) ?_
    refine va_get (D := D) (ci := 11) (v := .ref (a 17)) (C := RX11) (T := TX11) (N := 16) hx hb hts hin11 hown hK hP 0 rfl rfl 2 (by decide) (hts (.fieldLink RX11 30 "MissedPoints" "parting" "LMissedPoints$Parting;") (by decide +kernel)) (fun _ h9 => h9) rfl dX11_pieces_17 ?_
    refine lv_iload_n hx hb dX11_pieces_20 rfl (lv_at hl 1 rfl) ?_
    refine lz_ss (As := [.int x0]) (rest := [.ref (a 17), .ref (a 1)]) ⟨hx, hb, hml, hown, hts⟩ (k_X11_markOfPieces l D cI cS x0) hKK (hP.sub (ws' := []) [] rfl) (va_cwS 1 hts gX11_pieces_X11_markOfPieces rfl rfl rfl (by decide +kernel) ⟨Nat.le_of_ble_eq_true rfl, Nat.le_of_ble_eq_true rfl⟩) rfl hl.1 rfl (Nat.le_of_ble_eq_true rfl) dX11_pieces_21 ⟨Nat.le_of_ble_eq_true rfl, Nat.le_of_ble_eq_true rfl⟩ (fun r44603 hr44603 => ?_)
    refine wk_qi (wX cI cS a na nc N L) u (As := [.int r44603]) (rest := [.ref (a 1)]) ⟨hx, hb, hml, hown, hts⟩ (k_X4_allOf l D cI cS _ a na nc N L u hL hN r44603) hKK hP hD hS hA 17 (ci := 4) rfl rfl (cwV 1 hts gX11_pieces_X4_allOf rfl rfl rfl (by decide +kernel) ⟨Nat.le_of_ble_eq_true rfl, Nat.le_of_ble_eq_true rfl⟩) rfl hl.1 rfl (Nat.le_of_ble_eq_true rfl) dX11_pieces_24 ⟨Nat.le_of_ble_eq_true rfl, Nat.le_of_ble_eq_true rfl⟩ (fun r44604 u H locs hr44604 hP hD hS => ?_)
    refine wk_sv 1 (As := [.int r44604]) (rest := []) ⟨hx, hb, hml, hown, hts⟩ (k_X2_pieceCount l D cI cS a na nc N L u hL hN r44604) hKK hP (ci := 2) rfl rfl (cwV 1 hts gX11_pieces_X2_pieceCount rfl rfl rfl (by decide +kernel) ⟨Nat.le_of_ble_eq_true rfl, Nat.le_of_ble_eq_true rfl⟩) rfl hl.1 rfl (Nat.le_of_ble_eq_true rfl) dX11_pieces_27 ⟨Nat.le_of_ble_eq_true rfl, Nat.le_of_ble_eq_true rfl⟩ (fun r44605 hr44605 => ?_)
    subst hAe
    exact W.iret (v := r44605) hx hb hr (fun t ht hW => ⟨⟨_, u, rfl, ⟨hr44605.1, trivial⟩, by rw [ht]; exact hP, hD⟩, hS.F ht⟩) hS.2.2 dX11_pieces_30
  · refine lv_iload_n hx hb dX11_pieces_4 rfl (lv_at hl 1 rfl) ?_
    refine lv_iconst (v := 1) hx hb dX11_pieces_5 (by decide) ?_
    refine lv_icmp_eq (tgt := 12) hx hb dX11_pieces_6 (by decide) (fun c44606 => ?_) (fun c44606 => ?_)
    · have g44607 : Rg 1 1 x0 := wk_eql (rg_any x0) (by decide : Rg 1 1 (1 : Int32)) c44606 (by decide)
      refine lv_aload_n hx hb dX11_pieces_12 rfl (lv_at hl 0 rfl) ?_
      refine va_get (D := D) (ci := 11) (v := .ref (a 1)) (C := RX11) (T := TX11) (N := 16) hx hb hts hin11 hown hK hP 0 rfl rfl 0 (by decide) (hts (.fieldLink RX11 12 "MissedPoints" "net" "LMissedPoints$Net;") (by decide +kernel)) (fun _ h9 => h9) rfl dX11_pieces_13 ?_
      refine lv_aload_n hx hb dX11_pieces_16 rfl (lv_at hl 0 rfl) ?_
      refine va_get (D := D) (ci := 11) (v := .ref (a 17)) (C := RX11) (T := TX11) (N := 16) hx hb hts hin11 hown hK hP 0 rfl rfl 2 (by decide) (hts (.fieldLink RX11 30 "MissedPoints" "parting" "LMissedPoints$Parting;") (by decide +kernel)) (fun _ h9 => h9) rfl dX11_pieces_17 ?_
      refine lv_iload_n hx hb dX11_pieces_20 rfl (lv_at hl 1 rfl) ?_
      refine lz_ss (As := [.int x0]) (rest := [.ref (a 17), .ref (a 1)]) ⟨hx, hb, hml, hown, hts⟩ (k_X11_markOfPieces l D cI cS x0) hKK (hP.sub (ws' := []) [] rfl) (va_cwS 1 hts gX11_pieces_X11_markOfPieces rfl rfl rfl (by decide +kernel) ⟨Nat.le_of_ble_eq_true rfl, Nat.le_of_ble_eq_true rfl⟩) rfl hl.1 rfl (Nat.le_of_ble_eq_true rfl) dX11_pieces_21 ⟨Nat.le_of_ble_eq_true rfl, Nat.le_of_ble_eq_true rfl⟩ (fun r44608 hr44608 => ?_)
      refine wk_qi (wX cI cS a na nc N L) u (As := [.int r44608]) (rest := [.ref (a 1)]) ⟨hx, hb, hml, hown, hts⟩ (k_X4_allOf l D cI cS _ a na nc N L u hL hN r44608) hKK hP hD hS hA 17 (ci := 4) rfl rfl (cwV 1 hts gX11_pieces_X4_allOf rfl rfl rfl (by decide +kernel) ⟨Nat.le_of_ble_eq_true rfl, Nat.le_of_ble_eq_true rfl⟩) rfl hl.1 rfl (Nat.le_of_ble_eq_true rfl) dX11_pieces_24 ⟨Nat.le_of_ble_eq_true rfl, Nat.le_of_ble_eq_true rfl⟩ (fun r44609 u H locs hr44609 hP hD hS => ?_)
      refine wk_sv 1 (As := [.int r44609]) (rest := []) ⟨hx, hb, hml, hown, hts⟩ (k_X2_pieceCount l D cI cS a na nc N L u hL hN r44609) hKK hP (ci := 2) rfl rfl (cwV 1 hts gX11_pieces_X2_pieceCount rfl rfl rfl (by decide +kernel) ⟨Nat.le_of_ble_eq_true rfl, Nat.le_of_ble_eq_true rfl⟩) rfl hl.1 rfl (Nat.le_of_ble_eq_true rfl) dX11_pieces_27 ⟨Nat.le_of_ble_eq_true rfl, Nat.le_of_ble_eq_true rfl⟩ (fun r44610 hr44610 => ?_)
      subst hAe
      exact W.iret (v := r44610) hx hb hr (fun t ht hW => ⟨⟨_, u, rfl, ⟨hr44610.1, trivial⟩, by rw [ht]; exact hP, hD⟩, hS.F ht⟩) hS.2.2 dX11_pieces_30
    · refine lv_bipush (v := (-2)) hx hb dX11_pieces_9 (by decide) ?_
      subst hAe
      exact W.iret (v := (-2)) hx hb hr (fun t ht hW => ⟨⟨_, u, rfl, ⟨(by decide : Rg (-2147483648) 2147483647 ((-2) : Int32)), trivial⟩, by rw [ht]; exact hP, hD⟩, hS.F ht⟩) hS.2.2 dX11_pieces_11
set_option maxRecDepth 20000 in
theorem ggX11_piece_X2_nearAny : GoodIn wsX11_piece wsX2_nearAny := goodIn_r _ [71, 25, 72, 111, 112, 113] rfl (by decide +kernel)
set_option maxRecDepth 20000 in
theorem gX11_piece_X2_nearAny : GoodIn wsX11_piece (wsV RX11 172 RX2 yX2_nearAny wsX2_nearAny) := goodIn_app (goodIn_of _ (by decide +kernel)) ggX11_piece_X2_nearAny
theorem dX11_piece_49 : decode cX11_piece 49 = .ok (.iload_n 3, 1) := by decide +kernel
theorem dX11_piece_50 : decode cX11_piece 50 = .ok (.ifCond .ne 8, 3) := by decide +kernel
theorem dX11_piece_53 : decode cX11_piece 53 = .ok (.iload 4, 2) := by decide +kernel
theorem dX11_piece_55 : decode cX11_piece 55 = .ok (.goto 21, 3) := by decide +kernel
theorem dX11_piece_58 : decode cX11_piece 58 = .ok (.aload_n 0, 1) := by decide +kernel
theorem dX11_piece_59 : decode cX11_piece 59 = .ok (.getfield 12, 3) := by decide +kernel
theorem dX11_piece_62 : decode cX11_piece 62 = .ok (.iload 4, 2) := by decide +kernel
theorem dX11_piece_64 : decode cX11_piece 64 = .ok (.invokevirtual 172, 3) := by decide +kernel
theorem dX11_piece_67 : decode cX11_piece 67 = .ok (.aload_n 0, 1) := by decide +kernel
theorem dX11_piece_68 : decode cX11_piece 68 = .ok (.getfield 30, 3) := by decide +kernel
theorem dX11_piece_71 : decode cX11_piece 71 = .ok (.iconst 1, 1) := by decide +kernel
theorem dX11_piece_72 : decode cX11_piece 72 = .ok (.invokevirtual 163, 3) := by decide +kernel
theorem dX11_piece_75 : decode cX11_piece 75 = .ok (.iand, 1) := by decide +kernel
theorem dX11_piece_76 : decode cX11_piece 76 = .ok (.ireturn, 1) := by decide +kernel
set_option maxHeartbeats 4000000 in
set_option maxRecDepth 100000 in
theorem k_X11_piece (l : Launch) (D : va_G) (cI cS : ClassId) (sz : Nat) (a : Nat → Nat) (na nc N : Nat) (L u0 : SU) (hL : TyX L) (hN : N = 0 ∨ N = 24576) (x0 x1 x2 : Int32) : Met l yX11_piece wsX11_piece ({ frames := 18, cells := 0, slots := 0, locals := 720 }) (PQ D cI cS (wX cI cS a na nc N L u0) sz [.ref (a 0), .int x0, .int x1, .int x2]) (QF (S := SU) D (wX cI cS a na nc N L u0) (wX cI cS a na nc N L) sz (fun r _ => Rg (-2147483648) 2147483647 r ∧ True)) 0 0 (va_A (wX cI cS a na nc N L u0) sz) := by
  refine Met.ofW (cc := cX11_piece) (maxL := 5) (ret := (some .int)) (by decide) rfl ?_
  intro p e s m args below meth c s₁ B hml hv
  obtain ⟨rfl, hsz, hP, hKK, hD0⟩ := hv
  have hx := B.exec
  have hb := B.bytes
  have hr := B.returns
  have hts := atoms_spec (ws := wsX11_piece) B.pre
  have hown : s.vm.findClass RX11 = some m.cls := findClass_of_methodNamed B.named
  have hlocks := B.notSynchronized
  have hK := hKK.1
  have hin11 : ∀ w ∈ wsX110, w ∈ wsX11_piece := by decide +kernel
  subst hsz
  have hD := hD0.self (sz := s.heap.size)
  obtain ⟨A, hAe⟩ : ∃ A, A = va_A (wX cI cS a na nc N L u0) s.heap.size := ⟨_, rfl⟩
  rw [← hAe] at hD
  have hA : ∀ q : Nat, s.heap.size ≤ q → A q := fun q h => by rw [hAe]; exact Or.inr h
  have hS : va_S A s.heap s.heap [] := va_S.rf
  have hl := lv_entry ([.ref (a 0), .int x0, .int x1, .int x2]) (n := 5) (Nat.le_of_ble_eq_true rfl)
  rw [lg_entry_eq]
  generalize (lg_sl ([.ref (a 0), .int x0, .int x1, .int x2]) ++ List.replicate (5 - (lg_sl ([.ref (a 0), .int x0, .int x1, .int x2])).length) Slot.unset).toArray = ls at hl ⊢
  have hl : lv_has ls 5 [(0, .ref (a 0)), (1, .int x0), (2, .int x1), (3, .int x2)] := hl
  obtain ⟨u, hu9⟩ : ∃ u : SU, u = u0 := ⟨_, rfl⟩
  rw [← hu9] at hP hD
  have ct21 : ∀ (u : SU) (H : Heap) (locs : List Loc) (ls : Array Slot), Rg 0 1 x0 → Rg 0 1 x2 → va_P D cls (wX cI cS a na nc N L u) H → va_D A (wX cI cS a na nc N L u) → va_S A s.heap H locs → lv_has ls 5 [(0, .ref (a 0)), (1, .int x0), (2, .int x1), (3, .int x2)] → W p l e (headSpec wsX11_piece ({ frames := 18, cells := 0, slots := 0, locals := 720 })).room s m ([.ref (a 0), .int x0, .int x1, .int x2]).toArray below meth c H locs 0 0 (MQ below (QF (S := SU) D (wX cI cS a na nc N L u0) (wX cI cS a na nc N L) s.heap.size (fun r _ => Rg (-2147483648) 2147483647 r ∧ True)) ([.ref (a 0), .int x0, .int x1, .int x2]).toArray s 0 0 (va_A (wX cI cS a na nc N L u0) s.heap.size)) (F0 m 21 ls []) := by
    intro u H locs ls g21_l1 g21_l3 hP hD hS hl
    refine lv_aload_n hx hb dX11_piece_21 rfl (lv_at hl 0 rfl) ?_
    refine va_get (D := D) (ci := 11) (v := .ref (a 1)) (C := RX11) (T := TX11) (N := 16) hx hb hts hin11 hown hK hP 0 rfl rfl 0 (by decide) (hts (.fieldLink RX11 12 "MissedPoints" "net" "LMissedPoints$Net;") (by decide +kernel)) (fun _ h9 => h9) rfl dX11_piece_22 ?_
    refine lv_aload_n hx hb dX11_piece_25 rfl (lv_at hl 0 rfl) ?_
    refine va_get (D := D) (ci := 11) (v := .ref (a 17)) (C := RX11) (T := TX11) (N := 16) hx hb hts hin11 hown hK hP 0 rfl rfl 2 (by decide) (hts (.fieldLink RX11 30 "MissedPoints" "parting" "LMissedPoints$Parting;") (by decide +kernel)) (fun _ h9 => h9) rfl dX11_piece_26 ?_
    refine lv_iload_n hx hb dX11_piece_29 rfl (lv_at hl 1 rfl) ?_
    refine lz_ss (As := [.int x0]) (rest := [.ref (a 17), .ref (a 1)]) ⟨hx, hb, hml, hown, hts⟩ (k_X11_markOfPieces l D cI cS x0) hKK (hP.sub (ws' := []) [] rfl) (va_cwS 1 hts gX11_piece_X11_markOfPieces rfl rfl rfl (by decide +kernel) ⟨Nat.le_of_ble_eq_true rfl, Nat.le_of_ble_eq_true rfl⟩) rfl hl.1 rfl (Nat.le_of_ble_eq_true rfl) dX11_piece_30 ⟨Nat.le_of_ble_eq_true rfl, Nat.le_of_ble_eq_true rfl⟩ (fun r44657 hr44657 => ?_)
    refine wk_qi (wX cI cS a na nc N L) u (As := [.int r44657]) (rest := [.ref (a 1)]) ⟨hx, hb, hml, hown, hts⟩ (k_X4_allOf l D cI cS _ a na nc N L u hL hN r44657) hKK hP hD hS hA 17 (ci := 4) rfl rfl (cwV 1 hts gX11_piece_X4_allOf rfl rfl rfl (by decide +kernel) ⟨Nat.le_of_ble_eq_true rfl, Nat.le_of_ble_eq_true rfl⟩) rfl hl.1 rfl (Nat.le_of_ble_eq_true rfl) dX11_piece_33 ⟨Nat.le_of_ble_eq_true rfl, Nat.le_of_ble_eq_true rfl⟩ (fun r44658 u H locs hr44658 hP hD hS => ?_)
    refine lv_iload_n hx hb dX11_piece_36 rfl (lv_at hl 2 rfl) ?_
    refine wk_sv 1 (As := [.int r44658, .int x1]) (rest := []) ⟨hx, hb, hml, hown, hts⟩ (k_X2_pieceAt l D cI cS a na nc N L u hL hN r44658 x1) hKK hP (ci := 2) rfl rfl (cwV 2 hts gX11_piece_X2_pieceAt rfl rfl rfl (by decide +kernel) ⟨Nat.le_of_ble_eq_true rfl, Nat.le_of_ble_eq_true rfl⟩) rfl hl.1 rfl (Nat.le_of_ble_eq_true rfl) dX11_piece_37 ⟨Nat.le_of_ble_eq_true rfl, Nat.le_of_ble_eq_true rfl⟩ (fun r44659 hr44659 => ?_)
    refine lv_istore (lv' := [(4, .int r44659), (0, .ref (a 0)), (1, .int x0), (2, .int x1), (3, .int x2)]) hx hb dX11_piece_40 hl (by decide) rfl (fun ls hl => ?_)
    refine lv_iload hx hb dX11_piece_42 (lv_at hl 0 rfl) ?_
    refine lv_if_ne (tgt := 49) hx hb dX11_piece_44 (by decide) (fun c44660 => ?_) (fun c44660 => ?_)
    · refine lv_iload_n hx hb dX11_piece_49 rfl (lv_at hl 4 rfl) ?_
      refine lv_if_ne (tgt := 58) hx hb dX11_piece_50 (by decide) (fun c44661 => ?_) (fun c44661 => ?_)
      · have g44662 : Rg 1 1 x2 := rg_ne_lo (k := 0) g21_l3 (by decide) c44661 (by decide)
        refine lv_aload_n hx hb dX11_piece_58 rfl (lv_at hl 1 rfl) ?_
        refine va_get (D := D) (ci := 11) (v := .ref (a 1)) (C := RX11) (T := TX11) (N := 16) hx hb hts hin11 hown hK hP 0 rfl rfl 0 (by decide) (hts (.fieldLink RX11 12 "MissedPoints" "net" "LMissedPoints$Net;") (by decide +kernel)) (fun _ h9 => h9) rfl dX11_piece_59 ?_
        refine lv_iload hx hb dX11_piece_62 (lv_at hl 0 rfl) ?_
        refine wk_sv 1 (As := [.int r44659]) (rest := []) ⟨hx, hb, hml, hown, hts⟩ (k_X2_nearAny l D cI cS a na nc N L u hL hN r44659) hKK hP (ci := 2) rfl rfl (cwV 1 hts gX11_piece_X2_nearAny rfl rfl rfl (by decide +kernel) ⟨Nat.le_of_ble_eq_true rfl, Nat.le_of_ble_eq_true rfl⟩) rfl hl.1 rfl (Nat.le_of_ble_eq_true rfl) dX11_piece_64 ⟨Nat.le_of_ble_eq_true rfl, Nat.le_of_ble_eq_true rfl⟩ (fun r44663 hr44663 => ?_)
        refine lv_aload_n hx hb dX11_piece_67 rfl (lv_at hl 1 rfl) ?_
        refine va_get (D := D) (ci := 11) (v := .ref (a 17)) (C := RX11) (T := TX11) (N := 16) hx hb hts hin11 hown hK hP 0 rfl rfl 2 (by decide) (hts (.fieldLink RX11 30 "MissedPoints" "parting" "LMissedPoints$Parting;") (by decide +kernel)) (fun _ h9 => h9) rfl dX11_piece_68 ?_
        refine lv_iconst (v := 1) hx hb dX11_piece_71 (by decide) ?_
        refine wk_qi (wX cI cS a na nc N L) u (As := [.int 1]) (rest := [.int r44663]) ⟨hx, hb, hml, hown, hts⟩ (k_X4_allOf l D cI cS _ a na nc N L u hL hN (1 : Int32)) hKK hP hD hS hA 17 (ci := 4) rfl rfl (cwV 1 hts gX11_piece_X4_allOf rfl rfl rfl (by decide +kernel) ⟨Nat.le_of_ble_eq_true rfl, Nat.le_of_ble_eq_true rfl⟩) rfl hl.1 rfl (Nat.le_of_ble_eq_true rfl) dX11_piece_72 ⟨Nat.le_of_ble_eq_true rfl, Nat.le_of_ble_eq_true rfl⟩ (fun r44664 u H locs hr44664 hP hD hS => ?_)
        refine lv_iand hx hb dX11_piece_75 ?_
        refine wk_topP (P := fun r => r = r44663 &&& r44664) rfl (fun r44665 qr44665 => ?_)
        subst hAe
        exact W.iret (v := r44665) hx hb hr (fun t ht hW => ⟨⟨_, u, rfl, ⟨(rg_any r44665), trivial⟩, by rw [ht]; exact hP, hD⟩, hS.F ht⟩) hS.2.2 dX11_piece_76
      · have g44666 : Rg 0 0 x2 := wk_eql g21_l3 (by decide : Rg 0 0 (0 : Int32)) c44661 (by decide)
        refine lv_iload hx hb dX11_piece_53 (lv_at hl 0 rfl) ?_
        refine lv_goto (tgt := 76) hx hb dX11_piece_55 (by decide) ?_
        subst hAe
        exact W.iret (v := r44659) hx hb hr (fun t ht hW => ⟨⟨_, u, rfl, ⟨hr44659.1, trivial⟩, by rw [ht]; exact hP, hD⟩, hS.F ht⟩) hS.2.2 dX11_piece_76
    · have g44667 : Rg 0 0 r44659 := wk_eql hr44659.1 (by decide : Rg 0 0 (0 : Int32)) c44660 (by decide)
      refine lv_iconst (v := (-1)) hx hb dX11_piece_47 (by decide) ?_
      subst hAe
      exact W.iret (v := (-1)) hx hb hr (fun t ht hW => ⟨⟨_, u, rfl, ⟨(by decide : Rg (-2147483648) 2147483647 ((-1) : Int32)), trivial⟩, by rw [ht]; exact hP, hD⟩, hS.F ht⟩) hS.2.2 dX11_piece_48
  refine lv_iload_n hx hb dX11_piece_0 rfl (lv_at hl 1 rfl) ?_
  refine lv_if_eq (tgt := 9) hx hb dX11_piece_1 (by decide) (fun c44668 => ?_) (fun c44668 => ?_)
  · have g44669 : Rg 0 0 x0 := wk_eql (rg_any x0) (by decide : Rg 0 0 (0 : Int32)) c44668 (by decide)
    refine lv_iload_n hx hb dX11_piece_9 rfl (lv_at hl 3 rfl) ?_
    refine lv_if_eq (tgt := 21) hx hb dX11_piece_10 (by decide) (fun c44670 => ?_) (fun c44670 => ?_)
    · have g44671 : Rg 0 0 x2 := wk_eql (rg_any x2) (by decide : Rg 0 0 (0 : Int32)) c44670 (by decide)
      exact ct21 u _ _ ls (show Rg 0 1 x0 from rg_w g44669 (by decide) (by decide)) (show Rg 0 1 x2 from rg_w g44671 (by decide) (by decide)) hP hD hS (lv_sub (l' := [(0, .ref (a 0)), (1, .int x0), (2, .int x1), (3, .int x2)]) hl [0, 1, 2, 3] rfl)
    · refine lv_iload_n hx hb dX11_piece_13 rfl (lv_at hl 3 rfl) ?_
      refine lv_iconst (v := 1) hx hb dX11_piece_14 (by decide) ?_
      refine lv_icmp_eq (tgt := 21) hx hb dX11_piece_15 (by decide) (fun c44672 => ?_) (fun c44672 => ?_)
      · have g44673 : Rg 1 1 x2 := wk_eql (rg_any x2) (by decide : Rg 1 1 (1 : Int32)) c44672 (by decide)
        exact ct21 u _ _ ls (show Rg 0 1 x0 from rg_w g44669 (by decide) (by decide)) (show Rg 0 1 x2 from rg_w g44673 (by decide) (by decide)) hP hD hS (lv_sub (l' := [(0, .ref (a 0)), (1, .int x0), (2, .int x1), (3, .int x2)]) hl [0, 1, 2, 3] rfl)
      · refine lv_bipush (v := (-2)) hx hb dX11_piece_18 (by decide) ?_
        subst hAe
        exact W.iret (v := (-2)) hx hb hr (fun t ht hW => ⟨⟨_, u, rfl, ⟨(by decide : Rg (-2147483648) 2147483647 ((-2) : Int32)), trivial⟩, by rw [ht]; exact hP, hD⟩, hS.F ht⟩) hS.2.2 dX11_piece_20
  · refine lv_iload_n hx hb dX11_piece_4 rfl (lv_at hl 1 rfl) ?_
    refine lv_iconst (v := 1) hx hb dX11_piece_5 (by decide) ?_
    refine lv_icmp_ne (tgt := 18) hx hb dX11_piece_6 (by decide) (fun c44674 => ?_) (fun c44674 => ?_)
    · refine lv_bipush (v := (-2)) hx hb dX11_piece_18 (by decide) ?_
      subst hAe
      exact W.iret (v := (-2)) hx hb hr (fun t ht hW => ⟨⟨_, u, rfl, ⟨(by decide : Rg (-2147483648) 2147483647 ((-2) : Int32)), trivial⟩, by rw [ht]; exact hP, hD⟩, hS.F ht⟩) hS.2.2 dX11_piece_20
    · have g44675 : Rg 1 1 x0 := wk_eql (rg_any x0) (by decide : Rg 1 1 (1 : Int32)) c44674 (by decide)
      refine lv_iload_n hx hb dX11_piece_9 rfl (lv_at hl 3 rfl) ?_
      refine lv_if_eq (tgt := 21) hx hb dX11_piece_10 (by decide) (fun c44676 => ?_) (fun c44676 => ?_)
      · have g44677 : Rg 0 0 x2 := wk_eql (rg_any x2) (by decide : Rg 0 0 (0 : Int32)) c44676 (by decide)
        exact ct21 u _ _ ls (show Rg 0 1 x0 from rg_w g44675 (by decide) (by decide)) (show Rg 0 1 x2 from rg_w g44677 (by decide) (by decide)) hP hD hS (lv_sub (l' := [(0, .ref (a 0)), (1, .int x0), (2, .int x1), (3, .int x2)]) hl [0, 1, 2, 3] rfl)
      · refine lv_iload_n hx hb dX11_piece_13 rfl (lv_at hl 3 rfl) ?_
        refine lv_iconst (v := 1) hx hb dX11_piece_14 (by decide) ?_
        refine lv_icmp_eq (tgt := 21) hx hb dX11_piece_15 (by decide) (fun c44678 => ?_) (fun c44678 => ?_)
        · have g44679 : Rg 1 1 x2 := wk_eql (rg_any x2) (by decide : Rg 1 1 (1 : Int32)) c44678 (by decide)
          exact ct21 u _ _ ls (show Rg 0 1 x0 from rg_w g44675 (by decide) (by decide)) (show Rg 0 1 x2 from rg_w g44679 (by decide) (by decide)) hP hD hS (lv_sub (l' := [(0, .ref (a 0)), (1, .int x0), (2, .int x1), (3, .int x2)]) hl [0, 1, 2, 3] rfl)
        · refine lv_bipush (v := (-2)) hx hb dX11_piece_18 (by decide) ?_
          subst hAe
          exact W.iret (v := (-2)) hx hb hr (fun t ht hW => ⟨⟨_, u, rfl, ⟨(by decide : Rg (-2147483648) 2147483647 ((-2) : Int32)), trivial⟩, by rw [ht]; exact hP, hD⟩, hS.F ht⟩) hS.2.2 dX11_piece_20
set_option maxHeartbeats 4000000 in
set_option maxRecDepth 100000 in
theorem k_X11_surplus (l : Launch) (D : va_G) (cI cS : ClassId) (sz : Nat) (a : Nat → Nat) (na nc N : Nat) (L u0 : SU) (hL : TyX L) (hN : N = 0 ∨ N = 24576) (x0 : Int32) : Met l yX11_surplus wsX11_surplus ({ frames := 18, cells := 0, slots := 0, locals := 720 }) (PQ D cI cS (wX cI cS a na nc N L u0) sz [.ref (a 0), .int x0]) (QF (S := SU) D (wX cI cS a na nc N L u0) (wX cI cS a na nc N L) sz (fun r _ => Rg (-2147483648) 2147483647 r ∧ True)) 0 0 (va_A (wX cI cS a na nc N L u0) sz) := by
  refine Met.ofW (cc := cX11_surplus) (maxL := 2) (ret := (some .int)) (by decide) rfl ?_
  intro p e s m args below meth c s₁ B hml hv
  obtain ⟨rfl, hsz, hP, hKK, hD0⟩ := hv
  have hx := B.exec
  have hb := B.bytes
  have hr := B.returns
  have hts := atoms_spec (ws := wsX11_surplus) B.pre
  have hown : s.vm.findClass RX11 = some m.cls := findClass_of_methodNamed B.named
  have hlocks := B.notSynchronized
  have hK := hKK.1
  have hin11 : ∀ w ∈ wsX110, w ∈ wsX11_surplus := by decide +kernel
  subst hsz
  have hD := hD0.self (sz := s.heap.size)
  obtain ⟨A, hAe⟩ : ∃ A, A = va_A (wX cI cS a na nc N L u0) s.heap.size := ⟨_, rfl⟩
  rw [← hAe] at hD
  have hA : ∀ q : Nat, s.heap.size ≤ q → A q := fun q h => by rw [hAe]; exact Or.inr h
  have hS : va_S A s.heap s.heap [] := va_S.rf
  have hl := lv_entry ([.ref (a 0), .int x0]) (n := 2) (Nat.le_of_ble_eq_true rfl)
  rw [lg_entry_eq]
  generalize (lg_sl ([.ref (a 0), .int x0]) ++ List.replicate (2 - (lg_sl ([.ref (a 0), .int x0])).length) Slot.unset).toArray = ls at hl ⊢
  have hl : lv_has ls 2 [(0, .ref (a 0)), (1, .int x0)] := hl
  obtain ⟨u, hu9⟩ : ∃ u : SU, u = u0 := ⟨_, rfl⟩
  rw [← hu9] at hP hD
  refine lv_iload_n hx hb dX11_surplus_0 rfl (lv_at hl 1 rfl) ?_
  refine lv_aload_n hx hb dX11_surplus_1 rfl (lv_at hl 0 rfl) ?_
  refine va_get (D := D) (ci := 11) (v := .ref (a 17)) (C := RX11) (T := TX11) (N := 16) hx hb hts hin11 hown hK hP 0 rfl rfl 2 (by decide) (hts (.fieldLink RX11 30 "MissedPoints" "parting" "LMissedPoints$Parting;") (by decide +kernel)) (fun _ h9 => h9) rfl dX11_surplus_2 ?_
  refine lv_iconst (v := 1) hx hb dX11_surplus_5 (by decide) ?_
  refine wk_qi (wX cI cS a na nc N L) u (As := [.int 1]) (rest := [.int x0]) ⟨hx, hb, hml, hown, hts⟩ (k_X4_allOf l D cI cS _ a na nc N L u hL hN (1 : Int32)) hKK hP hD hS hA 17 (ci := 4) rfl rfl (cwV 1 hts gX11_surplus_X4_allOf rfl rfl rfl (by decide +kernel) ⟨Nat.le_of_ble_eq_true rfl, Nat.le_of_ble_eq_true rfl⟩) rfl hl.1 rfl (Nat.le_of_ble_eq_true rfl) dX11_surplus_6 ⟨Nat.le_of_ble_eq_true rfl, Nat.le_of_ble_eq_true rfl⟩ (fun r44686 u H locs hr44686 hP hD hS => ?_)
  refine lv_iconst (v := (-1)) hx hb dX11_surplus_9 (by decide) ?_
  refine lv_ixor hx hb dX11_surplus_10 ?_
  refine wk_topP (P := fun r => r = r44686 ^^^ ((-1) : Int32)) rfl (fun r44687 qr44687 => ?_)
  refine lv_iand hx hb dX11_surplus_11 ?_
  refine wk_topP (P := fun r => r = x0 &&& r44687) rfl (fun r44688 qr44688 => ?_)
  refine lv_if_eq (tgt := 20) hx hb dX11_surplus_12 (by decide) (fun c44689 => ?_) (fun c44689 => ?_)
  · have g44690 : Rg 0 0 r44688 := wk_eql (rg_any r44688) (by decide : Rg 0 0 (0 : Int32)) c44689 (by decide)
    refine lv_aload_n hx hb dX11_surplus_20 rfl (lv_at hl 0 rfl) ?_
    refine va_get (D := D) (ci := 11) (v := .ref (a 17)) (C := RX11) (T := TX11) (N := 16) hx hb hts hin11 hown hK hP 0 rfl rfl 2 (by decide) (hts (.fieldLink RX11 30 "MissedPoints" "parting" "LMissedPoints$Parting;") (by decide +kernel)) (fun _ h9 => h9) rfl dX11_surplus_21 ?_
    refine lv_iload_n hx hb dX11_surplus_24 rfl (lv_at hl 1 rfl) ?_
    refine wk_qi (wX cI cS a na nc N L) u (As := [.int x0]) (rest := []) ⟨hx, hb, hml, hown, hts⟩ (k_X4_surplusOf l D cI cS _ a na nc N L u hL hN x0) hKK hP hD hS hA 17 (ci := 4) rfl rfl (cwV 1 hts gX11_surplus_X4_surplusOf rfl rfl rfl (by decide +kernel) ⟨Nat.le_of_ble_eq_true rfl, Nat.le_of_ble_eq_true rfl⟩) rfl hl.1 rfl (Nat.le_of_ble_eq_true rfl) dX11_surplus_25 ⟨Nat.le_of_ble_eq_true rfl, Nat.le_of_ble_eq_true rfl⟩ (fun r44691 u H locs hr44691 hP hD hS => ?_)
    subst hAe
    exact W.iret (v := r44691) hx hb hr (fun t ht hW => ⟨⟨_, u, rfl, ⟨hr44691.1, trivial⟩, by rw [ht]; exact hP, hD⟩, hS.F ht⟩) hS.2.2 dX11_surplus_28
  · refine lv_bipush (v := (-2)) hx hb dX11_surplus_15 (by decide) ?_
    refine lv_goto (tgt := 28) hx hb dX11_surplus_17 (by decide) ?_
    subst hAe
    exact W.iret (v := (-2)) hx hb hr (fun t ht hW => ⟨⟨_, u, rfl, ⟨(by decide : Rg (-2147483648) 2147483647 ((-2) : Int32)), trivial⟩, by rw [ht]; exact hP, hD⟩, hS.F ht⟩) hS.2.2 dX11_surplus_28
set_option maxHeartbeats 4000000 in
set_option maxRecDepth 100000 in
theorem k_X11_odd (l : Launch) (D : va_G) (cI cS : ClassId) (a : Nat → Nat) (na nc N : Nat) (L u : SU) (hL : TyX L) (hN : N = 0 ∨ N = 24576) (x0 : Int32) : Met l yX11_odd wsX11_odd ({ frames := 4, cells := 0, slots := 0, locals := 160 }) (PS D cI cS (wX cI cS a na nc N L u) [.ref (a 0), .int x0]) (vp_Si (fun r => Rg (-2147483648) 2147483647 r ∧ True)) 0 0 (fun _ => False) := by
  refine Met.ofW (cc := cX11_odd) (maxL := 2) (ret := (some .int)) (by decide) rfl ?_
  intro p e s m args below meth c s₁ B hml hv
  obtain ⟨rfl, hP, hKK⟩ := hv
  have hx := B.exec
  have hb := B.bytes
  have hr := B.returns
  have hts := atoms_spec (ws := wsX11_odd) B.pre
  have hown : s.vm.findClass RX11 = some m.cls := findClass_of_methodNamed B.named
  have hlocks := B.notSynchronized
  have hK := hKK.1
  have hin11 : ∀ w ∈ wsX110, w ∈ wsX11_odd := by decide +kernel
  have hl := lv_entry ([.ref (a 0), .int x0]) (n := 2) (Nat.le_of_ble_eq_true rfl)
  rw [lg_entry_eq]
  generalize (lg_sl ([.ref (a 0), .int x0]) ++ List.replicate (2 - (lg_sl ([.ref (a 0), .int x0])).length) Slot.unset).toArray = ls at hl ⊢
  have hl : lv_has ls 2 [(0, .ref (a 0)), (1, .int x0)] := hl
  refine lv_aload_n hx hb dX11_odd_0 rfl (lv_at hl 0 rfl) ?_
  refine va_get (D := D) (ci := 11) (v := .ref (a 1)) (C := RX11) (T := TX11) (N := 16) hx hb hts hin11 hown hK hP 0 rfl rfl 0 (by decide) (hts (.fieldLink RX11 12 "MissedPoints" "net" "LMissedPoints$Net;") (by decide +kernel)) (fun _ h9 => h9) rfl dX11_odd_1 ?_
  refine lv_iload_n hx hb dX11_odd_4 rfl (lv_at hl 1 rfl) ?_
  refine wk_sv 1 (As := [.int x0]) (rest := []) ⟨hx, hb, hml, hown, hts⟩ (k_X2_hasAll l D cI cS a na nc N L u hL hN x0) hKK hP (ci := 2) rfl rfl (cwV 1 hts gX11_odd_X2_hasAll rfl rfl rfl (by decide +kernel) ⟨Nat.le_of_ble_eq_true rfl, Nat.le_of_ble_eq_true rfl⟩) rfl hl.1 rfl (Nat.le_of_ble_eq_true rfl) dX11_odd_5 ⟨Nat.le_of_ble_eq_true rfl, Nat.le_of_ble_eq_true rfl⟩ (fun r44698 hr44698 => ?_)
  refine lv_if_eq (tgt := 22) hx hb dX11_odd_8 (by decide) (fun c44699 => ?_) (fun c44699 => ?_)
  · have g44700 : Rg 0 0 r44698 := wk_eql hr44698.1 (by decide : Rg 0 0 (0 : Int32)) c44699 (by decide)
    refine lv_bipush (v := (-2)) hx hb dX11_odd_22 (by decide) ?_
    exact W.iret (v := (-2)) hx hb hr (fun t ht hW => ⟨_, rfl, ⟨(by decide : Rg (-2147483648) 2147483647 ((-2) : Int32)), trivial⟩, ht⟩) (fun q hq => absurd hq List.not_mem_nil) dX11_odd_24
  · have g44701 : Rg 0 4095 x0 := (hr44698.2 c44699)
    have g44702 : Rg 1 1 r44698 := rg_ne_lo (k := 0) hr44698.1 (by decide) c44699 (by decide)
    refine lv_aload_n hx hb dX11_odd_11 rfl (lv_at hl 0 rfl) ?_
    refine va_get (D := D) (ci := 11) (v := .ref (a 18)) (C := RX11) (T := TX11) (N := 16) hx hb hts hin11 hown hK hP 0 rfl rfl 3 (by decide) (hts (.fieldLink RX11 37 "MissedPoints" "witness" "LMissedPoints$Witness;") (by decide +kernel)) (fun _ h9 => h9) rfl dX11_odd_12 ?_
    refine lv_iload_n hx hb dX11_odd_15 rfl (lv_at hl 1 rfl) ?_
    refine wk_sv 18 (As := [.int x0]) (rest := []) ⟨hx, hb, hml, hown, hts⟩ (k_X10_oddWithout l D cI cS a na nc N L u hL hN x0) hKK hP (ci := 10) rfl rfl (cwV 1 hts gX11_odd_X10_oddWithout rfl rfl rfl (by decide +kernel) ⟨Nat.le_of_ble_eq_true rfl, Nat.le_of_ble_eq_true rfl⟩) rfl hl.1 rfl (Nat.le_of_ble_eq_true rfl) dX11_odd_16 ⟨Nat.le_of_ble_eq_true rfl, Nat.le_of_ble_eq_true rfl⟩ (fun r44703 hr44703 => ?_)
    refine lv_goto (tgt := 24) hx hb dX11_odd_19 (by decide) ?_
    exact W.iret (v := r44703) hx hb hr (fun t ht hW => ⟨_, rfl, ⟨hr44703.1, trivial⟩, ht⟩) (fun q hq => absurd hq List.not_mem_nil) dX11_odd_24
theorem dX11_barrier_29 : decode cX11_barrier 29 = .ok (.iconst 0, 1) := by decide +kernel
set_option maxHeartbeats 4000000 in
set_option maxRecDepth 100000 in
theorem k_X11_barrier (l : Launch) (D : va_G) (cI cS : ClassId) (sz : Nat) (a : Nat → Nat) (na nc N : Nat) (L u0 : SU) (hL : TyX L) (hN : N = 0 ∨ N = 24576) (x0 : Int32) : Met l yX11_barrier wsX11_barrier ({ frames := 18, cells := 0, slots := 0, locals := 720 }) (PQ D cI cS (wX cI cS a na nc N L u0) sz [.ref (a 0), .int x0]) (QF (S := SU) D (wX cI cS a na nc N L u0) (wX cI cS a na nc N L) sz (fun r _ => Rg (-2) 1 r ∧ (r = 0 → Rg 0 4095 x0))) 0 0 (va_A (wX cI cS a na nc N L u0) sz) := by
  refine Met.ofW (cc := cX11_barrier) (maxL := 2) (ret := (some .int)) (by decide) rfl ?_
  intro p e s m args below meth c s₁ B hml hv
  obtain ⟨rfl, hsz, hP, hKK, hD0⟩ := hv
  have hx := B.exec
  have hb := B.bytes
  have hr := B.returns
  have hts := atoms_spec (ws := wsX11_barrier) B.pre
  have hown : s.vm.findClass RX11 = some m.cls := findClass_of_methodNamed B.named
  have hlocks := B.notSynchronized
  have hK := hKK.1
  have hin11 : ∀ w ∈ wsX110, w ∈ wsX11_barrier := by decide +kernel
  subst hsz
  have hD := hD0.self (sz := s.heap.size)
  obtain ⟨A, hAe⟩ : ∃ A, A = va_A (wX cI cS a na nc N L u0) s.heap.size := ⟨_, rfl⟩
  rw [← hAe] at hD
  have hA : ∀ q : Nat, s.heap.size ≤ q → A q := fun q h => by rw [hAe]; exact Or.inr h
  have hS : va_S A s.heap s.heap [] := va_S.rf
  have hl := lv_entry ([.ref (a 0), .int x0]) (n := 2) (Nat.le_of_ble_eq_true rfl)
  rw [lg_entry_eq]
  generalize (lg_sl ([.ref (a 0), .int x0]) ++ List.replicate (2 - (lg_sl ([.ref (a 0), .int x0])).length) Slot.unset).toArray = ls at hl ⊢
  have hl : lv_has ls 2 [(0, .ref (a 0)), (1, .int x0)] := hl
  obtain ⟨u, hu9⟩ : ∃ u : SU, u = u0 := ⟨_, rfl⟩
  rw [← hu9] at hP hD
  refine lv_aload_n hx hb dX11_barrier_0 rfl (lv_at hl 0 rfl) ?_
  refine va_get (D := D) (ci := 11) (v := .ref (a 1)) (C := RX11) (T := TX11) (N := 16) hx hb hts hin11 hown hK hP 0 rfl rfl 0 (by decide) (hts (.fieldLink RX11 12 "MissedPoints" "net" "LMissedPoints$Net;") (by decide +kernel)) (fun _ h9 => h9) rfl dX11_barrier_1 ?_
  refine lv_iload_n hx hb dX11_barrier_4 rfl (lv_at hl 1 rfl) ?_
  refine wk_sv 1 (As := [.int x0]) (rest := []) ⟨hx, hb, hml, hown, hts⟩ (k_X2_hasAll l D cI cS a na nc N L u hL hN x0) hKK hP (ci := 2) rfl rfl (cwV 1 hts gX11_barrier_X2_hasAll rfl rfl rfl (by decide +kernel) ⟨Nat.le_of_ble_eq_true rfl, Nat.le_of_ble_eq_true rfl⟩) rfl hl.1 rfl (Nat.le_of_ble_eq_true rfl) dX11_barrier_5 ⟨Nat.le_of_ble_eq_true rfl, Nat.le_of_ble_eq_true rfl⟩ (fun r44713 hr44713 => ?_)
  refine lv_if_ne (tgt := 14) hx hb dX11_barrier_8 (by decide) (fun c44714 => ?_) (fun c44714 => ?_)
  · have g44715 : Rg 0 4095 x0 := (hr44713.2 c44714)
    have g44716 : Rg 1 1 r44713 := rg_ne_lo (k := 0) hr44713.1 (by decide) c44714 (by decide)
    refine lv_aload_n hx hb dX11_barrier_14 rfl (lv_at hl 0 rfl) ?_
    refine va_get (D := D) (ci := 11) (v := .ref (a 18)) (C := RX11) (T := TX11) (N := 16) hx hb hts hin11 hown hK hP 0 rfl rfl 3 (by decide) (hts (.fieldLink RX11 37 "MissedPoints" "witness" "LMissedPoints$Witness;") (by decide +kernel)) (fun _ h9 => h9) rfl dX11_barrier_15 ?_
    refine lv_iload_n hx hb dX11_barrier_18 rfl (lv_at hl 1 rfl) ?_
    refine wk_qi (wX cI cS a na nc N L) u (As := [.int x0]) (rest := []) ⟨hx, hb, hml, hown, hts⟩ (k_X10_isBarrier l D cI cS _ a na nc N L u hL hN x0) hKK hP hD hS hA 18 (ci := 10) rfl rfl (cwV 1 hts gX11_barrier_X10_isBarrier rfl rfl rfl (by decide +kernel) ⟨Nat.le_of_ble_eq_true rfl, Nat.le_of_ble_eq_true rfl⟩) rfl hl.1 rfl (Nat.le_of_ble_eq_true rfl) dX11_barrier_19 ⟨Nat.le_of_ble_eq_true rfl, Nat.le_of_ble_eq_true rfl⟩ (fun r44717 u H locs hr44717 hP hD hS => ?_)
    refine lv_if_eq (tgt := 29) hx hb dX11_barrier_22 (by decide) (fun c44718 => ?_) (fun c44718 => ?_)
    · have g44719 : Rg 0 0 r44717 := wk_eql hr44717.1 (by decide : Rg 0 0 (0 : Int32)) c44718 (by decide)
      refine lv_iconst (v := 0) hx hb dX11_barrier_29 (by decide) ?_
      subst hAe
      exact W.iret (v := 0) hx hb hr (fun t ht hW => ⟨⟨_, u, rfl, ⟨(by decide : Rg (-2) 1 (0 : Int32)), fun _ => g44715⟩, by rw [ht]; exact hP, hD⟩, hS.F ht⟩) hS.2.2 dX11_barrier_30
    · have g44720 : Rg 1 1 r44717 := rg_ne_lo (k := 0) hr44717.1 (by decide) c44718 (by decide)
      refine lv_iconst (v := 1) hx hb dX11_barrier_25 (by decide) ?_
      refine lv_goto (tgt := 30) hx hb dX11_barrier_26 (by decide) ?_
      subst hAe
      exact W.iret (v := 1) hx hb hr (fun t ht hW => ⟨⟨_, u, rfl, ⟨(by decide : Rg (-2) 1 (1 : Int32)), fun h9 => absurd h9 (by decide)⟩, by rw [ht]; exact hP, hD⟩, hS.F ht⟩) hS.2.2 dX11_barrier_30
  · have g44721 : Rg 0 0 r44713 := wk_eql hr44713.1 (by decide : Rg 0 0 (0 : Int32)) c44714 (by decide)
    refine lv_bipush (v := (-2)) hx hb dX11_barrier_11 (by decide) ?_
    subst hAe
    exact W.iret (v := (-2)) hx hb hr (fun t ht hW => ⟨⟨_, u, rfl, ⟨(by decide : Rg (-2) 1 ((-2) : Int32)), fun h9 => absurd h9 (by decide)⟩, by rw [ht]; exact hP, hD⟩, hS.F ht⟩) hS.2.2 dX11_barrier_13
set_option maxHeartbeats 4000000 in
set_option maxRecDepth 100000 in
theorem k_X11_barriers (l : Launch) (D : va_G) (cI cS : ClassId) (sz : Nat) (a : Nat → Nat) (na nc N : Nat) (L u0 : SU) (hL : TyX L) (hN : N = 0 ∨ N = 24576) (x0 : Int32) : Met l yX11_barriers wsX11_barriers ({ frames := 18, cells := 0, slots := 0, locals := 720 }) (PQ D cI cS (wX cI cS a na nc N L u0) sz [.ref (a 0), .int x0]) (QF (S := SU) D (wX cI cS a na nc N L u0) (wX cI cS a na nc N L) sz (fun r _ => Rg (-2147483648) 2147483647 r ∧ True)) 0 0 (va_A (wX cI cS a na nc N L u0) sz) := by
  refine Met.ofW (cc := cX11_barriers) (maxL := 2) (ret := (some .int)) (by decide) rfl ?_
  intro p e s m args below meth c s₁ B hml hv
  obtain ⟨rfl, hsz, hP, hKK, hD0⟩ := hv
  have hx := B.exec
  have hb := B.bytes
  have hr := B.returns
  have hts := atoms_spec (ws := wsX11_barriers) B.pre
  have hown : s.vm.findClass RX11 = some m.cls := findClass_of_methodNamed B.named
  have hlocks := B.notSynchronized
  have hK := hKK.1
  have hin10 : ∀ w ∈ wsX100, w ∈ wsX11_barriers := by decide +kernel
  have hin11 : ∀ w ∈ wsX110, w ∈ wsX11_barriers := by decide +kernel
  subst hsz
  have hD := hD0.self (sz := s.heap.size)
  obtain ⟨A, hAe⟩ : ∃ A, A = va_A (wX cI cS a na nc N L u0) s.heap.size := ⟨_, rfl⟩
  rw [← hAe] at hD
  have hA : ∀ q : Nat, s.heap.size ≤ q → A q := fun q h => by rw [hAe]; exact Or.inr h
  have hS : va_S A s.heap s.heap [] := va_S.rf
  have hl := lv_entry ([.ref (a 0), .int x0]) (n := 2) (Nat.le_of_ble_eq_true rfl)
  rw [lg_entry_eq]
  generalize (lg_sl ([.ref (a 0), .int x0]) ++ List.replicate (2 - (lg_sl ([.ref (a 0), .int x0])).length) Slot.unset).toArray = ls at hl ⊢
  have hl : lv_has ls 2 [(0, .ref (a 0)), (1, .int x0)] := hl
  obtain ⟨u, hu9⟩ : ∃ u : SU, u = u0 := ⟨_, rfl⟩
  rw [← hu9] at hP hD
  refine lv_iload_n hx hb dX11_barriers_0 rfl (lv_at hl 1 rfl) ?_
  refine lv_if_lt (tgt := 9) hx hb dX11_barriers_1 (by decide) (fun c44738 => ?_) (fun c44738 => ?_)
  · have g44739 : Rg (-2147483648) (-1) x0 := rg_ltl (rg_any x0) (by decide : Rg 0 0 (0 : Int32)) c44738 (by decide)
    refine lv_bipush (v := (-2)) hx hb dX11_barriers_9 (by decide) ?_
    subst hAe
    exact W.iret (v := (-2)) hx hb hr (fun t ht hW => ⟨⟨_, u, rfl, ⟨(by decide : Rg (-2147483648) 2147483647 ((-2) : Int32)), trivial⟩, by rw [ht]; exact hP, hD⟩, hS.F ht⟩) hS.2.2 dX11_barriers_11
  · have g44740 : Rg 0 2147483647 x0 := rg_ler (by decide : Rg 0 0 (0 : Int32)) (rg_any x0) (rg_nlt c44738) (by decide)
    refine lv_iload_n hx hb dX11_barriers_4 rfl (lv_at hl 1 rfl) ?_
    refine lv_iconst (v := 2) hx hb dX11_barriers_5 (by decide) ?_
    refine lv_icmp_le (tgt := 12) hx hb dX11_barriers_6 (by decide) (fun c44741 => ?_) (fun c44741 => ?_)
    · have g44742 : Rg 0 2 x0 := rg_lel g44740 (by decide : Rg 2 2 (2 : Int32)) c44741 (by decide)
      refine lv_aload_n hx hb dX11_barriers_12 rfl (lv_at hl 0 rfl) ?_
      refine va_get (D := D) (ci := 11) (v := .ref (a 18)) (C := RX11) (T := TX11) (N := 16) hx hb hts hin11 hown hK hP 0 rfl rfl 3 (by decide) (hts (.fieldLink RX11 37 "MissedPoints" "witness" "LMissedPoints$Witness;") (by decide +kernel)) (fun _ h9 => h9) rfl dX11_barriers_13 ?_
      refine wk_qv (wX cI cS a na nc N L) u (As := []) (rest := []) ⟨hx, hb, hml, hown, hts⟩ (k_X10_seekBarriers l D cI cS _ a na nc N L u hL hN) hKK hP hD hS hA 18 (ci := 10) rfl rfl (cwV 0 hts gX11_barriers_X10_seekBarriers rfl rfl rfl (by decide +kernel) ⟨Nat.le_of_ble_eq_true rfl, Nat.le_of_ble_eq_true rfl⟩) rfl hl.1 rfl (Nat.le_of_ble_eq_true rfl) dX11_barriers_16 ⟨Nat.le_of_ble_eq_true rfl, Nat.le_of_ble_eq_true rfl⟩ (fun u H locs hr44743 hP hD hS => ?_)
      refine lv_iload_n hx hb dX11_barriers_19 rfl (lv_at hl 1 rfl) ?_
      refine lv_if_ne (tgt := 31) hx hb dX11_barriers_20 (by decide) (fun c44744 => ?_) (fun c44744 => ?_)
      · have g44745 : Rg 1 2 x0 := rg_ne_lo (k := 0) g44742 (by decide) c44744 (by decide)
        refine lv_iload_n hx hb dX11_barriers_31 rfl (lv_at hl 1 rfl) ?_
        refine lv_iconst (v := 1) hx hb dX11_barriers_32 (by decide) ?_
        refine lv_icmp_ne (tgt := 46) hx hb dX11_barriers_33 (by decide) (fun c44746 => ?_) (fun c44746 => ?_)
        · have g44747 : Rg 2 2 x0 := rg_ne_lo (k := 1) g44745 (by decide) c44746 (by decide)
          refine lv_aload_n hx hb dX11_barriers_46 rfl (lv_at hl 0 rfl) ?_
          refine va_get (D := D) (ci := 11) (v := .ref (a 18)) (C := RX11) (T := TX11) (N := 16) hx hb hts hin11 hown hK hP 0 rfl rfl 3 (by decide) (hts (.fieldLink RX11 37 "MissedPoints" "witness" "LMissedPoints$Witness;") (by decide +kernel)) (fun _ h9 => h9) rfl dX11_barriers_47 ?_
          refine va_getN (D := D) (ci := 10) (v := .int (u 18 6)) (C := RX10) (T := TX10) (N := 8) hx hb hts hin10 hown hK hP 18 rfl rfl 6 (by decide) (va_Nw.use rfl hKK.2.2.2.2.2.1) (fun _ h9 => h9) rfl dX11_barriers_50 ?_
          refine wk_any (fun r44748 => ?_)
          subst hAe
          exact W.iret (v := r44748) hx hb hr (fun t ht hW => ⟨⟨_, u, rfl, ⟨(rg_any r44748), trivial⟩, by rw [ht]; exact hP, hD⟩, hS.F ht⟩) hS.2.2 dX11_barriers_53
        · have g44749 : Rg 1 1 x0 := wk_eql g44745 (by decide : Rg 1 1 (1 : Int32)) c44746 (by decide)
          refine lv_aload_n hx hb dX11_barriers_36 rfl (lv_at hl 0 rfl) ?_
          refine va_get (D := D) (ci := 11) (v := .ref (a 18)) (C := RX11) (T := TX11) (N := 16) hx hb hts hin11 hown hK hP 0 rfl rfl 3 (by decide) (hts (.fieldLink RX11 37 "MissedPoints" "witness" "LMissedPoints$Witness;") (by decide +kernel)) (fun _ h9 => h9) rfl dX11_barriers_37 ?_
          refine va_getN (D := D) (ci := 10) (v := .int (u 18 5)) (C := RX10) (T := TX10) (N := 8) hx hb hts hin10 hown hK hP 18 rfl rfl 5 (by decide) (va_Nw.use rfl hKK.2.2.2.2.1) (fun _ h9 => h9) rfl dX11_barriers_40 ?_
          refine wk_any (fun r44750 => ?_)
          refine lv_goto (tgt := 53) hx hb dX11_barriers_43 (by decide) ?_
          subst hAe
          exact W.iret (v := r44750) hx hb hr (fun t ht hW => ⟨⟨_, u, rfl, ⟨(rg_any r44750), trivial⟩, by rw [ht]; exact hP, hD⟩, hS.F ht⟩) hS.2.2 dX11_barriers_53
      · have g44751 : Rg 0 0 x0 := wk_eql g44742 (by decide : Rg 0 0 (0 : Int32)) c44744 (by decide)
        refine lv_aload_n hx hb dX11_barriers_23 rfl (lv_at hl 0 rfl) ?_
        refine va_get (D := D) (ci := 11) (v := .ref (a 18)) (C := RX11) (T := TX11) (N := 16) hx hb hts hin11 hown hK hP 0 rfl rfl 3 (by decide) (hts (.fieldLink RX11 37 "MissedPoints" "witness" "LMissedPoints$Witness;") (by decide +kernel)) (fun _ h9 => h9) rfl dX11_barriers_24 ?_
        refine va_getN (D := D) (ci := 10) (v := .int (u 18 4)) (C := RX10) (T := TX10) (N := 8) hx hb hts hin10 hown hK hP 18 rfl rfl 4 (by decide) (va_Nw.use rfl hKK.2.2.2.1) (fun _ h9 => h9) rfl dX11_barriers_27 ?_
        refine wk_any (fun r44752 => ?_)
        subst hAe
        exact W.iret (v := r44752) hx hb hr (fun t ht hW => ⟨⟨_, u, rfl, ⟨(rg_any r44752), trivial⟩, by rw [ht]; exact hP, hD⟩, hS.F ht⟩) hS.2.2 dX11_barriers_30
    · have g44753 : Rg 3 2147483647 x0 := rg_ltr (by decide : Rg 2 2 (2 : Int32)) g44740 (rg_nle c44741) (by decide)
      refine lv_bipush (v := (-2)) hx hb dX11_barriers_9 (by decide) ?_
      subst hAe
      exact W.iret (v := (-2)) hx hb hr (fun t ht hW => ⟨⟨_, u, rfl, ⟨(by decide : Rg (-2147483648) 2147483647 ((-2) : Int32)), trivial⟩, by rw [ht]; exact hP, hD⟩, hS.F ht⟩) hS.2.2 dX11_barriers_11
theorem dX11_critical_25 : decode cX11_critical 25 = .ok (.iconst 1, 1) := by decide +kernel
theorem dX11_critical_26 : decode cX11_critical 26 = .ok (.goto 4, 3) := by decide +kernel
set_option maxHeartbeats 4000000 in
set_option maxRecDepth 100000 in
theorem k_X11_critical (l : Launch) (D : va_G) (cI cS : ClassId) (sz : Nat) (a : Nat → Nat) (na nc N : Nat) (L u0 : SU) (hL : TyX L) (hN : N = 0 ∨ N = 24576) (x0 : Int32) : Met l yX11_critical wsX11_critical ({ frames := 17, cells := 0, slots := 0, locals := 680 }) (PQ D cI cS (wX cI cS a na nc N L u0) sz [.ref (a 0), .int x0]) (QF (S := SU) D (wX cI cS a na nc N L u0) (wX cI cS a na nc N L) sz (fun r _ => Rg (-2) 1 r ∧ (r = 0 → Rg 0 4095 x0))) 0 0 (va_A (wX cI cS a na nc N L u0) sz) := by
  refine Met.ofW (cc := cX11_critical) (maxL := 2) (ret := (some .int)) (by decide) rfl ?_
  intro p e s m args below meth c s₁ B hml hv
  obtain ⟨rfl, hsz, hP, hKK, hD0⟩ := hv
  have hx := B.exec
  have hb := B.bytes
  have hr := B.returns
  have hts := atoms_spec (ws := wsX11_critical) B.pre
  have hown : s.vm.findClass RX11 = some m.cls := findClass_of_methodNamed B.named
  have hlocks := B.notSynchronized
  have hK := hKK.1
  have hin11 : ∀ w ∈ wsX110, w ∈ wsX11_critical := by decide +kernel
  subst hsz
  have hD := hD0.self (sz := s.heap.size)
  obtain ⟨A, hAe⟩ : ∃ A, A = va_A (wX cI cS a na nc N L u0) s.heap.size := ⟨_, rfl⟩
  rw [← hAe] at hD
  have hA : ∀ q : Nat, s.heap.size ≤ q → A q := fun q h => by rw [hAe]; exact Or.inr h
  have hS : va_S A s.heap s.heap [] := va_S.rf
  have hl := lv_entry ([.ref (a 0), .int x0]) (n := 2) (Nat.le_of_ble_eq_true rfl)
  rw [lg_entry_eq]
  generalize (lg_sl ([.ref (a 0), .int x0]) ++ List.replicate (2 - (lg_sl ([.ref (a 0), .int x0])).length) Slot.unset).toArray = ls at hl ⊢
  have hl : lv_has ls 2 [(0, .ref (a 0)), (1, .int x0)] := hl
  obtain ⟨u, hu9⟩ : ∃ u : SU, u = u0 := ⟨_, rfl⟩
  rw [← hu9] at hP hD
  refine lv_aload_n hx hb dX11_critical_0 rfl (lv_at hl 0 rfl) ?_
  refine va_get (D := D) (ci := 11) (v := .ref (a 1)) (C := RX11) (T := TX11) (N := 16) hx hb hts hin11 hown hK hP 0 rfl rfl 0 (by decide) (hts (.fieldLink RX11 12 "MissedPoints" "net" "LMissedPoints$Net;") (by decide +kernel)) (fun _ h9 => h9) rfl dX11_critical_1 ?_
  refine lv_iload_n hx hb dX11_critical_4 rfl (lv_at hl 1 rfl) ?_
  refine wk_sv 1 (As := [.int x0]) (rest := []) ⟨hx, hb, hml, hown, hts⟩ (k_X2_hasAll l D cI cS a na nc N L u hL hN x0) hKK hP (ci := 2) rfl rfl (cwV 1 hts gX11_critical_X2_hasAll rfl rfl rfl (by decide +kernel) ⟨Nat.le_of_ble_eq_true rfl, Nat.le_of_ble_eq_true rfl⟩) rfl hl.1 rfl (Nat.le_of_ble_eq_true rfl) dX11_critical_5 ⟨Nat.le_of_ble_eq_true rfl, Nat.le_of_ble_eq_true rfl⟩ (fun r44763 hr44763 => ?_)
  refine lv_if_ne (tgt := 14) hx hb dX11_critical_8 (by decide) (fun c44764 => ?_) (fun c44764 => ?_)
  · have g44765 : Rg 0 4095 x0 := (hr44763.2 c44764)
    have g44766 : Rg 1 1 r44763 := rg_ne_lo (k := 0) hr44763.1 (by decide) c44764 (by decide)
    refine lv_aload_n hx hb dX11_critical_14 rfl (lv_at hl 0 rfl) ?_
    refine va_get (D := D) (ci := 11) (v := .ref (a 18)) (C := RX11) (T := TX11) (N := 16) hx hb hts hin11 hown hK hP 0 rfl rfl 3 (by decide) (hts (.fieldLink RX11 37 "MissedPoints" "witness" "LMissedPoints$Witness;") (by decide +kernel)) (fun _ h9 => h9) rfl dX11_critical_15 ?_
    refine lv_iload_n hx hb dX11_critical_18 rfl (lv_at hl 1 rfl) ?_
    refine wk_qi (wX cI cS a na nc N L) u (As := [.int x0]) (rest := []) ⟨hx, hb, hml, hown, hts⟩ (k_X10_isCritical l D cI cS _ a na nc N L u hL hN x0) hKK hP hD hS hA 18 (ci := 10) rfl rfl (cwV 1 hts gX11_critical_X10_isCritical rfl rfl rfl (by decide +kernel) ⟨Nat.le_of_ble_eq_true rfl, Nat.le_of_ble_eq_true rfl⟩) rfl hl.1 rfl (Nat.le_of_ble_eq_true rfl) dX11_critical_19 ⟨Nat.le_of_ble_eq_true rfl, Nat.le_of_ble_eq_true rfl⟩ (fun r44767 u H locs hr44767 hP hD hS => ?_)
    refine lv_if_eq (tgt := 29) hx hb dX11_critical_22 (by decide) (fun c44768 => ?_) (fun c44768 => ?_)
    · have g44769 : Rg 0 0 r44767 := wk_eql hr44767.1 (by decide : Rg 0 0 (0 : Int32)) c44768 (by decide)
      refine lv_iconst (v := 0) hx hb dX11_critical_29 (by decide) ?_
      subst hAe
      exact W.iret (v := 0) hx hb hr (fun t ht hW => ⟨⟨_, u, rfl, ⟨(by decide : Rg (-2) 1 (0 : Int32)), fun _ => g44765⟩, by rw [ht]; exact hP, hD⟩, hS.F ht⟩) hS.2.2 dX11_critical_30
    · have g44770 : Rg 1 1 r44767 := rg_ne_lo (k := 0) hr44767.1 (by decide) c44768 (by decide)
      refine lv_iconst (v := 1) hx hb dX11_critical_25 (by decide) ?_
      refine lv_goto (tgt := 30) hx hb dX11_critical_26 (by decide) ?_
      subst hAe
      exact W.iret (v := 1) hx hb hr (fun t ht hW => ⟨⟨_, u, rfl, ⟨(by decide : Rg (-2) 1 (1 : Int32)), fun h9 => absurd h9 (by decide)⟩, by rw [ht]; exact hP, hD⟩, hS.F ht⟩) hS.2.2 dX11_critical_30
  · have g44771 : Rg 0 0 r44763 := wk_eql hr44763.1 (by decide : Rg 0 0 (0 : Int32)) c44764 (by decide)
    refine lv_bipush (v := (-2)) hx hb dX11_critical_11 (by decide) ?_
    subst hAe
    exact W.iret (v := (-2)) hx hb hr (fun t ht hW => ⟨⟨_, u, rfl, ⟨(by decide : Rg (-2) 1 ((-2) : Int32)), fun h9 => absurd h9 (by decide)⟩, by rw [ht]; exact hP, hD⟩, hS.F ht⟩) hS.2.2 dX11_critical_13
set_option maxRecDepth 20000 in
theorem ggX11_ear_X10_earAt : GoodIn wsX11_ear wsX10_earAt := goodIn_r _ [87, 69, 70, 104, 105, 106, 107, 108, 109, 110, 111] rfl (by decide +kernel)
set_option maxRecDepth 20000 in
theorem gX11_ear_X10_earAt : GoodIn wsX11_ear (wsV RX11 205 RX10 yX10_earAt wsX10_earAt) := goodIn_app (goodIn_of _ (by decide +kernel)) ggX11_ear_X10_earAt
set_option maxRecDepth 20000 in
theorem ggX11_ear_X10_seekEars : GoodIn wsX11_ear wsX10_seekEars := goodIn_r _ [68, 69, 70, 71, 72, 22, 73, 74, 75, 76, 16, 77, 19, 20, 21, 23, 24, 25, 26, 78, 79, 80, 30, 81, 82, 28, 29, 31, 32, 33, 34, 35, 36, 37, 38, 39, 40, 41, 42, 43, 44, 45, 46, 47, 48, 49, 50, 51, 52, 53, 54, 55, 56, 57, 58, 59, 60, 61, 62, 63, 64, 83, 14, 15, 17, 18, 27, 104, 105, 106, 107, 108, 109, 110, 111, 115, 116, 117, 118, 112, 113, 114, 119, 120] rfl (by decide +kernel)
set_option maxRecDepth 20000 in
theorem gX11_ear_X10_seekEars : GoodIn wsX11_ear (wsV RX11 199 RX10 yX10_seekEars wsX10_seekEars) := goodIn_app (goodIn_of _ (by decide +kernel)) ggX11_ear_X10_seekEars
theorem dX11_ear_28 : decode cX11_ear 28 = .ok (.aload_n 0, 1) := by decide +kernel
theorem dX11_ear_29 : decode cX11_ear 29 = .ok (.getfield 37, 3) := by decide +kernel
theorem dX11_ear_32 : decode cX11_ear 32 = .ok (.iload_n 1, 1) := by decide +kernel
theorem dX11_ear_33 : decode cX11_ear 33 = .ok (.invokevirtual 199, 3) := by decide +kernel
theorem dX11_ear_36 : decode cX11_ear 36 = .ok (.iload_n 2, 1) := by decide +kernel
theorem dX11_ear_37 : decode cX11_ear 37 = .ok (.iconst (-1), 1) := by decide +kernel
theorem dX11_ear_38 : decode cX11_ear 38 = .ok (.if_icmp .ne 13, 3) := by decide +kernel
theorem dX11_ear_41 : decode cX11_ear 41 = .ok (.aload_n 0, 1) := by decide +kernel
theorem dX11_ear_42 : decode cX11_ear 42 = .ok (.getfield 37, 3) := by decide +kernel
theorem dX11_ear_45 : decode cX11_ear 45 = .ok (.getfield 202, 3) := by decide +kernel
theorem dX11_ear_48 : decode cX11_ear 48 = .ok (.goto 11, 3) := by decide +kernel
theorem dX11_ear_51 : decode cX11_ear 51 = .ok (.aload_n 0, 1) := by decide +kernel
theorem dX11_ear_52 : decode cX11_ear 52 = .ok (.getfield 37, 3) := by decide +kernel
theorem dX11_ear_55 : decode cX11_ear 55 = .ok (.iload_n 2, 1) := by decide +kernel
theorem dX11_ear_56 : decode cX11_ear 56 = .ok (.invokevirtual 205, 3) := by decide +kernel
theorem dX11_ear_59 : decode cX11_ear 59 = .ok (.ireturn, 1) := by decide +kernel
set_option maxHeartbeats 4000000 in
set_option maxRecDepth 100000 in
theorem k_X11_ear (l : Launch) (D : va_G) (cI cS : ClassId) (sz : Nat) (a : Nat → Nat) (na nc N : Nat) (L u0 : SU) (hL : TyX L) (hN : N = 0 ∨ N = 24576) (x0 x1 : Int32) : Met l yX11_ear wsX11_ear ({ frames := 19, cells := 0, slots := 0, locals := 760 }) (PQ D cI cS (wX cI cS a na nc N L u0) sz [.ref (a 0), .int x0, .int x1]) (QF (S := SU) D (wX cI cS a na nc N L u0) (wX cI cS a na nc N L) sz (fun r _ => Rg (-2147483648) 2147483647 r ∧ True)) 0 0 (va_A (wX cI cS a na nc N L u0) sz) := by
  refine Met.ofW (cc := cX11_ear) (maxL := 3) (ret := (some .int)) (by decide) rfl ?_
  intro p e s m args below meth c s₁ B hml hv
  obtain ⟨rfl, hsz, hP, hKK, hD0⟩ := hv
  have hx := B.exec
  have hb := B.bytes
  have hr := B.returns
  have hts := atoms_spec (ws := wsX11_ear) B.pre
  have hown : s.vm.findClass RX11 = some m.cls := findClass_of_methodNamed B.named
  have hlocks := B.notSynchronized
  have hK := hKK.1
  have hin10 : ∀ w ∈ wsX100, w ∈ wsX11_ear := by decide +kernel
  have hin11 : ∀ w ∈ wsX110, w ∈ wsX11_ear := by decide +kernel
  subst hsz
  have hD := hD0.self (sz := s.heap.size)
  obtain ⟨A, hAe⟩ : ∃ A, A = va_A (wX cI cS a na nc N L u0) s.heap.size := ⟨_, rfl⟩
  rw [← hAe] at hD
  have hA : ∀ q : Nat, s.heap.size ≤ q → A q := fun q h => by rw [hAe]; exact Or.inr h
  have hS : va_S A s.heap s.heap [] := va_S.rf
  have hl := lv_entry ([.ref (a 0), .int x0, .int x1]) (n := 3) (Nat.le_of_ble_eq_true rfl)
  rw [lg_entry_eq]
  generalize (lg_sl ([.ref (a 0), .int x0, .int x1]) ++ List.replicate (3 - (lg_sl ([.ref (a 0), .int x0, .int x1])).length) Slot.unset).toArray = ls at hl ⊢
  have hl : lv_has ls 3 [(0, .ref (a 0)), (1, .int x0), (2, .int x1)] := hl
  obtain ⟨u, hu9⟩ : ∃ u : SU, u = u0 := ⟨_, rfl⟩
  rw [← hu9] at hP hD
  refine lv_aload_n hx hb dX11_ear_0 rfl (lv_at hl 0 rfl) ?_
  refine va_get (D := D) (ci := 11) (v := .ref (a 1)) (C := RX11) (T := TX11) (N := 16) hx hb hts hin11 hown hK hP 0 rfl rfl 0 (by decide) (hts (.fieldLink RX11 12 "MissedPoints" "net" "LMissedPoints$Net;") (by decide +kernel)) (fun _ h9 => h9) rfl dX11_ear_1 ?_
  refine lv_iload_n hx hb dX11_ear_4 rfl (lv_at hl 1 rfl) ?_
  refine wk_sv 1 (As := [.int x0]) (rest := []) ⟨hx, hb, hml, hown, hts⟩ (k_X2_hasAll l D cI cS a na nc N L u hL hN x0) hKK hP (ci := 2) rfl rfl (cwV 1 hts gX11_ear_X2_hasAll rfl rfl rfl (by decide +kernel) ⟨Nat.le_of_ble_eq_true rfl, Nat.le_of_ble_eq_true rfl⟩) rfl hl.1 rfl (Nat.le_of_ble_eq_true rfl) dX11_ear_5 ⟨Nat.le_of_ble_eq_true rfl, Nat.le_of_ble_eq_true rfl⟩ (fun r44786 hr44786 => ?_)
  refine lv_if_ne (tgt := 14) hx hb dX11_ear_8 (by decide) (fun c44787 => ?_) (fun c44787 => ?_)
  · have g44788 : Rg 0 4095 x0 := (hr44786.2 c44787)
    have g44789 : Rg 1 1 r44786 := rg_ne_lo (k := 0) hr44786.1 (by decide) c44787 (by decide)
    refine lv_aload_n hx hb dX11_ear_14 rfl (lv_at hl 0 rfl) ?_
    refine va_get (D := D) (ci := 11) (v := .ref (a 18)) (C := RX11) (T := TX11) (N := 16) hx hb hts hin11 hown hK hP 0 rfl rfl 3 (by decide) (hts (.fieldLink RX11 37 "MissedPoints" "witness" "LMissedPoints$Witness;") (by decide +kernel)) (fun _ h9 => h9) rfl dX11_ear_15 ?_
    refine lv_iload_n hx hb dX11_ear_18 rfl (lv_at hl 1 rfl) ?_
    refine wk_qi (wX cI cS a na nc N L) u (As := [.int x0]) (rest := []) ⟨hx, hb, hml, hown, hts⟩ (k_X10_isCritical l D cI cS _ a na nc N L u hL hN x0) hKK hP hD hS hA 18 (ci := 10) rfl rfl (cwV 1 hts gX11_ear_X10_isCritical rfl rfl rfl (by decide +kernel) ⟨Nat.le_of_ble_eq_true rfl, Nat.le_of_ble_eq_true rfl⟩) rfl hl.1 rfl (Nat.le_of_ble_eq_true rfl) dX11_ear_19 ⟨Nat.le_of_ble_eq_true rfl, Nat.le_of_ble_eq_true rfl⟩ (fun r44790 u H locs hr44790 hP hD hS => ?_)
    refine lv_if_ne (tgt := 28) hx hb dX11_ear_22 (by decide) (fun c44791 => ?_) (fun c44791 => ?_)
    · have g44792 : Rg 1 1 r44790 := rg_ne_lo (k := 0) hr44790.1 (by decide) c44791 (by decide)
      refine lv_aload_n hx hb dX11_ear_28 rfl (lv_at hl 0 rfl) ?_
      refine va_get (D := D) (ci := 11) (v := .ref (a 18)) (C := RX11) (T := TX11) (N := 16) hx hb hts hin11 hown hK hP 0 rfl rfl 3 (by decide) (hts (.fieldLink RX11 37 "MissedPoints" "witness" "LMissedPoints$Witness;") (by decide +kernel)) (fun _ h9 => h9) rfl dX11_ear_29 ?_
      refine lv_iload_n hx hb dX11_ear_32 rfl (lv_at hl 1 rfl) ?_
      refine wk_qv (wX cI cS a na nc N L) u (As := [.int x0]) (rest := []) ⟨hx, hb, hml, hown, hts⟩ (k_X10_seekEars l D cI cS _ a na nc N L u hL hN x0) hKK hP hD hS hA 18 (ci := 10) rfl rfl (cwV 1 hts gX11_ear_X10_seekEars rfl rfl rfl (by decide +kernel) ⟨Nat.le_of_ble_eq_true rfl, Nat.le_of_ble_eq_true rfl⟩) rfl hl.1 rfl (Nat.le_of_ble_eq_true rfl) dX11_ear_33 ⟨Nat.le_of_ble_eq_true rfl, Nat.le_of_ble_eq_true rfl⟩ (fun u H locs hr44793 hP hD hS => ?_)
      refine lv_iload_n hx hb dX11_ear_36 rfl (lv_at hl 2 rfl) ?_
      refine lv_iconst (v := (-1)) hx hb dX11_ear_37 (by decide) ?_
      refine lv_icmp_ne (tgt := 51) hx hb dX11_ear_38 (by decide) (fun c44794 => ?_) (fun c44794 => ?_)
      · refine lv_aload_n hx hb dX11_ear_51 rfl (lv_at hl 0 rfl) ?_
        refine va_get (D := D) (ci := 11) (v := .ref (a 18)) (C := RX11) (T := TX11) (N := 16) hx hb hts hin11 hown hK hP 0 rfl rfl 3 (by decide) (hts (.fieldLink RX11 37 "MissedPoints" "witness" "LMissedPoints$Witness;") (by decide +kernel)) (fun _ h9 => h9) rfl dX11_ear_52 ?_
        refine lv_iload_n hx hb dX11_ear_55 rfl (lv_at hl 2 rfl) ?_
        refine wk_sv 18 (As := [.int x1]) (rest := []) ⟨hx, hb, hml, hown, hts⟩ (k_X10_earAt l D cI cS a na nc N L u hL hN x1) hKK hP (ci := 10) rfl rfl (cwV 1 hts gX11_ear_X10_earAt rfl rfl rfl (by decide +kernel) ⟨Nat.le_of_ble_eq_true rfl, Nat.le_of_ble_eq_true rfl⟩) rfl hl.1 rfl (Nat.le_of_ble_eq_true rfl) dX11_ear_56 ⟨Nat.le_of_ble_eq_true rfl, Nat.le_of_ble_eq_true rfl⟩ (fun r44795 hr44795 => ?_)
        subst hAe
        exact W.iret (v := r44795) hx hb hr (fun t ht hW => ⟨⟨_, u, rfl, ⟨hr44795.1, trivial⟩, by rw [ht]; exact hP, hD⟩, hS.F ht⟩) hS.2.2 dX11_ear_59
      · have g44796 : Rg (-1) (-1) x1 := wk_eql (rg_any x1) (by decide : Rg (-1) (-1) ((-1) : Int32)) c44794 (by decide)
        refine lv_aload_n hx hb dX11_ear_41 rfl (lv_at hl 0 rfl) ?_
        refine va_get (D := D) (ci := 11) (v := .ref (a 18)) (C := RX11) (T := TX11) (N := 16) hx hb hts hin11 hown hK hP 0 rfl rfl 3 (by decide) (hts (.fieldLink RX11 37 "MissedPoints" "witness" "LMissedPoints$Witness;") (by decide +kernel)) (fun _ h9 => h9) rfl dX11_ear_42 ?_
        refine va_getN (D := D) (ci := 10) (v := .int (u 18 3)) (C := RX10) (T := TX10) (N := 8) hx hb hts hin10 hown hK hP 18 rfl rfl 3 (by decide) (va_Nw.use rfl hKK.2.2.2.2.2.2.1) (fun _ h9 => h9) rfl dX11_ear_45 ?_
        refine wk_any (fun r44797 => ?_)
        refine lv_goto (tgt := 59) hx hb dX11_ear_48 (by decide) ?_
        subst hAe
        exact W.iret (v := r44797) hx hb hr (fun t ht hW => ⟨⟨_, u, rfl, ⟨(rg_any r44797), trivial⟩, by rw [ht]; exact hP, hD⟩, hS.F ht⟩) hS.2.2 dX11_ear_59
    · have g44798 : Rg 0 0 r44790 := wk_eql hr44790.1 (by decide : Rg 0 0 (0 : Int32)) c44791 (by decide)
      refine lv_bipush (v := (-3)) hx hb dX11_ear_25 (by decide) ?_
      subst hAe
      exact W.iret (v := (-3)) hx hb hr (fun t ht hW => ⟨⟨_, u, rfl, ⟨(by decide : Rg (-2147483648) 2147483647 ((-3) : Int32)), trivial⟩, by rw [ht]; exact hP, hD⟩, hS.F ht⟩) hS.2.2 dX11_ear_27
  · have g44799 : Rg 0 0 r44786 := wk_eql hr44786.1 (by decide : Rg 0 0 (0 : Int32)) c44787 (by decide)
    refine lv_bipush (v := (-2)) hx hb dX11_ear_11 (by decide) ?_
    subst hAe
    exact W.iret (v := (-2)) hx hb hr (fun t ht hW => ⟨⟨_, u, rfl, ⟨(by decide : Rg (-2147483648) 2147483647 ((-2) : Int32)), trivial⟩, by rw [ht]; exact hP, hD⟩, hS.F ht⟩) hS.2.2 dX11_ear_13
set_option maxRecDepth 20000 in
theorem ggX11_verdict_X2_joined : GoodIn wsX11_verdict wsX2_joined := goodIn_r _ [16, 17, 18, 4, 5, 6, 7, 8, 9, 10, 11, 12, 95, 96, 97] rfl (by decide +kernel)
set_option maxRecDepth 20000 in
theorem gX11_verdict_X2_joined : GoodIn wsX11_verdict (wsV RX11 109 RX2 yX2_joined wsX2_joined) := goodIn_app (goodIn_of _ (by decide +kernel)) ggX11_verdict_X2_joined
set_option maxRecDepth 20000 in
theorem ggX11_verdict_X3_judge : GoodIn wsX11_verdict wsX3_judge := goodIn_r _ [23, 24, 25, 26, 27, 22, 28, 29, 30, 31, 6, 32, 17, 8, 9, 10, 11, 12, 33, 34, 35, 36, 37, 38, 39, 40, 41, 42, 43, 44, 45, 46, 47, 48, 49, 50, 51, 52, 53, 54, 55, 56, 57, 58, 59, 60, 61, 62, 63, 64, 65, 66, 67, 68, 69, 70, 71, 72, 73, 74, 75, 76, 77, 78, 98, 99, 100, 101, 95, 96, 97, 102, 103] rfl (by decide +kernel)
set_option maxRecDepth 20000 in
theorem gX11_verdict_X3_judge : GoodIn wsX11_verdict (wsV RX11 208 RX3 yX3_judge wsX3_judge) := goodIn_app (goodIn_of _ (by decide +kernel)) ggX11_verdict_X3_judge
theorem dX11_verdict_15 : decode cX11_verdict 15 = .ok (.aload_n 0, 1) := by decide +kernel
theorem dX11_verdict_16 : decode cX11_verdict 16 = .ok (.getfield 12, 3) := by decide +kernel
theorem dX11_verdict_19 : decode cX11_verdict 19 = .ok (.iload_n 1, 1) := by decide +kernel
theorem dX11_verdict_20 : decode cX11_verdict 20 = .ok (.iload_n 2, 1) := by decide +kernel
theorem dX11_verdict_21 : decode cX11_verdict 21 = .ok (.invokevirtual 109, 3) := by decide +kernel
theorem dX11_verdict_24 : decode cX11_verdict 24 = .ok (.ifCond .eq 15, 3) := by decide +kernel
theorem dX11_verdict_27 : decode cX11_verdict 27 = .ok (.aload_n 0, 1) := by decide +kernel
theorem dX11_verdict_28 : decode cX11_verdict 28 = .ok (.getfield 21, 3) := by decide +kernel
theorem dX11_verdict_31 : decode cX11_verdict 31 = .ok (.iload_n 1, 1) := by decide +kernel
theorem dX11_verdict_32 : decode cX11_verdict 32 = .ok (.iload_n 2, 1) := by decide +kernel
theorem dX11_verdict_33 : decode cX11_verdict 33 = .ok (.invokevirtual 208, 3) := by decide +kernel
theorem dX11_verdict_36 : decode cX11_verdict 36 = .ok (.goto 4, 3) := by decide +kernel
theorem dX11_verdict_39 : decode cX11_verdict 39 = .ok (.iconst (-1), 1) := by decide +kernel
theorem dX11_verdict_40 : decode cX11_verdict 40 = .ok (.ireturn, 1) := by decide +kernel
set_option maxHeartbeats 4000000 in
set_option maxRecDepth 100000 in
theorem k_X11_verdict (l : Launch) (D : va_G) (cI cS : ClassId) (sz : Nat) (a : Nat → Nat) (na nc N : Nat) (L u0 : SU) (hL : TyX L) (hN : N = 0 ∨ N = 24576) (x0 x1 : Int32) : Met l yX11_verdict wsX11_verdict ({ frames := 18, cells := 0, slots := 0, locals := 720 }) (PQ D cI cS (wX cI cS a na nc N L u0) sz [.ref (a 0), .int x0, .int x1]) (QF (S := SU) D (wX cI cS a na nc N L u0) (wX cI cS a na nc N L) sz (fun r _ => Rg (-2) 2 r ∧ True)) 0 0 (va_A (wX cI cS a na nc N L u0) sz) := by
  refine Met.ofW (cc := cX11_verdict) (maxL := 3) (ret := (some .int)) (by decide) rfl ?_
  intro p e s m args below meth c s₁ B hml hv
  obtain ⟨rfl, hsz, hP, hKK, hD0⟩ := hv
  have hx := B.exec
  have hb := B.bytes
  have hr := B.returns
  have hts := atoms_spec (ws := wsX11_verdict) B.pre
  have hown : s.vm.findClass RX11 = some m.cls := findClass_of_methodNamed B.named
  have hlocks := B.notSynchronized
  have hK := hKK.1
  have hin11 : ∀ w ∈ wsX110, w ∈ wsX11_verdict := by decide +kernel
  subst hsz
  have hD := hD0.self (sz := s.heap.size)
  obtain ⟨A, hAe⟩ : ∃ A, A = va_A (wX cI cS a na nc N L u0) s.heap.size := ⟨_, rfl⟩
  rw [← hAe] at hD
  have hA : ∀ q : Nat, s.heap.size ≤ q → A q := fun q h => by rw [hAe]; exact Or.inr h
  have hS : va_S A s.heap s.heap [] := va_S.rf
  have hl := lv_entry ([.ref (a 0), .int x0, .int x1]) (n := 3) (Nat.le_of_ble_eq_true rfl)
  rw [lg_entry_eq]
  generalize (lg_sl ([.ref (a 0), .int x0, .int x1]) ++ List.replicate (3 - (lg_sl ([.ref (a 0), .int x0, .int x1])).length) Slot.unset).toArray = ls at hl ⊢
  have hl : lv_has ls 3 [(0, .ref (a 0)), (1, .int x0), (2, .int x1)] := hl
  obtain ⟨u, hu9⟩ : ∃ u : SU, u = u0 := ⟨_, rfl⟩
  rw [← hu9] at hP hD
  refine lv_aload_n hx hb dX11_verdict_0 rfl (lv_at hl 0 rfl) ?_
  refine va_get (D := D) (ci := 11) (v := .ref (a 1)) (C := RX11) (T := TX11) (N := 16) hx hb hts hin11 hown hK hP 0 rfl rfl 0 (by decide) (hts (.fieldLink RX11 12 "MissedPoints" "net" "LMissedPoints$Net;") (by decide +kernel)) (fun _ h9 => h9) rfl dX11_verdict_1 ?_
  refine lv_iload_n hx hb dX11_verdict_4 rfl (lv_at hl 1 rfl) ?_
  refine lv_iload_n hx hb dX11_verdict_5 rfl (lv_at hl 2 rfl) ?_
  refine wk_sv 1 (As := [.int x0, .int x1]) (rest := []) ⟨hx, hb, hml, hown, hts⟩ (k_X2_areTwo l D cI cS a na nc N L u hL hN x0 x1) hKK hP (ci := 2) rfl rfl (cwV 2 hts gX11_verdict_X2_areTwo rfl rfl rfl (by decide +kernel) ⟨Nat.le_of_ble_eq_true rfl, Nat.le_of_ble_eq_true rfl⟩) rfl hl.1 rfl (Nat.le_of_ble_eq_true rfl) dX11_verdict_6 ⟨Nat.le_of_ble_eq_true rfl, Nat.le_of_ble_eq_true rfl⟩ (fun r44811 hr44811 => ?_)
  refine lv_if_ne (tgt := 15) hx hb dX11_verdict_9 (by decide) (fun c44812 => ?_) (fun c44812 => ?_)
  · have g44813 : Rg 0 11 x0 := (hr44811.2 c44812).1
    have g44814 : Rg 0 11 x1 := (hr44811.2 c44812).2
    have g44815 : Rg 1 1 r44811 := rg_ne_lo (k := 0) hr44811.1 (by decide) c44812 (by decide)
    refine lv_aload_n hx hb dX11_verdict_15 rfl (lv_at hl 0 rfl) ?_
    refine va_get (D := D) (ci := 11) (v := .ref (a 1)) (C := RX11) (T := TX11) (N := 16) hx hb hts hin11 hown hK hP 0 rfl rfl 0 (by decide) (hts (.fieldLink RX11 12 "MissedPoints" "net" "LMissedPoints$Net;") (by decide +kernel)) (fun _ h9 => h9) rfl dX11_verdict_16 ?_
    refine lv_iload_n hx hb dX11_verdict_19 rfl (lv_at hl 1 rfl) ?_
    refine lv_iload_n hx hb dX11_verdict_20 rfl (lv_at hl 2 rfl) ?_
    refine wk_sv 1 (As := [.int x0, .int x1]) (rest := []) ⟨hx, hb, hml, hown, hts⟩ (k_X2_joined l D cI cS a na nc N L u hL hN x0 x1) hKK hP (ci := 2) rfl rfl (cwV 2 hts gX11_verdict_X2_joined rfl rfl rfl (by decide +kernel) ⟨Nat.le_of_ble_eq_true rfl, Nat.le_of_ble_eq_true rfl⟩) rfl hl.1 rfl (Nat.le_of_ble_eq_true rfl) dX11_verdict_21 ⟨Nat.le_of_ble_eq_true rfl, Nat.le_of_ble_eq_true rfl⟩ (fun r44816 hr44816 => ?_)
    refine lv_if_eq (tgt := 39) hx hb dX11_verdict_24 (by decide) (fun c44817 => ?_) (fun c44817 => ?_)
    · have g44818 : Rg 0 0 r44816 := wk_eql hr44816.1 (by decide : Rg 0 0 (0 : Int32)) c44817 (by decide)
      refine lv_iconst (v := (-1)) hx hb dX11_verdict_39 (by decide) ?_
      subst hAe
      exact W.iret (v := (-1)) hx hb hr (fun t ht hW => ⟨⟨_, u, rfl, ⟨(by decide : Rg (-2) 2 ((-1) : Int32)), trivial⟩, by rw [ht]; exact hP, hD⟩, hS.F ht⟩) hS.2.2 dX11_verdict_40
    · have g44819 : Rg 1 1 r44816 := rg_ne_lo (k := 0) hr44816.1 (by decide) c44817 (by decide)
      refine lv_aload_n hx hb dX11_verdict_27 rfl (lv_at hl 0 rfl) ?_
      refine va_get (D := D) (ci := 11) (v := .ref (a 7)) (C := RX11) (T := TX11) (N := 16) hx hb hts hin11 hown hK hP 0 rfl rfl 1 (by decide) (hts (.fieldLink RX11 21 "MissedPoints" "pairs" "LMissedPoints$Pairs;") (by decide +kernel)) (fun _ h9 => h9) rfl dX11_verdict_28 ?_
      refine lv_iload_n hx hb dX11_verdict_31 rfl (lv_at hl 1 rfl) ?_
      refine lv_iload_n hx hb dX11_verdict_32 rfl (lv_at hl 2 rfl) ?_
      refine wk_qi (wX cI cS a na nc N L) u (As := [.int x0, .int x1]) (rest := []) ⟨hx, hb, hml, hown, hts⟩ (k_X3_judge l D cI cS _ a na nc N L u hL hN x0 x1) hKK hP hD hS hA 7 (ci := 3) rfl rfl (cwV 2 hts gX11_verdict_X3_judge rfl rfl rfl (by decide +kernel) ⟨Nat.le_of_ble_eq_true rfl, Nat.le_of_ble_eq_true rfl⟩) rfl hl.1 rfl (Nat.le_of_ble_eq_true rfl) dX11_verdict_33 ⟨Nat.le_of_ble_eq_true rfl, Nat.le_of_ble_eq_true rfl⟩ (fun r44820 u H locs hr44820 hP hD hS => ?_)
      refine lv_goto (tgt := 40) hx hb dX11_verdict_36 (by decide) ?_
      subst hAe
      exact W.iret (v := r44820) hx hb hr (fun t ht hW => ⟨⟨_, u, rfl, ⟨(show Rg (-2) 2 r44820 from rg_w hr44820.1 (by decide) (by decide)), trivial⟩, by rw [ht]; exact hP, hD⟩, hS.F ht⟩) hS.2.2 dX11_verdict_40
  · have g44821 : Rg 0 0 r44811 := wk_eql hr44811.1 (by decide : Rg 0 0 (0 : Int32)) c44812 (by decide)
    refine lv_bipush (v := (-2)) hx hb dX11_verdict_12 (by decide) ?_
    subst hAe
    exact W.iret (v := (-2)) hx hb hr (fun t ht hW => ⟨⟨_, u, rfl, ⟨(by decide : Rg (-2) 2 ((-2) : Int32)), trivial⟩, by rw [ht]; exact hP, hD⟩, hS.F ht⟩) hS.2.2 dX11_verdict_14
set_option maxRecDepth 20000 in
theorem ggX11_verdicts_X2_joined : GoodIn wsX11_verdicts wsX2_joined := goodIn_r _ [7, 8, 9, 10, 11, 6, 12, 13, 14, 15, 16, 17, 94, 95, 96] rfl (by decide +kernel)
set_option maxRecDepth 20000 in
theorem gX11_verdicts_X2_joined : GoodIn wsX11_verdicts (wsV RX11 109 RX2 yX2_joined wsX2_joined) := goodIn_app (goodIn_of _ (by decide +kernel)) ggX11_verdicts_X2_joined
set_option maxRecDepth 20000 in
theorem ggX11_verdicts_X3_judge : GoodIn wsX11_verdicts wsX3_judge := goodIn_r _ [22, 23, 24, 25, 26, 21, 27, 28, 29, 30, 6, 31, 8, 13, 14, 15, 16, 17, 32, 33, 34, 35, 36, 37, 38, 39, 40, 41, 42, 43, 44, 45, 46, 47, 48, 49, 50, 51, 52, 53, 54, 55, 56, 57, 58, 59, 60, 61, 62, 63, 64, 65, 66, 67, 68, 69, 70, 71, 72, 73, 74, 75, 76, 77, 97, 98, 99, 100, 94, 95, 96, 101, 102] rfl (by decide +kernel)
set_option maxRecDepth 20000 in
theorem gX11_verdicts_X3_judge : GoodIn wsX11_verdicts (wsV RX11 208 RX3 yX3_judge wsX3_judge) := goodIn_app (goodIn_of _ (by decide +kernel)) ggX11_verdicts_X3_judge
theorem dX11_verdicts_27 : decode cX11_verdicts 27 = .ok (.iload_n 3, 1) := by decide +kernel
theorem dX11_verdicts_28 : decode cX11_verdicts 28 = .ok (.iconst 1, 1) := by decide +kernel
theorem dX11_verdicts_29 : decode cX11_verdicts 29 = .ok (.iadd, 1) := by decide +kernel
theorem dX11_verdicts_30 : decode cX11_verdicts 30 = .ok (.istore 4, 2) := by decide +kernel
theorem dX11_verdicts_32 : decode cX11_verdicts 32 = .ok (.iload 4, 2) := by decide +kernel
theorem dX11_verdicts_34 : decode cX11_verdicts 34 = .ok (.aload_n 0, 1) := by decide +kernel
theorem dX11_verdicts_35 : decode cX11_verdicts 35 = .ok (.getfield 12, 3) := by decide +kernel
theorem dX11_verdicts_38 : decode cX11_verdicts 38 = .ok (.getfield 97, 3) := by decide +kernel
theorem dX11_verdicts_41 : decode cX11_verdicts 41 = .ok (.if_icmp .ge 39, 3) := by decide +kernel
theorem dX11_verdicts_44 : decode cX11_verdicts 44 = .ok (.aload_n 0, 1) := by decide +kernel
theorem dX11_verdicts_45 : decode cX11_verdicts 45 = .ok (.getfield 12, 3) := by decide +kernel
theorem dX11_verdicts_48 : decode cX11_verdicts 48 = .ok (.iload_n 3, 1) := by decide +kernel
theorem dX11_verdicts_49 : decode cX11_verdicts 49 = .ok (.iload 4, 2) := by decide +kernel
theorem dX11_verdicts_51 : decode cX11_verdicts 51 = .ok (.invokevirtual 109, 3) := by decide +kernel
theorem dX11_verdicts_54 : decode cX11_verdicts 54 = .ok (.ifCond .eq 20, 3) := by decide +kernel
theorem dX11_verdicts_57 : decode cX11_verdicts 57 = .ok (.aload_n 0, 1) := by decide +kernel
theorem dX11_verdicts_58 : decode cX11_verdicts 58 = .ok (.getfield 21, 3) := by decide +kernel
theorem dX11_verdicts_61 : decode cX11_verdicts 61 = .ok (.iload_n 3, 1) := by decide +kernel
theorem dX11_verdicts_62 : decode cX11_verdicts 62 = .ok (.iload 4, 2) := by decide +kernel
theorem dX11_verdicts_64 : decode cX11_verdicts 64 = .ok (.invokevirtual 208, 3) := by decide +kernel
theorem dX11_verdicts_67 : decode cX11_verdicts 67 = .ok (.iload_n 1, 1) := by decide +kernel
theorem dX11_verdicts_68 : decode cX11_verdicts 68 = .ok (.if_icmp .ne 6, 3) := by decide +kernel
theorem dX11_verdicts_71 : decode cX11_verdicts 71 = .ok (.iinc 2 1, 3) := by decide +kernel
theorem dX11_verdicts_74 : decode cX11_verdicts 74 = .ok (.iinc 4 1, 3) := by decide +kernel
theorem dX11_verdicts_77 : decode cX11_verdicts 77 = .ok (.goto (-45), 3) := by decide +kernel
theorem dX11_verdicts_80 : decode cX11_verdicts 80 = .ok (.iinc 3 1, 3) := by decide +kernel
theorem dX11_verdicts_83 : decode cX11_verdicts 83 = .ok (.goto (-67), 3) := by decide +kernel
set_option maxHeartbeats 4000000 in
set_option maxRecDepth 100000 in
theorem k_X11_verdicts (l : Launch) (D : va_G) (cI cS : ClassId) (sz : Nat) (a : Nat → Nat) (na nc N : Nat) (L u0 : SU) (hL : TyX L) (hN : N = 0 ∨ N = 24576) (x0 : Int32) : Met l yX11_verdicts wsX11_verdicts ({ frames := 18, cells := 0, slots := 0, locals := 720 }) (PQ D cI cS (wX cI cS a na nc N L u0) sz [.ref (a 0), .int x0]) (QF (S := SU) D (wX cI cS a na nc N L u0) (wX cI cS a na nc N L) sz (fun r _ => Rg (-2147483648) 2147483647 r ∧ True)) 0 0 (va_A (wX cI cS a na nc N L u0) sz) := by
  refine Met.ofW (cc := cX11_verdicts) (maxL := 5) (ret := (some .int)) (by decide) rfl ?_
  intro p e s m args below meth c s₁ B hml hv
  obtain ⟨rfl, hsz, hP, hKK, hD0⟩ := hv
  have hx := B.exec
  have hb := B.bytes
  have hr := B.returns
  have hts := atoms_spec (ws := wsX11_verdicts) B.pre
  have hown : s.vm.findClass RX11 = some m.cls := findClass_of_methodNamed B.named
  have hlocks := B.notSynchronized
  have hK := hKK.1
  have hin2 : ∀ w ∈ wsX20, w ∈ wsX11_verdicts := by decide +kernel
  have hin11 : ∀ w ∈ wsX110, w ∈ wsX11_verdicts := by decide +kernel
  subst hsz
  have hD := hD0.self (sz := s.heap.size)
  obtain ⟨A, hAe⟩ : ∃ A, A = va_A (wX cI cS a na nc N L u0) s.heap.size := ⟨_, rfl⟩
  rw [← hAe] at hD
  have hA : ∀ q : Nat, s.heap.size ≤ q → A q := fun q h => by rw [hAe]; exact Or.inr h
  have hS : va_S A s.heap s.heap [] := va_S.rf
  have hl := lv_entry ([.ref (a 0), .int x0]) (n := 5) (Nat.le_of_ble_eq_true rfl)
  rw [lg_entry_eq]
  generalize (lg_sl ([.ref (a 0), .int x0]) ++ List.replicate (5 - (lg_sl ([.ref (a 0), .int x0])).length) Slot.unset).toArray = ls at hl ⊢
  have hl : lv_has ls 5 [(0, .ref (a 0)), (1, .int x0)] := hl
  obtain ⟨u, hu9⟩ : ∃ u : SU, u = u0 := ⟨_, rfl⟩
  rw [← hu9] at hP hD
  have lp16 : ∀ (n16 : Nat) (y16_l2 : Int32) (y16_l3 : Int32) (u : SU) (H : Heap) (locs : List Loc) (ls : Array Slot), Rg 0 2 x0 → Rg 0 12 y16_l3 → va_P D cls (wX cI cS a na nc N L u) H → va_D A (wX cI cS a na nc N L u) → va_S A s.heap H locs → lv_has ls 5 [(0, .ref (a 0)), (1, .int x0), (2, .int y16_l2), (3, .int y16_l3)] → 12 - y16_l3.toInt < (n16 : Int) → W p l e (headSpec wsX11_verdicts ({ frames := 18, cells := 0, slots := 0, locals := 720 })).room s m ([.ref (a 0), .int x0]).toArray below meth c H locs 0 0 (MQ below (QF (S := SU) D (wX cI cS a na nc N L u0) (wX cI cS a na nc N L) s.heap.size (fun r _ => Rg (-2147483648) 2147483647 r ∧ True)) ([.ref (a 0), .int x0]).toArray s 0 0 (va_A (wX cI cS a na nc N L u0) s.heap.size)) (F0 m 16 ls []) := by
    intro n16
    induction n16 with
    | zero =>
      intro y16_l2 y16_l3 u H locs ls g16_l1 g16_l3 hP hD hS hl hm16
      exact absurd rfl (me_z g16_l3 hm16)
    | succ n16 ih16 =>
      intro y16_l2 y16_l3 u H locs ls g16_l1 g16_l3 hP hD hS hl hm16
      have lp32 : ∀ (n32 : Nat) (y32_l2 : Int32) (y32_l4 : Int32) (u : SU) (H : Heap) (locs : List Loc) (ls : Array Slot), Rg 0 2 x0 → Rg 0 11 y16_l3 → Rg 1 12 y32_l4 → va_P D cls (wX cI cS a na nc N L u) H → va_D A (wX cI cS a na nc N L u) → va_S A s.heap H locs → lv_has ls 5 [(0, .ref (a 0)), (1, .int x0), (2, .int y32_l2), (3, .int y16_l3), (4, .int y32_l4)] → 12 - y32_l4.toInt < (n32 : Int) → W p l e (headSpec wsX11_verdicts ({ frames := 18, cells := 0, slots := 0, locals := 720 })).room s m ([.ref (a 0), .int x0]).toArray below meth c H locs 0 0 (MQ below (QF (S := SU) D (wX cI cS a na nc N L u0) (wX cI cS a na nc N L) s.heap.size (fun r _ => Rg (-2147483648) 2147483647 r ∧ True)) ([.ref (a 0), .int x0]).toArray s 0 0 (va_A (wX cI cS a na nc N L u0) s.heap.size)) (F0 m 32 ls []) := by
        intro n32
        induction n32 with
        | zero =>
          intro y32_l2 y32_l4 u H locs ls g32_l1 g32_l3 g32_l4 hP hD hS hl hm32
          exact absurd rfl (me_z g32_l4 hm32)
        | succ n32 ih32 =>
          intro y32_l2 y32_l4 u H locs ls g32_l1 g32_l3 g32_l4 hP hD hS hl hm32
          refine lv_iload hx hb dX11_verdicts_32 (lv_at hl 4 rfl) ?_
          refine lv_aload_n hx hb dX11_verdicts_34 rfl (lv_at hl 0 rfl) ?_
          refine va_get (D := D) (ci := 11) (v := .ref (a 1)) (C := RX11) (T := TX11) (N := 16) hx hb hts hin11 hown hK hP 0 rfl rfl 0 (by decide) (hts (.fieldLink RX11 12 "MissedPoints" "net" "LMissedPoints$Net;") (by decide +kernel)) (fun _ h9 => h9) rfl dX11_verdicts_35 ?_
          refine va_getN (D := D) (ci := 2) (v := .int (L 1 1)) (C := RX2) (T := TX2) (N := 3) hx hb hts hin2 hown hK hP 1 rfl rfl 1 (by decide) (va_Nw.use rfl hKK.2.2.2.2.2.2.2.2.2.2.1) (fun _ h9 => h9) rfl dX11_verdicts_38 ?_
          refine lv_icmp_ge (tgt := 80) hx hb dX11_verdicts_41 (by decide) (fun c45596 => ?_) (fun c45596 => ?_)
          · refine wk_iinc (lv' := fun r => [(3, .int r), (0, .ref (a 0)), (1, .int x0), (2, .int y32_l2), (4, .int y32_l4)]) (e1 := 1) (f := 12) hx hb dX11_verdicts_80 hl (k := 3) rfl (by decide) g32_l3 (by decide) (fun _ => rfl) (fun r45597 ls hr45597 er45597 hl => ?_)
            refine lv_goto (tgt := 16) hx hb dX11_verdicts_83 (by decide) ?_
            exact ih16 y32_l2 r45597 u _ _ ls g32_l1 (show Rg 0 12 r45597 from rg_w hr45597 (by decide) (by decide)) hP hD hS (lv_sub (l' := [(0, .ref (a 0)), (1, .int x0), (2, .int y32_l2), (3, .int r45597)]) hl [1, 2, 3, 0] rfl) (me_up hm16 er45597 (by decide))
          · have g45598 : Rg 2 12 (L 1 1) := rg_ltr g32_l4 hL.1 (rg_nle c45596) (by decide)
            have g45599 : Rg 1 11 y32_l4 := rg_ltl g32_l4 hL.1 (rg_nle c45596) (by decide)
            refine lv_aload_n hx hb dX11_verdicts_44 rfl (lv_at hl 0 rfl) ?_
            refine va_get (D := D) (ci := 11) (v := .ref (a 1)) (C := RX11) (T := TX11) (N := 16) hx hb hts hin11 hown hK hP 0 rfl rfl 0 (by decide) (hts (.fieldLink RX11 12 "MissedPoints" "net" "LMissedPoints$Net;") (by decide +kernel)) (fun _ h9 => h9) rfl dX11_verdicts_45 ?_
            refine lv_iload_n hx hb dX11_verdicts_48 rfl (lv_at hl 3 rfl) ?_
            refine lv_iload hx hb dX11_verdicts_49 (lv_at hl 4 rfl) ?_
            refine wk_sv 1 (As := [.int y16_l3, .int y32_l4]) (rest := []) ⟨hx, hb, hml, hown, hts⟩ (k_X2_joined l D cI cS a na nc N L u hL hN y16_l3 y32_l4) hKK hP (ci := 2) rfl rfl (cwV 2 hts gX11_verdicts_X2_joined rfl rfl rfl (by decide +kernel) ⟨Nat.le_of_ble_eq_true rfl, Nat.le_of_ble_eq_true rfl⟩) rfl hl.1 rfl (Nat.le_of_ble_eq_true rfl) dX11_verdicts_51 ⟨Nat.le_of_ble_eq_true rfl, Nat.le_of_ble_eq_true rfl⟩ (fun r45600 hr45600 => ?_)
            refine lv_if_eq (tgt := 74) hx hb dX11_verdicts_54 (by decide) (fun c45601 => ?_) (fun c45601 => ?_)
            · have g45602 : Rg 0 0 r45600 := wk_eql hr45600.1 (by decide : Rg 0 0 (0 : Int32)) c45601 (by decide)
              refine wk_iinc (lv' := fun r => [(4, .int r), (0, .ref (a 0)), (1, .int x0), (2, .int y32_l2), (3, .int y16_l3)]) (e1 := 2) (f := 12) hx hb dX11_verdicts_74 hl (k := 4) rfl (by decide) g45599 (by decide) (fun _ => rfl) (fun r45603 ls hr45603 er45603 hl => ?_)
              refine lv_goto (tgt := 32) hx hb dX11_verdicts_77 (by decide) ?_
              exact ih32 y32_l2 r45603 u _ _ ls g32_l1 g32_l3 (show Rg 1 12 r45603 from rg_w hr45603 (by decide) (by decide)) hP hD hS (lv_sub (l' := [(0, .ref (a 0)), (1, .int x0), (2, .int y32_l2), (3, .int y16_l3), (4, .int r45603)]) hl [1, 2, 3, 4, 0] rfl) (me_up hm32 er45603 (by decide))
            · have g45604 : Rg 1 1 r45600 := rg_ne_lo (k := 0) hr45600.1 (by decide) c45601 (by decide)
              refine lv_aload_n hx hb dX11_verdicts_57 rfl (lv_at hl 0 rfl) ?_
              refine va_get (D := D) (ci := 11) (v := .ref (a 7)) (C := RX11) (T := TX11) (N := 16) hx hb hts hin11 hown hK hP 0 rfl rfl 1 (by decide) (hts (.fieldLink RX11 21 "MissedPoints" "pairs" "LMissedPoints$Pairs;") (by decide +kernel)) (fun _ h9 => h9) rfl dX11_verdicts_58 ?_
              refine lv_iload_n hx hb dX11_verdicts_61 rfl (lv_at hl 3 rfl) ?_
              refine lv_iload hx hb dX11_verdicts_62 (lv_at hl 4 rfl) ?_
              refine wk_qi (wX cI cS a na nc N L) u (As := [.int y16_l3, .int y32_l4]) (rest := []) ⟨hx, hb, hml, hown, hts⟩ (k_X3_judge l D cI cS _ a na nc N L u hL hN y16_l3 y32_l4) hKK hP hD hS hA 7 (ci := 3) rfl rfl (cwV 2 hts gX11_verdicts_X3_judge rfl rfl rfl (by decide +kernel) ⟨Nat.le_of_ble_eq_true rfl, Nat.le_of_ble_eq_true rfl⟩) rfl hl.1 rfl (Nat.le_of_ble_eq_true rfl) dX11_verdicts_64 ⟨Nat.le_of_ble_eq_true rfl, Nat.le_of_ble_eq_true rfl⟩ (fun r45605 u H locs hr45605 hP hD hS => ?_)
              refine lv_iload_n hx hb dX11_verdicts_67 rfl (lv_at hl 1 rfl) ?_
              refine lv_icmp_ne (tgt := 74) hx hb dX11_verdicts_68 (by decide) (fun c45606 => ?_) (fun c45606 => ?_)
              · refine wk_iinc (lv' := fun r => [(4, .int r), (0, .ref (a 0)), (1, .int x0), (2, .int y32_l2), (3, .int y16_l3)]) (e1 := 2) (f := 12) hx hb dX11_verdicts_74 hl (k := 4) rfl (by decide) g45599 (by decide) (fun _ => rfl) (fun r45607 ls hr45607 er45607 hl => ?_)
                refine lv_goto (tgt := 32) hx hb dX11_verdicts_77 (by decide) ?_
                exact ih32 y32_l2 r45607 u _ _ ls g32_l1 g32_l3 (show Rg 1 12 r45607 from rg_w hr45607 (by decide) (by decide)) hP hD hS (lv_sub (l' := [(0, .ref (a 0)), (1, .int x0), (2, .int y32_l2), (3, .int y16_l3), (4, .int r45607)]) hl [1, 2, 3, 4, 0] rfl) (me_up hm32 er45607 (by decide))
              · refine wk_iincA (lv' := fun r => [(2, .int r), (0, .ref (a 0)), (1, .int x0), (3, .int y16_l3), (4, .int y32_l4)]) hx hb dX11_verdicts_71 hl (k := 2) rfl (by decide) (fun _ => rfl) (fun r45608 ls hl => ?_)
                refine wk_iinc (lv' := fun r => [(4, .int r), (2, .int r45608), (0, .ref (a 0)), (1, .int x0), (3, .int y16_l3)]) (e1 := 2) (f := 12) hx hb dX11_verdicts_74 hl (k := 4) rfl (by decide) g45599 (by decide) (fun _ => rfl) (fun r45609 ls hr45609 er45609 hl => ?_)
                refine lv_goto (tgt := 32) hx hb dX11_verdicts_77 (by decide) ?_
                exact ih32 r45608 r45609 u _ _ ls g32_l1 g32_l3 (show Rg 1 12 r45609 from rg_w hr45609 (by decide) (by decide)) hP hD hS (lv_sub (l' := [(0, .ref (a 0)), (1, .int x0), (2, .int r45608), (3, .int y16_l3), (4, .int r45609)]) hl [2, 3, 1, 4, 0] rfl) (me_up hm32 er45609 (by decide))
      refine lv_iload_n hx hb dX11_verdicts_16 rfl (lv_at hl 3 rfl) ?_
      refine lv_aload_n hx hb dX11_verdicts_17 rfl (lv_at hl 0 rfl) ?_
      refine va_get (D := D) (ci := 11) (v := .ref (a 1)) (C := RX11) (T := TX11) (N := 16) hx hb hts hin11 hown hK hP 0 rfl rfl 0 (by decide) (hts (.fieldLink RX11 12 "MissedPoints" "net" "LMissedPoints$Net;") (by decide +kernel)) (fun _ h9 => h9) rfl dX11_verdicts_18 ?_
      refine va_getN (D := D) (ci := 2) (v := .int (L 1 1)) (C := RX2) (T := TX2) (N := 3) hx hb hts hin2 hown hK hP 1 rfl rfl 1 (by decide) (va_Nw.use rfl hKK.2.2.2.2.2.2.2.2.2.2.1) (fun _ h9 => h9) rfl dX11_verdicts_21 ?_
      refine lv_icmp_ge (tgt := 86) hx hb dX11_verdicts_24 (by decide) (fun c45610 => ?_) (fun c45610 => ?_)
      · refine lv_iload_n hx hb dX11_verdicts_86 rfl (lv_at hl 2 rfl) ?_
        subst hAe
        exact W.iret (v := y16_l2) hx hb hr (fun t ht hW => ⟨⟨_, u, rfl, ⟨(rg_any y16_l2), trivial⟩, by rw [ht]; exact hP, hD⟩, hS.F ht⟩) hS.2.2 dX11_verdicts_87
      · have g45611 : Rg 1 12 (L 1 1) := rg_ltr g16_l3 hL.1 (rg_nle c45610) (by decide)
        have g45612 : Rg 0 11 y16_l3 := rg_ltl g16_l3 hL.1 (rg_nle c45610) (by decide)
        refine lv_iload_n hx hb dX11_verdicts_27 rfl (lv_at hl 3 rfl) ?_
        refine lv_iconst (v := 1) hx hb dX11_verdicts_28 (by decide) ?_
        refine wk_iadd (e1 := 1) (f := 12) hx hb dX11_verdicts_29 g45612 (by decide : Rg 1 1 (1 : Int32)) (by decide) (fun r45613 hr45613 er45613 qr45613 => ?_)
        refine lv_istore (lv' := [(4, .int r45613), (0, .ref (a 0)), (1, .int x0), (2, .int y16_l2), (3, .int y16_l3)]) hx hb dX11_verdicts_30 hl (by decide) rfl (fun ls hl => ?_)
        exact lp32 12 y16_l2 r45613 u _ _ ls g16_l1 g45612 hr45613 hP hD hS (lv_sub (l' := [(0, .ref (a 0)), (1, .int x0), (2, .int y16_l2), (3, .int y16_l3), (4, .int r45613)]) hl [1, 2, 3, 4, 0] rfl) (me_i hr45613 (by decide))
  refine lv_iload_n hx hb dX11_verdicts_0 rfl (lv_at hl 1 rfl) ?_
  refine lv_if_lt (tgt := 9) hx hb dX11_verdicts_1 (by decide) (fun c45614 => ?_) (fun c45614 => ?_)
  · have g45615 : Rg (-2147483648) (-1) x0 := rg_ltl (rg_any x0) (by decide : Rg 0 0 (0 : Int32)) c45614 (by decide)
    refine lv_bipush (v := (-2)) hx hb dX11_verdicts_9 (by decide) ?_
    subst hAe
    exact W.iret (v := (-2)) hx hb hr (fun t ht hW => ⟨⟨_, u, rfl, ⟨(by decide : Rg (-2147483648) 2147483647 ((-2) : Int32)), trivial⟩, by rw [ht]; exact hP, hD⟩, hS.F ht⟩) hS.2.2 dX11_verdicts_11
  · have g45616 : Rg 0 2147483647 x0 := rg_ler (by decide : Rg 0 0 (0 : Int32)) (rg_any x0) (rg_nlt c45614) (by decide)
    refine lv_iload_n hx hb dX11_verdicts_4 rfl (lv_at hl 1 rfl) ?_
    refine lv_iconst (v := 2) hx hb dX11_verdicts_5 (by decide) ?_
    refine lv_icmp_le (tgt := 12) hx hb dX11_verdicts_6 (by decide) (fun c45617 => ?_) (fun c45617 => ?_)
    · have g45618 : Rg 0 2 x0 := rg_lel g45616 (by decide : Rg 2 2 (2 : Int32)) c45617 (by decide)
      refine lv_iconst (v := 0) hx hb dX11_verdicts_12 (by decide) ?_
      refine lv_istore_n (lv' := [(2, .int 0), (0, .ref (a 0)), (1, .int x0)]) hx hb dX11_verdicts_13 rfl hl (by decide) rfl (fun ls hl => ?_)
      refine lv_iconst (v := 0) hx hb dX11_verdicts_14 (by decide) ?_
      refine lv_istore_n (lv' := [(3, .int 0), (2, .int 0), (0, .ref (a 0)), (1, .int x0)]) hx hb dX11_verdicts_15 rfl hl (by decide) rfl (fun ls hl => ?_)
      exact lp16 13 (0 : Int32) (0 : Int32) u _ _ ls g45618 (by decide : Rg 0 12 (0 : Int32)) hP hD hS (lv_sub (l' := [(0, .ref (a 0)), (1, .int x0), (2, .int 0), (3, .int 0)]) hl [2, 3, 1, 0] rfl) (me_i (by decide : Rg 0 12 (0 : Int32)) (by decide))
    · have g45619 : Rg 3 2147483647 x0 := rg_ltr (by decide : Rg 2 2 (2 : Int32)) g45616 (rg_nle c45617) (by decide)
      refine lv_bipush (v := (-2)) hx hb dX11_verdicts_9 (by decide) ?_
      subst hAe
      exact W.iret (v := (-2)) hx hb hr (fun t ht hW => ⟨⟨_, u, rfl, ⟨(by decide : Rg (-2147483648) 2147483647 ((-2) : Int32)), trivial⟩, by rw [ht]; exact hP, hD⟩, hS.F ht⟩) hS.2.2 dX11_verdicts_11
set_option maxRecDepth 20000 in
theorem ggX11_without_X2_all : GoodIn wsX11_without wsX2_all := goodIn_r _ [12, 8, 77, 78, 79] rfl (by decide +kernel)
set_option maxRecDepth 20000 in
theorem gX11_without_X2_all : GoodIn wsX11_without (wsV RX11 128 RX2 yX2_all wsX2_all) := goodIn_app (goodIn_of _ (by decide +kernel)) ggX11_without_X2_all
set_option maxRecDepth 20000 in
theorem ggX11_without_X3_lack : GoodIn wsX11_without wsX3_lack := goodIn_r _ [17, 18, 19, 20, 21, 22, 23, 24, 25, 26, 27, 16, 28, 29, 30, 31, 32, 33, 34, 35, 36, 37, 38, 39, 40, 41, 42, 43, 44, 45, 46, 47, 48, 49, 50, 51, 52, 53, 54, 55, 56, 57, 58, 59, 60, 80, 81, 82, 83, 77, 78, 79, 84, 85] rfl (by decide +kernel)
set_option maxRecDepth 20000 in
theorem gX11_without_X3_lack : GoodIn wsX11_without (wsV RX11 134 RX3 yX3_lack wsX3_lack) := goodIn_app (goodIn_of _ (by decide +kernel)) ggX11_without_X3_lack
theorem dX11_without_11 : decode cX11_without 11 = .ok (.aload_n 0, 1) := by decide +kernel
theorem dX11_without_12 : decode cX11_without 12 = .ok (.getfield 21, 3) := by decide +kernel
theorem dX11_without_15 : decode cX11_without 15 = .ok (.aload_n 0, 1) := by decide +kernel
theorem dX11_without_16 : decode cX11_without 16 = .ok (.getfield 12, 3) := by decide +kernel
theorem dX11_without_19 : decode cX11_without 19 = .ok (.invokevirtual 128, 3) := by decide +kernel
theorem dX11_without_22 : decode cX11_without 22 = .ok (.iconst 1, 1) := by decide +kernel
theorem dX11_without_23 : decode cX11_without 23 = .ok (.iload_n 1, 1) := by decide +kernel
theorem dX11_without_24 : decode cX11_without 24 = .ok (.ishl, 1) := by decide +kernel
theorem dX11_without_25 : decode cX11_without 25 = .ok (.iconst (-1), 1) := by decide +kernel
theorem dX11_without_26 : decode cX11_without 26 = .ok (.ixor, 1) := by decide +kernel
theorem dX11_without_27 : decode cX11_without 27 = .ok (.iand, 1) := by decide +kernel
theorem dX11_without_28 : decode cX11_without 28 = .ok (.invokevirtual 134, 3) := by decide +kernel
theorem dX11_without_31 : decode cX11_without 31 = .ok (.goto 5, 3) := by decide +kernel
set_option maxHeartbeats 4000000 in
set_option maxRecDepth 100000 in
theorem k_X11_without (l : Launch) (D : va_G) (cI cS : ClassId) (sz : Nat) (a : Nat → Nat) (na nc N : Nat) (L u0 : SU) (hL : TyX L) (hN : N = 0 ∨ N = 24576) (x0 : Int32) : Met l yX11_without wsX11_without ({ frames := 17, cells := 0, slots := 0, locals := 680 }) (PQ D cI cS (wX cI cS a na nc N L u0) sz [.ref (a 0), .int x0]) (QF (S := SU) D (wX cI cS a na nc N L u0) (wX cI cS a na nc N L) sz (fun r _ => Rg (-2147483648) 2147483647 r ∧ True)) 0 0 (va_A (wX cI cS a na nc N L u0) sz) := by
  refine Met.ofW (cc := cX11_without) (maxL := 2) (ret := (some .int)) (by decide) rfl ?_
  intro p e s m args below meth c s₁ B hml hv
  obtain ⟨rfl, hsz, hP, hKK, hD0⟩ := hv
  have hx := B.exec
  have hb := B.bytes
  have hr := B.returns
  have hts := atoms_spec (ws := wsX11_without) B.pre
  have hown : s.vm.findClass RX11 = some m.cls := findClass_of_methodNamed B.named
  have hlocks := B.notSynchronized
  have hK := hKK.1
  have hin11 : ∀ w ∈ wsX110, w ∈ wsX11_without := by decide +kernel
  subst hsz
  have hD := hD0.self (sz := s.heap.size)
  obtain ⟨A, hAe⟩ : ∃ A, A = va_A (wX cI cS a na nc N L u0) s.heap.size := ⟨_, rfl⟩
  rw [← hAe] at hD
  have hA : ∀ q : Nat, s.heap.size ≤ q → A q := fun q h => by rw [hAe]; exact Or.inr h
  have hS : va_S A s.heap s.heap [] := va_S.rf
  have hl := lv_entry ([.ref (a 0), .int x0]) (n := 2) (Nat.le_of_ble_eq_true rfl)
  rw [lg_entry_eq]
  generalize (lg_sl ([.ref (a 0), .int x0]) ++ List.replicate (2 - (lg_sl ([.ref (a 0), .int x0])).length) Slot.unset).toArray = ls at hl ⊢
  have hl : lv_has ls 2 [(0, .ref (a 0)), (1, .int x0)] := hl
  obtain ⟨u, hu9⟩ : ∃ u : SU, u = u0 := ⟨_, rfl⟩
  rw [← hu9] at hP hD
  refine lv_aload_n hx hb dX11_without_0 rfl (lv_at hl 0 rfl) ?_
  refine va_get (D := D) (ci := 11) (v := .ref (a 1)) (C := RX11) (T := TX11) (N := 16) hx hb hts hin11 hown hK hP 0 rfl rfl 0 (by decide) (hts (.fieldLink RX11 12 "MissedPoints" "net" "LMissedPoints$Net;") (by decide +kernel)) (fun _ h9 => h9) rfl dX11_without_1 ?_
  refine lv_iload_n hx hb dX11_without_4 rfl (lv_at hl 1 rfl) ?_
  refine wk_sv 1 (As := [.int x0]) (rest := []) ⟨hx, hb, hml, hown, hts⟩ (k_X2_hasPoint l D cI cS a na nc N L u hL hN x0) hKK hP (ci := 2) rfl rfl (cwV 1 hts gX11_without_X2_hasPoint rfl rfl rfl (by decide +kernel) ⟨Nat.le_of_ble_eq_true rfl, Nat.le_of_ble_eq_true rfl⟩) rfl hl.1 rfl (Nat.le_of_ble_eq_true rfl) dX11_without_5 ⟨Nat.le_of_ble_eq_true rfl, Nat.le_of_ble_eq_true rfl⟩ (fun r45630 hr45630 => ?_)
  refine lv_if_eq (tgt := 34) hx hb dX11_without_8 (by decide) (fun c45631 => ?_) (fun c45631 => ?_)
  · have g45632 : Rg 0 0 r45630 := wk_eql hr45630.1 (by decide : Rg 0 0 (0 : Int32)) c45631 (by decide)
    refine lv_bipush (v := (-2)) hx hb dX11_without_34 (by decide) ?_
    subst hAe
    exact W.iret (v := (-2)) hx hb hr (fun t ht hW => ⟨⟨_, u, rfl, ⟨(by decide : Rg (-2147483648) 2147483647 ((-2) : Int32)), trivial⟩, by rw [ht]; exact hP, hD⟩, hS.F ht⟩) hS.2.2 dX11_without_36
  · have g45633 : Rg 0 11 x0 := (hr45630.2 c45631)
    have g45634 : Rg 1 1 r45630 := rg_ne_lo (k := 0) hr45630.1 (by decide) c45631 (by decide)
    refine lv_aload_n hx hb dX11_without_11 rfl (lv_at hl 0 rfl) ?_
    refine va_get (D := D) (ci := 11) (v := .ref (a 7)) (C := RX11) (T := TX11) (N := 16) hx hb hts hin11 hown hK hP 0 rfl rfl 1 (by decide) (hts (.fieldLink RX11 21 "MissedPoints" "pairs" "LMissedPoints$Pairs;") (by decide +kernel)) (fun _ h9 => h9) rfl dX11_without_12 ?_
    refine lv_aload_n hx hb dX11_without_15 rfl (lv_at hl 0 rfl) ?_
    refine va_get (D := D) (ci := 11) (v := .ref (a 1)) (C := RX11) (T := TX11) (N := 16) hx hb hts hin11 hown hK hP 0 rfl rfl 0 (by decide) (hts (.fieldLink RX11 12 "MissedPoints" "net" "LMissedPoints$Net;") (by decide +kernel)) (fun _ h9 => h9) rfl dX11_without_16 ?_
    refine wk_sv 1 (As := []) (rest := [.ref (a 7)]) ⟨hx, hb, hml, hown, hts⟩ (k_X2_all l D cI cS a na nc N L u hL hN) hKK hP (ci := 2) rfl rfl (cwV 0 hts gX11_without_X2_all rfl rfl rfl (by decide +kernel) ⟨Nat.le_of_ble_eq_true rfl, Nat.le_of_ble_eq_true rfl⟩) rfl hl.1 rfl (Nat.le_of_ble_eq_true rfl) dX11_without_19 ⟨Nat.le_of_ble_eq_true rfl, Nat.le_of_ble_eq_true rfl⟩ (fun r45635 hr45635 => ?_)
    refine lv_iconst (v := 1) hx hb dX11_without_22 (by decide) ?_
    refine lv_iload_n hx hb dX11_without_23 rfl (lv_at hl 1 rfl) ?_
    refine wk_ishl1 (f := 2048) hx hb dX11_without_24 g45633 (by decide) (fun r45636 hr45636 qr45636 => ?_)
    refine lv_iconst (v := (-1)) hx hb dX11_without_25 (by decide) ?_
    refine lv_ixor hx hb dX11_without_26 ?_
    refine wk_topP (P := fun r => r = r45636 ^^^ ((-1) : Int32)) rfl (fun r45637 qr45637 => ?_)
    refine wk_iandl hx hb dX11_without_27 hr45635.1 (by decide) (fun r45638 hr45638 qr45638 => ?_)
    refine wk_qi (wX cI cS a na nc N L) u (As := [.int r45638]) (rest := []) ⟨hx, hb, hml, hown, hts⟩ (k_X3_lack l D cI cS _ a na nc N L u hL hN r45638) hKK hP hD hS hA 7 (ci := 3) rfl rfl (cwV 1 hts gX11_without_X3_lack rfl rfl rfl (by decide +kernel) ⟨Nat.le_of_ble_eq_true rfl, Nat.le_of_ble_eq_true rfl⟩) rfl hl.1 rfl (Nat.le_of_ble_eq_true rfl) dX11_without_28 ⟨Nat.le_of_ble_eq_true rfl, Nat.le_of_ble_eq_true rfl⟩ (fun r45639 u H locs hr45639 hP hD hS => ?_)
    refine lv_goto (tgt := 36) hx hb dX11_without_31 (by decide) ?_
    subst hAe
    exact W.iret (v := r45639) hx hb hr (fun t ht hW => ⟨⟨_, u, rfl, ⟨hr45639.1, trivial⟩, by rw [ht]; exact hP, hD⟩, hS.F ht⟩) hS.2.2 dX11_without_36
