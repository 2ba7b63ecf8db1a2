set_option maxHeartbeats 4000000 in
set_option maxRecDepth 100000 in
theorem w_X12_pieces (l : Launch) (D : va_G) (cI cS : ClassId) (sz : Nat) (b : Nat → Nat) (L v : SU) (hL : TyL L) (hV : TyV v) (x0 : Int32) : Met l yX12_pieces wsX12_pieces ({ frames := 4, cells := 0, slots := 0, locals := 160 }) (PQ D cI cS (wM cI b L v) sz [.ref (b 0), .int x0]) (QF (S := SU) D (wM cI b L v) (wM cI b L) sz (fun r u => TyV u ∧ Rg (-2147483648) 2147483647 r ∧ True)) 0 0 (va_A (wM cI b L v) sz) := by
  refine Met.ofW (cc := cX12_pieces) (maxL := 2) (ret := (some .int)) (by decide) rfl ?_
  intro p e s m args below meth c s₁ B hml hv
  obtain ⟨rfl, hsz, hP, hKK, hD0⟩ := hv
  have hx := B.exec
  have hb := B.bytes
  have hr := B.returns
  have hts := atoms_spec (ws := wsX12_pieces) B.pre
  have hown : s.vm.findClass RX12 = some m.cls := findClass_of_methodNamed B.named
  have hlocks := B.notSynchronized
  have hK := hKK.1
  subst hsz
  have hD := hD0.self (sz := s.heap.size)
  obtain ⟨A, hAe⟩ : ∃ A, A = va_A (wM cI b L v) s.heap.size := ⟨_, rfl⟩
  rw [← hAe] at hD
  have hA : ∀ q : Nat, s.heap.size ≤ q → A q := fun q h => by rw [hAe]; exact Or.inr h
  have hS : va_S A s.heap s.heap [] := va_S.rf
  have hl := lv_entry ([.ref (b 0), .int x0]) (n := 2) (Nat.le_of_ble_eq_true rfl)
  rw [lg_entry_eq]
  generalize (lg_sl ([.ref (b 0), .int x0]) ++ List.replicate (2 - (lg_sl ([.ref (b 0), .int x0])).length) Slot.unset).toArray = ls at hl ⊢
  have hl : lv_has ls 2 [(0, .ref (b 0)), (1, .int x0)] := hl
  refine lv_iload_n hx hb dX12_pieces_0 rfl (lv_at hl 1 rfl) ?_
  refine lv_iconst (v := 0) hx hb dX12_pieces_1 (by decide) ?_
  refine lv_iconst (v := 1) hx hb dX12_pieces_2 (by decide) ?_
  refine lz_ss (As := [.int x0, .int 0, .int 1]) (rest := []) ⟨hx, hb, hml, hown, hts⟩ (w_X12_in l D cI cS x0 (0 : Int32) (1 : Int32)) hKK (hP.sub (ws' := []) [] rfl) (va_cwS 3 hts gX12_pieces_X12_in rfl rfl rfl (by decide +kernel) ⟨Nat.le_of_ble_eq_true rfl, Nat.le_of_ble_eq_true rfl⟩) rfl hl.1 rfl (Nat.le_of_ble_eq_true rfl) dX12_pieces_3 ⟨Nat.le_of_ble_eq_true rfl, Nat.le_of_ble_eq_true rfl⟩ (fun r5039 hr5039 => ?_)
  refine lv_if_eq (tgt := 21) hx hb dX12_pieces_6 (by decide) (fun c5040 => ?_) (fun c5040 => ?_)
  · have g5041 : Rg 0 0 r5039 := wk_eql hr5039.1 (by decide : Rg 0 0 (0 : Int32)) c5040 (by decide)
    refine lv_bipush (v := (-2)) hx hb dX12_pieces_21 (by decide) ?_
    subst hAe
    exact W.iret (v := (-2)) hx hb hr (fun t ht hW => ⟨⟨_, v, rfl, ⟨hV, (by decide : Rg (-2147483648) 2147483647 ((-2) : Int32)), trivial⟩, by rw [ht]; exact hP, hD⟩, hS.F ht⟩) hS.2.2 dX12_pieces_23
  · have g5042 : Rg 0 1 x0 := wk_in3 (rg_any x0) (by decide : Rg 0 0 (0 : Int32)) (by decide : Rg 1 1 (1 : Int32)) (hr5039.2 c5040) (by decide)
    have g5043 : Rg 1 1 r5039 := rg_ne_lo (k := 0) hr5039.1 (by decide) c5040 (by decide)
    refine lv_aload_n hx hb dX12_pieces_9 rfl (lv_at hl 0 rfl) ?_
    refine lv_aload_n hx hb dX12_pieces_10 rfl (lv_at hl 0 rfl) ?_
    refine lv_iload_n hx hb dX12_pieces_11 rfl (lv_at hl 1 rfl) ?_
    refine wk_qi (wM cI b L) v (As := [.int x0]) (rest := [.ref (b 0)]) ⟨hx, hb, hml, hown, hts⟩ (w_X12_setOf l D cI cS _ b L v hL hV x0) hKK hP hD hS hA 0 (ci := 12) rfl rfl (cwV 1 hts gX12_pieces_X12_setOf rfl rfl rfl (by decide +kernel) ⟨Nat.le_of_ble_eq_true rfl, Nat.le_of_ble_eq_true rfl⟩) rfl hl.1 rfl (Nat.le_of_ble_eq_true rfl) dX12_pieces_12 ⟨Nat.le_of_ble_eq_true rfl, Nat.le_of_ble_eq_true rfl⟩ (fun r5044 v H locs hr5044 hP hD hS => ?_)
    have hV := hr5044.1
    refine wk_sv 0 (As := [.int r5044]) (rest := []) ⟨hx, hb, hml, hown, hts⟩ (w_X12_piecesOf l D cI cS b L v hL hV r5044 hr5044.2.1) hKK hP (ci := 12) rfl rfl (cwV 1 hts gX12_pieces_X12_piecesOf rfl rfl rfl (by decide +kernel) ⟨Nat.le_of_ble_eq_true rfl, Nat.le_of_ble_eq_true rfl⟩) rfl hl.1 rfl (Nat.le_of_ble_eq_true rfl) dX12_pieces_15 ⟨Nat.le_of_ble_eq_true rfl, Nat.le_of_ble_eq_true rfl⟩ (fun r5045 hr5045 => ?_)
    refine lv_goto (tgt := 23) hx hb dX12_pieces_18 (by decide) ?_
    subst hAe
    exact W.iret (v := r5045) hx hb hr (fun t ht hW => ⟨⟨_, v, rfl, ⟨hV, hr5045.1, trivial⟩, by rw [ht]; exact hP, hD⟩, hS.F ht⟩) hS.2.2 dX12_pieces_23
set_option maxRecDepth 20000 in
theorem ggX12_pieceAt_X12_pieceOf : GoodIn wsX12_pieceAt wsX12_pieceOf := goodIn_r _ [35, 12, 13, 21, 22, 4, 23, 36, 37, 38, 39, 40, 41, 42, 43, 44, 45, 46, 47, 48, 49, 50, 51, 52, 53, 54, 55, 56, 57, 58, 59] (by decide +kernel) (by decide +kernel)
set_option maxRecDepth 20000 in
theorem gX12_pieceAt_X12_pieceOf : GoodIn wsX12_pieceAt (wsV RX12 129 RX12 yX12_pieceOf wsX12_pieceOf) := goodIn_app (goodIn_of _ (by decide +kernel)) ggX12_pieceAt_X12_pieceOf
theorem dX12_pieceAt_19 : decode cX12_pieceAt 19 = .ok (.iload_n 3, 1) := by decide +kernel
theorem dX12_pieceAt_20 : decode cX12_pieceAt 20 = .ok (.aload_n 0, 1) := by decide +kernel
theorem dX12_pieceAt_21 : decode cX12_pieceAt 21 = .ok (.iload_n 3, 1) := by decide +kernel
theorem dX12_pieceAt_22 : decode cX12_pieceAt 22 = .ok (.invokevirtual 129, 3) := by decide +kernel
theorem dX12_pieceAt_25 : decode cX12_pieceAt 25 = .ok (.iconst (-1), 1) := by decide +kernel
theorem dX12_pieceAt_26 : decode cX12_pieceAt 26 = .ok (.ixor, 1) := by decide +kernel
theorem dX12_pieceAt_27 : decode cX12_pieceAt 27 = .ok (.iand, 1) := by decide +kernel
theorem dX12_pieceAt_28 : decode cX12_pieceAt 28 = .ok (.istore_n 3, 1) := by decide +kernel
theorem dX12_pieceAt_29 : decode cX12_pieceAt 29 = .ok (.iinc 4 1, 3) := by decide +kernel
theorem dX12_pieceAt_32 : decode cX12_pieceAt 32 = .ok (.goto (-23), 3) := by decide +kernel
theorem dX12_pieceAt_47 : decode cX12_pieceAt 47 = .ok (.aload_n 0, 1) := by decide +kernel
theorem dX12_pieceAt_48 : decode cX12_pieceAt 48 = .ok (.iload_n 3, 1) := by decide +kernel
theorem dX12_pieceAt_49 : decode cX12_pieceAt 49 = .ok (.invokevirtual 129, 3) := by decide +kernel
set_option maxHeartbeats 4000000 in
set_option maxRecDepth 100000 in
theorem w_X12_pieceAt (l : Launch) (D : va_G) (cI cS : ClassId) (sz : Nat) (b : Nat → Nat) (L v : SU) (hL : TyL L) (hV : TyV v) (x0 x1 : Int32) (px0 : Rg 0 1 x0) : Met l yX12_pieceAt wsX12_pieceAt ({ frames := 4, cells := 0, slots := 0, locals := 160 }) (PQ D cI cS (wM cI b L v) sz [.ref (b 0), .int x0, .int x1]) (QF (S := SU) D (wM cI b L v) (wM cI b L) sz (fun r u => TyV u ∧ Rg 0 4095 r ∧ True)) 0 0 (va_A (wM cI b L v) sz) := by
  refine Met.ofW (cc := cX12_pieceAt) (maxL := 5) (ret := (some .int)) (by decide) rfl ?_
  intro p e s m args below meth c s₁ B hml hv
  obtain ⟨rfl, hsz, hP, hKK, hD0⟩ := hv
  have hx := B.exec
  have hb := B.bytes
  have hr := B.returns
  have hts := atoms_spec (ws := wsX12_pieceAt) B.pre
  have hown : s.vm.findClass RX12 = some m.cls := findClass_of_methodNamed B.named
  have hlocks := B.notSynchronized
  have hK := hKK.1
  subst hsz
  have hD := hD0.self (sz := s.heap.size)
  obtain ⟨A, hAe⟩ : ∃ A, A = va_A (wM cI b L v) s.heap.size := ⟨_, rfl⟩
  rw [← hAe] at hD
  have hA : ∀ q : Nat, s.heap.size ≤ q → A q := fun q h => by rw [hAe]; exact Or.inr h
  have hS : va_S A s.heap s.heap [] := va_S.rf
  have hl := lv_entry ([.ref (b 0), .int x0, .int x1]) (n := 5) (Nat.le_of_ble_eq_true rfl)
  rw [lg_entry_eq]
  generalize (lg_sl ([.ref (b 0), .int x0, .int x1]) ++ List.replicate (5 - (lg_sl ([.ref (b 0), .int x0, .int x1])).length) Slot.unset).toArray = ls at hl ⊢
  have hl : lv_has ls 5 [(0, .ref (b 0)), (1, .int x0), (2, .int x1)] := hl
  have lp9 : ∀ (n9 : Nat) (y9_l3 y9_l4 : Int32) (v : SU) (H : Heap) (locs : List Loc) (ls : Array Slot), Rg 0 4095 y9_l3 → Rg 0 2147483647 y9_l4 → TyV v → va_P D cls (wM cI b L v) H → va_D A (wM cI b L v) → va_S A s.heap H locs → lv_has ls 5 [(0, .ref (b 0)), (2, .int x1), (3, .int y9_l3), (4, .int y9_l4)] → y9_l3.toInt < (n9 : Int) → W p l e (headSpec wsX12_pieceAt ({ frames := 4, cells := 0, slots := 0, locals := 160 })).room s m ([.ref (b 0), .int x0, .int x1]).toArray below meth c H locs 0 0 (MQ below (QF (S := SU) D (wM cI b L v) (wM cI b L) s.heap.size (fun r u => TyV u ∧ Rg 0 4095 r ∧ True)) ([.ref (b 0), .int x0, .int x1]).toArray s 0 0 (va_A (wM cI b L v) s.heap.size)) (F0 m 9 ls []) := by
    intro n9
    induction n9 with
    | zero =>
      intro y9_l3 y9_l4 v H locs ls g9_l3 g9_l4 hV hP hD hS hl hm9
      exact absurd rfl (me_0 g9_l3 (by decide) hm9)
    | succ n9 ih9 =>
      intro y9_l3 y9_l4 v H locs ls g9_l3 g9_l4 hV hP hD hS hl hm9
      refine lv_iload hx hb dX12_pieceAt_9 (lv_at hl 3 rfl) ?_
      refine lv_iload_n hx hb dX12_pieceAt_11 rfl (lv_at hl 1 rfl) ?_
      refine lv_icmp_ge (tgt := 35) hx hb dX12_pieceAt_12 (by decide) (fun c5566 => ?_) (fun c5566 => ?_)
      · refine lv_iload_n hx hb dX12_pieceAt_35 rfl (lv_at hl 1 rfl) ?_
        refine lv_if_lt (tgt := 43) hx hb dX12_pieceAt_36 (by decide) (fun c5567 => ?_) (fun c5567 => ?_)
        · have g5568 : Rg (-2147483648) (-1) x1 := rg_ltl (rg_any x1) (by decide : Rg 0 0 (0 : Int32)) c5567 (by decide)
          refine lv_iconst (v := 0) hx hb dX12_pieceAt_43 (by decide) ?_
          refine lv_goto (tgt := 52) hx hb dX12_pieceAt_44 (by decide) ?_
          subst hAe
          exact W.iret (v := 0) hx hb hr (fun t ht hW => ⟨⟨_, v, rfl, ⟨hV, (by decide : Rg 0 4095 (0 : Int32)), trivial⟩, by rw [ht]; exact hP, hD⟩, hS.F ht⟩) hS.2.2 dX12_pieceAt_52
        · have g5569 : Rg 0 2147483647 x1 := rg_ler (by decide : Rg 0 0 (0 : Int32)) (rg_any x1) (rg_nlt c5567) (by decide)
          refine lv_iload_n hx hb dX12_pieceAt_39 rfl (lv_at hl 2 rfl) ?_
          refine lv_if_ne (tgt := 47) hx hb dX12_pieceAt_40 (by decide) (fun c5570 => ?_) (fun c5570 => ?_)
          · have g5571 : Rg 1 4095 y9_l3 := rg_ne_lo (k := 0) g9_l3 (by decide) c5570 (by decide)
            refine lv_aload_n hx hb dX12_pieceAt_47 rfl (lv_at hl 0 rfl) ?_
            refine lv_iload_n hx hb dX12_pieceAt_48 rfl (lv_at hl 2 rfl) ?_
            refine wk_sv 0 (As := [.int y9_l3]) (rest := []) ⟨hx, hb, hml, hown, hts⟩ (w_X12_pieceOf l D cI cS b L v hL hV y9_l3 g5571) hKK hP (ci := 12) rfl rfl (cwV 1 hts gX12_pieceAt_X12_pieceOf rfl rfl rfl (by decide +kernel) ⟨Nat.le_of_ble_eq_true rfl, Nat.le_of_ble_eq_true rfl⟩) rfl hl.1 rfl (Nat.le_of_ble_eq_true rfl) dX12_pieceAt_49 ⟨Nat.le_of_ble_eq_true rfl, Nat.le_of_ble_eq_true rfl⟩ (fun r5572 hr5572 => ?_)
            subst hAe
            exact W.iret (v := r5572) hx hb hr (fun t ht hW => ⟨⟨_, v, rfl, ⟨hV, hr5572.1, trivial⟩, by rw [ht]; exact hP, hD⟩, hS.F ht⟩) hS.2.2 dX12_pieceAt_52
          · have g5573 : Rg 0 0 y9_l3 := wk_eql g9_l3 (by decide : Rg 0 0 (0 : Int32)) c5570 (by decide)
            refine lv_iconst (v := 0) hx hb dX12_pieceAt_43 (by decide) ?_
            refine lv_goto (tgt := 52) hx hb dX12_pieceAt_44 (by decide) ?_
            subst hAe
            exact W.iret (v := 0) hx hb hr (fun t ht hW => ⟨⟨_, v, rfl, ⟨hV, (by decide : Rg 0 4095 (0 : Int32)), trivial⟩, by rw [ht]; exact hP, hD⟩, hS.F ht⟩) hS.2.2 dX12_pieceAt_52
      · have g5574 : Rg 1 2147483647 x1 := rg_ltr g9_l4 (rg_any x1) (rg_nle c5566) (by decide)
        have g5575 : Rg 0 2147483646 y9_l4 := rg_ltl g9_l4 (rg_any x1) (rg_nle c5566) (by decide)
        refine lv_iload_n hx hb dX12_pieceAt_15 rfl (lv_at hl 2 rfl) ?_
        refine lv_if_eq (tgt := 35) hx hb dX12_pieceAt_16 (by decide) (fun c5576 => ?_) (fun c5576 => ?_)
        · have g5577 : Rg 0 0 y9_l3 := wk_eql g9_l3 (by decide : Rg 0 0 (0 : Int32)) c5576 (by decide)
          refine lv_iload_n hx hb dX12_pieceAt_35 rfl (lv_at hl 1 rfl) ?_
          refine lv_if_lt (tgt := 43) hx hb dX12_pieceAt_36 (by decide) (fun c5578 => ?_) (fun c5578 => ?_)
          · exact absurd c5578 (wk_nlt g5574 (by decide : Rg 0 0 (0 : Int32)) (by decide))
          · refine lv_iload_n hx hb dX12_pieceAt_39 rfl (lv_at hl 2 rfl) ?_
            refine lv_if_ne (tgt := 47) hx hb dX12_pieceAt_40 (by decide) (fun c5579 => ?_) (fun c5579 => ?_)
            · exact absurd (wk_yeq g5577 (by decide : Rg 0 0 (0 : Int32)) (by decide)) c5579
            · refine lv_iconst (v := 0) hx hb dX12_pieceAt_43 (by decide) ?_
              refine lv_goto (tgt := 52) hx hb dX12_pieceAt_44 (by decide) ?_
              subst hAe
              exact W.iret (v := 0) hx hb hr (fun t ht hW => ⟨⟨_, v, rfl, ⟨hV, (by decide : Rg 0 4095 (0 : Int32)), trivial⟩, by rw [ht]; exact hP, hD⟩, hS.F ht⟩) hS.2.2 dX12_pieceAt_52
        · have g5580 : Rg 1 4095 y9_l3 := rg_ne_lo (k := 0) g9_l3 (by decide) c5576 (by decide)
          refine lv_iload_n hx hb dX12_pieceAt_19 rfl (lv_at hl 2 rfl) ?_
          refine lv_aload_n hx hb dX12_pieceAt_20 rfl (lv_at hl 0 rfl) ?_
          refine lv_iload_n hx hb dX12_pieceAt_21 rfl (lv_at hl 2 rfl) ?_
          refine wk_sv 0 (As := [.int y9_l3]) (rest := [.int y9_l3]) ⟨hx, hb, hml, hown, hts⟩ (w_X12_pieceOf l D cI cS b L v hL hV y9_l3 g5580) hKK hP (ci := 12) rfl rfl (cwV 1 hts gX12_pieceAt_X12_pieceOf rfl rfl rfl (by decide +kernel) ⟨Nat.le_of_ble_eq_true rfl, Nat.le_of_ble_eq_true rfl⟩) rfl hl.1 rfl (Nat.le_of_ble_eq_true rfl) dX12_pieceAt_22 ⟨Nat.le_of_ble_eq_true rfl, Nat.le_of_ble_eq_true rfl⟩ (fun r5581 hr5581 => ?_)
          refine lv_iconst (v := (-1)) hx hb dX12_pieceAt_25 (by decide) ?_
          refine lv_ixor hx hb dX12_pieceAt_26 ?_
          refine wk_topP (P := fun r => r = r5581 ^^^ ((-1) : Int32)) rfl (fun r5582 qr5582 => ?_)
          refine wk_iandl hx hb dX12_pieceAt_27 g5580 (by decide) (fun r5583 hr5583 qr5583 => ?_)
          refine lv_istore_n (lv' := [(3, .int r5583), (0, .ref (b 0)), (2, .int x1), (4, .int y9_l4)]) hx hb dX12_pieceAt_28 rfl hl (by decide) rfl (fun ls hl => ?_)
          refine wk_iinc (lv' := fun r => [(4, .int r), (3, .int r5583), (0, .ref (b 0)), (2, .int x1)]) (e := 1) (f := 2147483647) hx hb dX12_pieceAt_29 hl (k := 3) rfl (by decide) g5575 (by decide) (fun _ => rfl) (fun r5584 ls hr5584 er5584 hl => ?_)
          refine lv_goto (tgt := 9) hx hb dX12_pieceAt_32 (by decide) ?_
          exact ih9 _ r5583 r5584 v _ _ ls hr5583 (rg_w hr5584 (by decide) (by decide)) hV hP hD hS (lv_sub (l' := [(0, .ref (b 0)), (2, .int x1), (3, .int r5583), (4, .int r5584)]) hl [2, 3, 1, 0] rfl) (me_lt hm9 (by rw [qr5583, qr5582]; exact an_piece g5580 hr5581.2))
  refine lv_aload_n hx hb dX12_pieceAt_0 rfl (lv_at hl 0 rfl) ?_
  refine lv_iload_n hx hb dX12_pieceAt_1 rfl (lv_at hl 1 rfl) ?_
  refine wk_qi (wM cI b L) v (As := [.int x0]) (rest := []) ⟨hx, hb, hml, hown, hts⟩ (w_X12_setOf l D cI cS _ b L v hL hV x0) hKK hP hD hS hA 0 (ci := 12) rfl rfl (cwV 1 hts gX12_pieceAt_X12_setOf rfl rfl rfl (by decide +kernel) ⟨Nat.le_of_ble_eq_true rfl, Nat.le_of_ble_eq_true rfl⟩) rfl hl.1 rfl (Nat.le_of_ble_eq_true rfl) dX12_pieceAt_2 ⟨Nat.le_of_ble_eq_true rfl, Nat.le_of_ble_eq_true rfl⟩ (fun r5585 v H locs hr5585 hP hD hS => ?_)
  have hV := hr5585.1
  refine lv_istore_n (lv' := [(3, .int r5585), (0, .ref (b 0)), (1, .int x0), (2, .int x1)]) hx hb dX12_pieceAt_5 rfl hl (by decide) rfl (fun ls hl => ?_)
  refine lv_iconst (v := 0) hx hb dX12_pieceAt_6 (by decide) ?_
  refine lv_istore (lv' := [(4, .int 0), (3, .int r5585), (0, .ref (b 0)), (1, .int x0), (2, .int x1)]) hx hb dX12_pieceAt_7 hl (by decide) rfl (fun ls hl => ?_)
  exact lp9 4096 r5585 (0 : Int32) v _ _ ls hr5585.2.1 (by decide : Rg 0 2147483647 (0 : Int32)) hV hP hD hS (lv_sub (l' := [(0, .ref (b 0)), (2, .int x1), (3, .int r5585), (4, .int 0)]) hl [2, 4, 1, 0] rfl) (me_k hr5585.2.1 (by decide))
set_option maxRecDepth 20000 in
theorem ggX12_nextTo_X12_has : GoodIn wsX12_nextTo wsX12_has := goodIn_r _ [6] (by decide +kernel) (by decide +kernel)
set_option maxRecDepth 20000 in
theorem gX12_nextTo_X12_has : GoodIn wsX12_nextTo (va_wsS RX12 59 yX12_has wsX12_has) := goodIn_app (goodIn_of _ (by decide +kernel)) ggX12_nextTo_X12_has
theorem dX12_nextTo_0 : decode cX12_nextTo 0 = .ok (.iconst 0, 1) := by decide +kernel
theorem dX12_nextTo_1 : decode cX12_nextTo 1 = .ok (.istore_n 2, 1) := by decide +kernel
theorem dX12_nextTo_12 : decode cX12_nextTo 12 = .ok (.iload_n 2, 1) := by decide +kernel
theorem dX12_nextTo_13 : decode cX12_nextTo 13 = .ok (.iload_n 1, 1) := by decide +kernel
theorem dX12_nextTo_14 : decode cX12_nextTo 14 = .ok (.iload_n 3, 1) := by decide +kernel
theorem dX12_nextTo_15 : decode cX12_nextTo 15 = .ok (.invokestatic 59, 3) := by decide +kernel
theorem dX12_nextTo_18 : decode cX12_nextTo 18 = .ok (.ifCond .eq 12, 3) := by decide +kernel
theorem dX12_nextTo_2 : decode cX12_nextTo 2 = .ok (.iconst 0, 1) := by decide +kernel
theorem dX12_nextTo_21 : decode cX12_nextTo 21 = .ok (.aload_n 0, 1) := by decide +kernel
theorem dX12_nextTo_22 : decode cX12_nextTo 22 = .ok (.getfield 13, 3) := by decide +kernel
theorem dX12_nextTo_25 : decode cX12_nextTo 25 = .ok (.iload_n 3, 1) := by decide +kernel
theorem dX12_nextTo_26 : decode cX12_nextTo 26 = .ok (.iaload, 1) := by decide +kernel
theorem dX12_nextTo_27 : decode cX12_nextTo 27 = .ok (.goto 4, 3) := by decide +kernel
theorem dX12_nextTo_3 : decode cX12_nextTo 3 = .ok (.istore_n 3, 1) := by decide +kernel
theorem dX12_nextTo_30 : decode cX12_nextTo 30 = .ok (.iconst 0, 1) := by decide +kernel
theorem dX12_nextTo_31 : decode cX12_nextTo 31 = .ok (.ior, 1) := by decide +kernel
theorem dX12_nextTo_32 : decode cX12_nextTo 32 = .ok (.istore_n 2, 1) := by decide +kernel
theorem dX12_nextTo_33 : decode cX12_nextTo 33 = .ok (.iinc 3 1, 3) := by decide +kernel
theorem dX12_nextTo_36 : decode cX12_nextTo 36 = .ok (.goto (-32), 3) := by decide +kernel
theorem dX12_nextTo_39 : decode cX12_nextTo 39 = .ok (.iload_n 2, 1) := by decide +kernel
theorem dX12_nextTo_4 : decode cX12_nextTo 4 = .ok (.iload_n 3, 1) := by decide +kernel
theorem dX12_nextTo_40 : decode cX12_nextTo 40 = .ok (.ireturn, 1) := by decide +kernel
theorem dX12_nextTo_5 : decode cX12_nextTo 5 = .ok (.aload_n 0, 1) := by decide +kernel
theorem dX12_nextTo_6 : decode cX12_nextTo 6 = .ok (.getfield 63, 3) := by decide +kernel
theorem dX12_nextTo_9 : decode cX12_nextTo 9 = .ok (.if_icmp .ge 30, 3) := by decide +kernel
set_option maxHeartbeats 4000000 in
set_option maxRecDepth 100000 in
theorem w_X12_nextTo (l : Launch) (D : va_G) (cI cS : ClassId) (b : Nat → Nat) (L v : SU) (hL : TyL L) (hV : TyV v) (x0 : Int32) (px0 : Rg 0 4095 x0) : Met l yX12_nextTo wsX12_nextTo ({ frames := 1, cells := 0, slots := 0, locals := 40 }) (PS D cI cS (wM cI b L v) [.ref (b 0), .int x0]) (vp_Si (fun r => Rg 0 4095 r ∧ True)) 0 0 (fun _ => False) := by
  refine Met.ofW (cc := cX12_nextTo) (maxL := 4) (ret := (some .int)) (by decide) rfl ?_
  intro p e s m args below meth c s₁ B hml hv
  obtain ⟨rfl, hP, hKK⟩ := hv
  have hx := B.exec
  have hb := B.bytes
  have hr := B.returns
  have hts := atoms_spec (ws := wsX12_nextTo) B.pre
  have hown : s.vm.findClass RX12 = some m.cls := findClass_of_methodNamed B.named
  have hlocks := B.notSynchronized
  have hK := hKK.1
  have hin12 : ∀ w ∈ wsX120, w ∈ wsX12_nextTo := by decide +kernel
  have hl := lv_entry ([.ref (b 0), .int x0]) (n := 4) (Nat.le_of_ble_eq_true rfl)
  rw [lg_entry_eq]
  generalize (lg_sl ([.ref (b 0), .int x0]) ++ List.replicate (4 - (lg_sl ([.ref (b 0), .int x0])).length) Slot.unset).toArray = ls at hl ⊢
  have hl : lv_has ls 4 [(0, .ref (b 0)), (1, .int x0)] := hl
  have lp4 : ∀ (n4 : Nat) (y4_l2 y4_l3 : Int32) (ls : Array Slot), Rg 0 4095 x0 → Rg 0 4095 y4_l2 → Rg 0 12 y4_l3 → lv_has ls 4 [(0, .ref (b 0)), (1, .int x0), (2, .int y4_l2), (3, .int y4_l3)] → 12 - y4_l3.toInt < (n4 : Int) → W p l e (headSpec wsX12_nextTo ({ frames := 1, cells := 0, slots := 0, locals := 40 })).room s m ([.ref (b 0), .int x0]).toArray below meth c s.heap [] 0 0 (MQ below (vp_Si (fun r => Rg 0 4095 r ∧ True)) ([.ref (b 0), .int x0]).toArray s 0 0 (fun _ => False)) (F0 m 4 ls []) := by
    intro n4
    induction n4 with
    | zero =>
      intro y4_l2 y4_l3 ls g4_l1 g4_l2 g4_l3 hl hm4
      exact absurd rfl (me_z g4_l3 hm4)
    | succ n4 ih4 =>
      intro y4_l2 y4_l3 ls g4_l1 g4_l2 g4_l3 hl hm4
      refine lv_iload_n hx hb dX12_nextTo_4 rfl (lv_at hl 3 rfl) ?_
      refine lv_aload_n hx hb dX12_nextTo_5 rfl (lv_at hl 0 rfl) ?_
      refine va_get (D := D) (ci := 12) (v := .int (L 0 0)) (C := RX12) (T := TX12) (N := 24) hx hb hts hin12 hown hK hP 0 rfl rfl 0 (by decide) (hts (.fieldLink RX12 63 "MissedPointsModel" "many" "I") (by decide +kernel)) (fun _ h9 => h9) rfl dX12_nextTo_6 ?_
      refine lv_icmp_ge (tgt := 39) hx hb dX12_nextTo_9 (by decide) (fun c5693 => ?_) (fun c5693 => ?_)
      · refine lv_iload_n hx hb dX12_nextTo_39 rfl (lv_at hl 2 rfl) ?_
        exact W.iret (v := y4_l2) hx hb hr (fun t ht hW => ⟨_, rfl, ⟨g4_l2, trivial⟩, ht⟩) (fun q hq => absurd hq List.not_mem_nil) dX12_nextTo_40
      · have g5694 : Rg 1 12 (L 0 0) := rg_ltr g4_l3 hL.1 (rg_nle c5693) (by decide)
        have g5695 : Rg 0 11 y4_l3 := rg_ltl g4_l3 hL.1 (rg_nle c5693) (by decide)
        refine lv_iload_n hx hb dX12_nextTo_12 rfl (lv_at hl 2 rfl) ?_
        refine lv_iload_n hx hb dX12_nextTo_13 rfl (lv_at hl 1 rfl) ?_
        refine lv_iload_n hx hb dX12_nextTo_14 rfl (lv_at hl 3 rfl) ?_
        refine lz_ss (As := [.int x0, .int y4_l3]) (rest := [.int y4_l2]) ⟨hx, hb, hml, hown, hts⟩ (w_X12_has l D cI cS x0 y4_l3) hKK (hP.sub (ws' := []) [] rfl) (va_cwS 2 hts gX12_nextTo_X12_has rfl rfl rfl (by decide +kernel) ⟨Nat.le_of_ble_eq_true rfl, Nat.le_of_ble_eq_true rfl⟩) rfl hl.1 rfl (Nat.le_of_ble_eq_true rfl) dX12_nextTo_15 ⟨Nat.le_of_ble_eq_true rfl, Nat.le_of_ble_eq_true rfl⟩ (fun r5696 hr5696 => ?_)
        refine lv_if_eq (tgt := 30) hx hb dX12_nextTo_18 (by decide) (fun c5697 => ?_) (fun c5697 => ?_)
        · have g5698 : Rg 0 0 r5696 := wk_eql hr5696.1 (by decide : Rg 0 0 (0 : Int32)) c5697 (by decide)
          refine lv_iconst (v := 0) hx hb dX12_nextTo_30 (by decide) ?_
          refine wk_ior 12 (e := 0) (f := 4095) hx hb dX12_nextTo_31 g4_l2 (by decide : Rg 0 0 (0 : Int32)) (by decide) (fun r5699 hr5699 qr5699 => ?_)
          refine lv_istore_n (lv' := [(2, .int r5699), (0, .ref (b 0)), (1, .int x0), (3, .int y4_l3)]) hx hb dX12_nextTo_32 rfl hl (by decide) rfl (fun ls hl => ?_)
          refine wk_iinc (lv' := fun r => [(3, .int r), (2, .int r5699), (0, .ref (b 0)), (1, .int x0)]) (e := 1) (f := 12) hx hb dX12_nextTo_33 hl (k := 3) rfl (by decide) g5695 (by decide) (fun _ => rfl) (fun r5700 ls hr5700 er5700 hl => ?_)
          refine lv_goto (tgt := 4) hx hb dX12_nextTo_36 (by decide) ?_
          exact ih4 _ r5699 r5700 ls g4_l1 hr5699 (rg_w hr5700 (by decide) (by decide)) (lv_sub (l' := [(0, .ref (b 0)), (1, .int x0), (2, .int r5699), (3, .int r5700)]) hl [2, 3, 1, 0] rfl) (me_up hm4 er5700 (by decide))
        · have g5701 : Rg 1 1 r5696 := rg_ne_lo (k := 0) hr5696.1 (by decide) c5697 (by decide)
          refine lv_aload_n hx hb dX12_nextTo_21 rfl (lv_at hl 0 rfl) ?_
          refine va_get (D := D) (ci := 12) (v := .ref (b 1)) (C := RX12) (T := TX12) (N := 24) hx hb hts hin12 hown hK hP 0 rfl rfl 2 (by decide) (hts (.fieldLink RX12 13 "MissedPointsModel" "near" "[I") (by decide +kernel)) (fun _ h9 => h9) rfl dX12_nextTo_22 ?_
          refine lv_iload_n hx hb dX12_nextTo_25 rfl (lv_at hl 3 rfl) ?_
          refine wk_ald hx hb hK hP 1 0 rfl rfl (rg_in g5695 (by decide) (by decide)) dX12_nextTo_26 hV.2.1 (fun r5702 hr5702 => ?_)
          refine lv_goto (tgt := 31) hx hb dX12_nextTo_27 (by decide) ?_
          refine wk_ior 12 (e := 0) (f := 4095) hx hb dX12_nextTo_31 g4_l2 hr5702 (by decide) (fun r5703 hr5703 qr5703 => ?_)
          refine lv_istore_n (lv' := [(2, .int r5703), (0, .ref (b 0)), (1, .int x0), (3, .int y4_l3)]) hx hb dX12_nextTo_32 rfl hl (by decide) rfl (fun ls hl => ?_)
          refine wk_iinc (lv' := fun r => [(3, .int r), (2, .int r5703), (0, .ref (b 0)), (1, .int x0)]) (e := 1) (f := 12) hx hb dX12_nextTo_33 hl (k := 3) rfl (by decide) g5695 (by decide) (fun _ => rfl) (fun r5704 ls hr5704 er5704 hl => ?_)
          refine lv_goto (tgt := 4) hx hb dX12_nextTo_36 (by decide) ?_
          exact ih4 _ r5703 r5704 ls g4_l1 hr5703 (rg_w hr5704 (by decide) (by decide)) (lv_sub (l' := [(0, .ref (b 0)), (1, .int x0), (2, .int r5703), (3, .int r5704)]) hl [2, 3, 1, 0] rfl) (me_up hm4 er5704 (by decide))
  refine lv_iconst (v := 0) hx hb dX12_nextTo_0 (by decide) ?_
  refine lv_istore_n (lv' := [(2, .int 0), (0, .ref (b 0)), (1, .int x0)]) hx hb dX12_nextTo_1 rfl hl (by decide) rfl (fun ls hl => ?_)
  refine lv_iconst (v := 0) hx hb dX12_nextTo_2 (by decide) ?_
  refine lv_istore_n (lv' := [(3, .int 0), (2, .int 0), (0, .ref (b 0)), (1, .int x0)]) hx hb dX12_nextTo_3 rfl hl (by decide) rfl (fun ls hl => ?_)
  exact lp4 13 (0 : Int32) (0 : Int32) ls px0 (by decide : Rg 0 4095 (0 : Int32)) (by decide : Rg 0 12 (0 : Int32)) (lv_sub (l' := [(0, .ref (b 0)), (1, .int x0), (2, .int 0), (3, .int 0)]) hl [2, 3, 1, 0] rfl) (me_i (by decide : Rg 0 12 (0 : Int32)) (by decide))
set_option maxRecDepth 20000 in
theorem ggX12_piece_X12_markedSet : GoodIn wsX12_piece wsX12_markedSet := goodIn_r _ [34, 19, 20, 35, 36, 37, 3, 38, 18, 21, 22, 23, 24, 47, 48, 49, 50, 51, 52, 53, 54, 55, 56, 57, 58, 59, 60, 61, 62, 63, 64, 65, 66, 67, 68, 69, 70] (by decide +kernel) (by decide +kernel)
set_option maxRecDepth 20000 in
theorem gX12_piece_X12_markedSet : GoodIn wsX12_piece (wsV RX12 126 RX12 yX12_markedSet wsX12_markedSet) := goodIn_app (goodIn_of _ (by decide +kernel)) ggX12_piece_X12_markedSet
set_option maxRecDepth 20000 in
theorem ggX12_piece_X12_nextTo : GoodIn wsX12_piece wsX12_nextTo := goodIn_r _ [46, 19, 20, 28, 29, 3, 30, 47, 48, 49, 50, 51, 52, 53, 54, 55, 56, 57, 58, 59, 60, 61, 62, 63, 64, 65, 66, 67, 68, 69, 70] (by decide +kernel) (by decide +kernel)
set_option maxRecDepth 20000 in
theorem gX12_piece_X12_nextTo : GoodIn wsX12_piece (wsV RX12 138 RX12 yX12_nextTo wsX12_nextTo) := goodIn_app (goodIn_of _ (by decide +kernel)) ggX12_piece_X12_nextTo
theorem dX12_piece_38 : decode cX12_piece 38 = .ok (.iload_n 3, 1) := by decide +kernel
theorem dX12_piece_39 : decode cX12_piece 39 = .ok (.ifCond .ne 8, 3) := by decide +kernel
theorem dX12_piece_42 : decode cX12_piece 42 = .ok (.iload 4, 2) := by decide +kernel
theorem dX12_piece_44 : decode cX12_piece 44 = .ok (.goto 15, 3) := by decide +kernel
theorem dX12_piece_47 : decode cX12_piece 47 = .ok (.aload_n 0, 1) := by decide +kernel
theorem dX12_piece_48 : decode cX12_piece 48 = .ok (.iload 4, 2) := by decide +kernel
theorem dX12_piece_50 : decode cX12_piece 50 = .ok (.invokevirtual 138, 3) := by decide +kernel
theorem dX12_piece_53 : decode cX12_piece 53 = .ok (.aload_n 0, 1) := by decide +kernel
theorem dX12_piece_54 : decode cX12_piece 54 = .ok (.iconst 1, 1) := by decide +kernel
theorem dX12_piece_55 : decode cX12_piece 55 = .ok (.invokevirtual 126, 3) := by decide +kernel
theorem dX12_piece_58 : decode cX12_piece 58 = .ok (.iand, 1) := by decide +kernel
set_option maxHeartbeats 4000000 in
set_option maxRecDepth 100000 in
theorem w_X12_piece (l : Launch) (D : va_G) (cI cS : ClassId) (sz : Nat) (b : Nat → Nat) (L v : SU) (hL : TyL L) (hV : TyV v) (x0 x1 x2 : Int32) : Met l yX12_piece wsX12_piece ({ frames := 5, cells := 0, slots := 0, locals := 200 }) (PQ D cI cS (wM cI b L v) sz [.ref (b 0), .int x0, .int x1, .int x2]) (QF (S := SU) D (wM cI b L v) (wM cI b L) sz (fun r u => TyV u ∧ Rg (-2) 4095 r ∧ True)) 0 0 (va_A (wM cI b L v) sz) := by
  refine Met.ofW (cc := cX12_piece) (maxL := 5) (ret := (some .int)) (by decide) rfl ?_
  intro p e s m args below meth c s₁ B hml hv
  obtain ⟨rfl, hsz, hP, hKK, hD0⟩ := hv
  have hx := B.exec
  have hb := B.bytes
  have hr := B.returns
  have hts := atoms_spec (ws := wsX12_piece) B.pre
  have hown : s.vm.findClass RX12 = some m.cls := findClass_of_methodNamed B.named
  have hlocks := B.notSynchronized
  have hK := hKK.1
  subst hsz
  have hD := hD0.self (sz := s.heap.size)
  obtain ⟨A, hAe⟩ : ∃ A, A = va_A (wM cI b L v) s.heap.size := ⟨_, rfl⟩
  rw [← hAe] at hD
  have hA : ∀ q : Nat, s.heap.size ≤ q → A q := fun q h => by rw [hAe]; exact Or.inr h
  have hS : va_S A s.heap s.heap [] := va_S.rf
  have hl := lv_entry ([.ref (b 0), .int x0, .int x1, .int x2]) (n := 5) (Nat.le_of_ble_eq_true rfl)
  rw [lg_entry_eq]
  generalize (lg_sl ([.ref (b 0), .int x0, .int x1, .int x2]) ++ List.replicate (5 - (lg_sl ([.ref (b 0), .int x0, .int x1, .int x2])).length) Slot.unset).toArray = ls at hl ⊢
  have hl : lv_has ls 5 [(0, .ref (b 0)), (1, .int x0), (2, .int x1), (3, .int x2)] := hl
  refine lv_iload_n hx hb dX12_piece_0 rfl (lv_at hl 1 rfl) ?_
  refine lv_iconst (v := 0) hx hb dX12_piece_1 (by decide) ?_
  refine lv_iconst (v := 1) hx hb dX12_piece_2 (by decide) ?_
  refine lz_ss (As := [.int x0, .int 0, .int 1]) (rest := []) ⟨hx, hb, hml, hown, hts⟩ (w_X12_in l D cI cS x0 (0 : Int32) (1 : Int32)) hKK (hP.sub (ws' := []) [] rfl) (va_cwS 3 hts gX12_piece_X12_in rfl rfl rfl (by decide +kernel) ⟨Nat.le_of_ble_eq_true rfl, Nat.le_of_ble_eq_true rfl⟩) rfl hl.1 rfl (Nat.le_of_ble_eq_true rfl) dX12_piece_3 ⟨Nat.le_of_ble_eq_true rfl, Nat.le_of_ble_eq_true rfl⟩ (fun r5725 hr5725 => ?_)
  refine lv_if_eq (tgt := 18) hx hb dX12_piece_6 (by decide) (fun c5726 => ?_) (fun c5726 => ?_)
  · have g5727 : Rg 0 0 r5725 := wk_eql hr5725.1 (by decide : Rg 0 0 (0 : Int32)) c5726 (by decide)
    refine lv_bipush (v := (-2)) hx hb dX12_piece_18 (by decide) ?_
    subst hAe
    exact W.iret (v := (-2)) hx hb hr (fun t ht hW => ⟨⟨_, v, rfl, ⟨hV, (by decide : Rg (-2) 4095 ((-2) : Int32)), trivial⟩, by rw [ht]; exact hP, hD⟩, hS.F ht⟩) hS.2.2 dX12_piece_20
  · have g5728 : Rg 0 1 x0 := wk_in3 (rg_any x0) (by decide : Rg 0 0 (0 : Int32)) (by decide : Rg 1 1 (1 : Int32)) (hr5725.2 c5726) (by decide)
    have g5729 : Rg 1 1 r5725 := rg_ne_lo (k := 0) hr5725.1 (by decide) c5726 (by decide)
    refine lv_iload_n hx hb dX12_piece_9 rfl (lv_at hl 3 rfl) ?_
    refine lv_iconst (v := 0) hx hb dX12_piece_10 (by decide) ?_
    refine lv_iconst (v := 1) hx hb dX12_piece_11 (by decide) ?_
    refine lz_ss (As := [.int x2, .int 0, .int 1]) (rest := []) ⟨hx, hb, hml, hown, hts⟩ (w_X12_in l D cI cS x2 (0 : Int32) (1 : Int32)) hKK (hP.sub (ws' := []) [] rfl) (va_cwS 3 hts gX12_piece_X12_in rfl rfl rfl (by decide +kernel) ⟨Nat.le_of_ble_eq_true rfl, Nat.le_of_ble_eq_true rfl⟩) rfl hl.1 rfl (Nat.le_of_ble_eq_true rfl) dX12_piece_12 ⟨Nat.le_of_ble_eq_true rfl, Nat.le_of_ble_eq_true rfl⟩ (fun r5730 hr5730 => ?_)
    refine lv_if_ne (tgt := 21) hx hb dX12_piece_15 (by decide) (fun c5731 => ?_) (fun c5731 => ?_)
    · have g5732 : Rg 0 1 x2 := wk_in3 (rg_any x2) (by decide : Rg 0 0 (0 : Int32)) (by decide : Rg 1 1 (1 : Int32)) (hr5730.2 c5731) (by decide)
      have g5733 : Rg 1 1 r5730 := rg_ne_lo (k := 0) hr5730.1 (by decide) c5731 (by decide)
      refine lv_aload_n hx hb dX12_piece_21 rfl (lv_at hl 0 rfl) ?_
      refine lv_iload_n hx hb dX12_piece_22 rfl (lv_at hl 1 rfl) ?_
      refine lv_iload_n hx hb dX12_piece_23 rfl (lv_at hl 2 rfl) ?_
      refine wk_qi (wM cI b L) v (As := [.int x0, .int x1]) (rest := []) ⟨hx, hb, hml, hown, hts⟩ (w_X12_pieceAt l D cI cS _ b L v hL hV x0 x1 g5728) hKK hP hD hS hA 0 (ci := 12) rfl rfl (cwV 2 hts gX12_piece_X12_pieceAt rfl rfl rfl (by decide +kernel) ⟨Nat.le_of_ble_eq_true rfl, Nat.le_of_ble_eq_true rfl⟩) rfl hl.1 rfl (Nat.le_of_ble_eq_true rfl) dX12_piece_24 ⟨Nat.le_of_ble_eq_true rfl, Nat.le_of_ble_eq_true rfl⟩ (fun r5734 v H locs hr5734 hP hD hS => ?_)
      have hV := hr5734.1
      refine lv_istore (lv' := [(4, .int r5734), (0, .ref (b 0)), (1, .int x0), (2, .int x1), (3, .int x2)]) hx hb dX12_piece_27 hl (by decide) rfl (fun ls hl => ?_)
      refine lv_iload hx hb dX12_piece_29 (lv_at hl 0 rfl) ?_
      refine lv_if_ne (tgt := 38) hx hb dX12_piece_31 (by decide) (fun c5735 => ?_) (fun c5735 => ?_)
      · have g5736 : Rg 1 4095 r5734 := rg_ne_lo (k := 0) hr5734.2.1 (by decide) c5735 (by decide)
        refine lv_iload_n hx hb dX12_piece_38 rfl (lv_at hl 4 rfl) ?_
        refine lv_if_ne (tgt := 47) hx hb dX12_piece_39 (by decide) (fun c5737 => ?_) (fun c5737 => ?_)
        · have g5738 : Rg 1 1 x2 := rg_ne_lo (k := 0) g5732 (by decide) c5737 (by decide)
          refine lv_aload_n hx hb dX12_piece_47 rfl (lv_at hl 1 rfl) ?_
          refine lv_iload hx hb dX12_piece_48 (lv_at hl 0 rfl) ?_
          refine wk_sv 0 (As := [.int r5734]) (rest := []) ⟨hx, hb, hml, hown, hts⟩ (w_X12_nextTo l D cI cS b L v hL hV r5734 (rg_w g5736 (by decide) (by decide))) hKK hP (ci := 12) rfl rfl (cwV 1 hts gX12_piece_X12_nextTo rfl rfl rfl (by decide +kernel) ⟨Nat.le_of_ble_eq_true rfl, Nat.le_of_ble_eq_true rfl⟩) rfl hl.1 rfl (Nat.le_of_ble_eq_true rfl) dX12_piece_50 ⟨Nat.le_of_ble_eq_true rfl, Nat.le_of_ble_eq_true rfl⟩ (fun r5739 hr5739 => ?_)
          refine lv_aload_n hx hb dX12_piece_53 rfl (lv_at hl 1 rfl) ?_
          refine lv_iconst (v := 1) hx hb dX12_piece_54 (by decide) ?_
          refine wk_sv 0 (As := [.int 1]) (rest := [.int r5739]) ⟨hx, hb, hml, hown, hts⟩ (w_X12_markedSet l D cI cS b L v hL hV (1 : Int32)) hKK hP (ci := 12) rfl rfl (cwV 1 hts gX12_piece_X12_markedSet rfl rfl rfl (by decide +kernel) ⟨Nat.le_of_ble_eq_true rfl, Nat.le_of_ble_eq_true rfl⟩) rfl hl.1 rfl (Nat.le_of_ble_eq_true rfl) dX12_piece_55 ⟨Nat.le_of_ble_eq_true rfl, Nat.le_of_ble_eq_true rfl⟩ (fun r5740 hr5740 => ?_)
          refine wk_iandl hx hb dX12_piece_58 hr5739.1 (by decide) (fun r5741 hr5741 qr5741 => ?_)
          subst hAe
          exact W.iret (v := r5741) hx hb hr (fun t ht hW => ⟨⟨_, v, rfl, ⟨hV, (rg_w hr5741 (by decide) (by decide)), trivial⟩, by rw [ht]; exact hP, hD⟩, hS.F ht⟩) hS.2.2 dX12_piece_59
        · have g5742 : Rg 0 0 x2 := wk_eql g5732 (by decide : Rg 0 0 (0 : Int32)) c5737 (by decide)
          refine lv_iload hx hb dX12_piece_42 (lv_at hl 0 rfl) ?_
          refine lv_goto (tgt := 59) hx hb dX12_piece_44 (by decide) ?_
          subst hAe
          exact W.iret (v := r5734) hx hb hr (fun t ht hW => ⟨⟨_, v, rfl, ⟨hV, (rg_w g5736 (by decide) (by decide)), trivial⟩, by rw [ht]; exact hP, hD⟩, hS.F ht⟩) hS.2.2 dX12_piece_59
      · have g5743 : Rg 0 0 r5734 := wk_eql hr5734.2.1 (by decide : Rg 0 0 (0 : Int32)) c5735 (by decide)
        refine lv_iconst (v := (-1)) hx hb dX12_piece_34 (by decide) ?_
        refine lv_goto (tgt := 59) hx hb dX12_piece_35 (by decide) ?_
        subst hAe
        exact W.iret (v := (-1)) hx hb hr (fun t ht hW => ⟨⟨_, v, rfl, ⟨hV, (by decide : Rg (-2) 4095 ((-1) : Int32)), trivial⟩, by rw [ht]; exact hP, hD⟩, hS.F ht⟩) hS.2.2 dX12_piece_59
    · have g5744 : Rg 0 0 r5730 := wk_eql hr5730.1 (by decide : Rg 0 0 (0 : Int32)) c5731 (by decide)
      refine lv_bipush (v := (-2)) hx hb dX12_piece_18 (by decide) ?_
      subst hAe
      exact W.iret (v := (-2)) hx hb hr (fun t ht hW => ⟨⟨_, v, rfl, ⟨hV, (by decide : Rg (-2) 4095 ((-2) : Int32)), trivial⟩, by rw [ht]; exact hP, hD⟩, hS.F ht⟩) hS.2.2 dX12_piece_20
set_option maxRecDepth 20000 in
theorem ggX12_surplus_X12_nextTo : GoodIn wsX12_surplus wsX12_nextTo := goodIn_r _ [42, 8, 9, 17, 18, 4, 19, 43, 44, 45, 46, 47, 48, 49, 50, 51, 52, 53, 54, 55, 56, 57, 58, 59, 60, 61, 62, 63, 64, 65, 66] (by decide +kernel) (by decide +kernel)
set_option maxRecDepth 20000 in
theorem gX12_surplus_X12_nextTo : GoodIn wsX12_surplus (wsV RX12 138 RX12 yX12_nextTo wsX12_nextTo) := goodIn_app (goodIn_of _ (by decide +kernel)) ggX12_surplus_X12_nextTo
set_option maxRecDepth 20000 in
theorem ggX12_surplus_X12_pieceOf : GoodIn wsX12_surplus wsX12_pieceOf := goodIn_r _ [38, 8, 9, 17, 18, 4, 19, 43, 44, 45, 46, 47, 48, 49, 50, 51, 52, 53, 54, 55, 56, 57, 58, 59, 60, 61, 62, 63, 64, 65, 66] (by decide +kernel) (by decide +kernel)
set_option maxRecDepth 20000 in
theorem gX12_surplus_X12_pieceOf : GoodIn wsX12_surplus (wsV RX12 129 RX12 yX12_pieceOf wsX12_pieceOf) := goodIn_app (goodIn_of _ (by decide +kernel)) ggX12_surplus_X12_pieceOf
theorem dX12_surplus_43 : decode cX12_surplus 43 = .ok (.iload_n 2, 1) := by decide +kernel
theorem dX12_surplus_44 : decode cX12_surplus 44 = .ok (.aload_n 0, 1) := by decide +kernel
theorem dX12_surplus_45 : decode cX12_surplus 45 = .ok (.aload_n 0, 1) := by decide +kernel
theorem dX12_surplus_46 : decode cX12_surplus 46 = .ok (.iload_n 3, 1) := by decide +kernel
theorem dX12_surplus_47 : decode cX12_surplus 47 = .ok (.invokevirtual 129, 3) := by decide +kernel
theorem dX12_surplus_50 : decode cX12_surplus 50 = .ok (.invokevirtual 138, 3) := by decide +kernel
theorem dX12_surplus_53 : decode cX12_surplus 53 = .ok (.iload_n 1, 1) := by decide +kernel
theorem dX12_surplus_54 : decode cX12_surplus 54 = .ok (.iand, 1) := by decide +kernel
theorem dX12_surplus_55 : decode cX12_surplus 55 = .ok (.ifCond .eq 7, 3) := by decide +kernel
theorem dX12_surplus_58 : decode cX12_surplus 58 = .ok (.iconst 1, 1) := by decide +kernel
theorem dX12_surplus_59 : decode cX12_surplus 59 = .ok (.goto 4, 3) := by decide +kernel
theorem dX12_surplus_62 : decode cX12_surplus 62 = .ok (.iconst 0, 1) := by decide +kernel
theorem dX12_surplus_63 : decode cX12_surplus 63 = .ok (.iadd, 1) := by decide +kernel
theorem dX12_surplus_64 : decode cX12_surplus 64 = .ok (.istore_n 2, 1) := by decide +kernel
theorem dX12_surplus_65 : decode cX12_surplus 65 = .ok (.iload_n 3, 1) := by decide +kernel
theorem dX12_surplus_66 : decode cX12_surplus 66 = .ok (.aload_n 0, 1) := by decide +kernel
theorem dX12_surplus_67 : decode cX12_surplus 67 = .ok (.iload_n 3, 1) := by decide +kernel
theorem dX12_surplus_68 : decode cX12_surplus 68 = .ok (.invokevirtual 129, 3) := by decide +kernel
theorem dX12_surplus_71 : decode cX12_surplus 71 = .ok (.iconst (-1), 1) := by decide +kernel
theorem dX12_surplus_72 : decode cX12_surplus 72 = .ok (.ixor, 1) := by decide +kernel
theorem dX12_surplus_73 : decode cX12_surplus 73 = .ok (.iand, 1) := by decide +kernel
theorem dX12_surplus_74 : decode cX12_surplus 74 = .ok (.istore_n 3, 1) := by decide +kernel
theorem dX12_surplus_75 : decode cX12_surplus 75 = .ok (.goto (-36), 3) := by decide +kernel
set_option maxHeartbeats 4000000 in
set_option maxRecDepth 100000 in
theorem w_X12_surplus (l : Launch) (D : va_G) (cI cS : ClassId) (sz : Nat) (b : Nat → Nat) (L v : SU) (hL : TyL L) (hV : TyV v) (x0 : Int32) : Met l yX12_surplus wsX12_surplus ({ frames := 3, cells := 0, slots := 0, locals := 120 }) (PQ D cI cS (wM cI b L v) sz [.ref (b 0), .int x0]) (QF (S := SU) D (wM cI b L v) (wM cI b L) sz (fun r u => TyV u ∧ Rg (-2147483648) 2147483647 r ∧ True)) 0 0 (va_A (wM cI b L v) sz) := by
  refine Met.ofW (cc := cX12_surplus) (maxL := 4) (ret := (some .int)) (by decide) rfl ?_
  intro p e s m args below meth c s₁ B hml hv
  obtain ⟨rfl, hsz, hP, hKK, hD0⟩ := hv
  have hx := B.exec
  have hb := B.bytes
  have hr := B.returns
  have hts := atoms_spec (ws := wsX12_surplus) B.pre
  have hown : s.vm.findClass RX12 = some m.cls := findClass_of_methodNamed B.named
  have hlocks := B.notSynchronized
  have hK := hKK.1
  subst hsz
  have hD := hD0.self (sz := s.heap.size)
  obtain ⟨A, hAe⟩ : ∃ A, A = va_A (wM cI b L v) s.heap.size := ⟨_, rfl⟩
  rw [← hAe] at hD
  have hA : ∀ q : Nat, s.heap.size ≤ q → A q := fun q h => by rw [hAe]; exact Or.inr h
  have hS : va_S A s.heap s.heap [] := va_S.rf
  have hl := lv_entry ([.ref (b 0), .int x0]) (n := 4) (Nat.le_of_ble_eq_true rfl)
  rw [lg_entry_eq]
  generalize (lg_sl ([.ref (b 0), .int x0]) ++ List.replicate (4 - (lg_sl ([.ref (b 0), .int x0])).length) Slot.unset).toArray = ls at hl ⊢
  have hl : lv_has ls 4 [(0, .ref (b 0)), (1, .int x0)] := hl
  have lp39 : ∀ (n39 : Nat) (y39_l2 y39_l3 : Int32) (v : SU) (H : Heap) (locs : List Loc) (ls : Array Slot), Rg 0 4095 x0 → Rg 0 4095 y39_l3 → TyV v → va_P D cls (wM cI b L v) H → va_D A (wM cI b L v) → va_S A s.heap H locs → lv_has ls 4 [(0, .ref (b 0)), (1, .int x0), (2, .int y39_l2), (3, .int y39_l3)] → y39_l3.toInt < (n39 : Int) → W p l e (headSpec wsX12_surplus ({ frames := 3, cells := 0, slots := 0, locals := 120 })).room s m ([.ref (b 0), .int x0]).toArray below meth c H locs 0 0 (MQ below (QF (S := SU) D (wM cI b L v) (wM cI b L) s.heap.size (fun r u => TyV u ∧ Rg (-2147483648) 2147483647 r ∧ True)) ([.ref (b 0), .int x0]).toArray s 0 0 (va_A (wM cI b L v) s.heap.size)) (F0 m 39 ls []) := by
    intro n39
    induction n39 with
    | zero =>
      intro y39_l2 y39_l3 v H locs ls g39_l1 g39_l3 hV hP hD hS hl hm39
      exact absurd rfl (me_0 g39_l3 (by decide) hm39)
    | succ n39 ih39 =>
      intro y39_l2 y39_l3 v H locs ls g39_l1 g39_l3 hV hP hD hS hl hm39
      refine lv_iload_n hx hb dX12_surplus_39 rfl (lv_at hl 3 rfl) ?_
      refine lv_if_eq (tgt := 78) hx hb dX12_surplus_40 (by decide) (fun c5809 => ?_) (fun c5809 => ?_)
      · have g5810 : Rg 0 0 y39_l3 := wk_eql g39_l3 (by decide : Rg 0 0 (0 : Int32)) c5809 (by decide)
        refine lv_iload_n hx hb dX12_surplus_78 rfl (lv_at hl 2 rfl) ?_
        subst hAe
        exact W.iret (v := y39_l2) hx hb hr (fun t ht hW => ⟨⟨_, v, rfl, ⟨hV, (rg_any y39_l2), trivial⟩, by rw [ht]; exact hP, hD⟩, hS.F ht⟩) hS.2.2 dX12_surplus_79
      · have g5811 : Rg 1 4095 y39_l3 := rg_ne_lo (k := 0) g39_l3 (by decide) c5809 (by decide)
        refine lv_iload_n hx hb dX12_surplus_43 rfl (lv_at hl 2 rfl) ?_
        refine lv_aload_n hx hb dX12_surplus_44 rfl (lv_at hl 0 rfl) ?_
        refine lv_aload_n hx hb dX12_surplus_45 rfl (lv_at hl 0 rfl) ?_
        refine lv_iload_n hx hb dX12_surplus_46 rfl (lv_at hl 3 rfl) ?_
        refine wk_sv 0 (As := [.int y39_l3]) (rest := [.ref (b 0), .int y39_l2]) ⟨hx, hb, hml, hown, hts⟩ (w_X12_pieceOf l D cI cS b L v hL hV y39_l3 g5811) hKK hP (ci := 12) rfl rfl (cwV 1 hts gX12_surplus_X12_pieceOf rfl rfl rfl (by decide +kernel) ⟨Nat.le_of_ble_eq_true rfl, Nat.le_of_ble_eq_true rfl⟩) rfl hl.1 rfl (Nat.le_of_ble_eq_true rfl) dX12_surplus_47 ⟨Nat.le_of_ble_eq_true rfl, Nat.le_of_ble_eq_true rfl⟩ (fun r5812 hr5812 => ?_)
        refine wk_sv 0 (As := [.int r5812]) (rest := [.int y39_l2]) ⟨hx, hb, hml, hown, hts⟩ (w_X12_nextTo l D cI cS b L v hL hV r5812 hr5812.1) hKK hP (ci := 12) rfl rfl (cwV 1 hts gX12_surplus_X12_nextTo rfl rfl rfl (by decide +kernel) ⟨Nat.le_of_ble_eq_true rfl, Nat.le_of_ble_eq_true rfl⟩) rfl hl.1 rfl (Nat.le_of_ble_eq_true rfl) dX12_surplus_50 ⟨Nat.le_of_ble_eq_true rfl, Nat.le_of_ble_eq_true rfl⟩ (fun r5813 hr5813 => ?_)
        refine lv_iload_n hx hb dX12_surplus_53 rfl (lv_at hl 1 rfl) ?_
        refine wk_iandl hx hb dX12_surplus_54 hr5813.1 (by decide) (fun r5814 hr5814 qr5814 => ?_)
        refine lv_if_eq (tgt := 62) hx hb dX12_surplus_55 (by decide) (fun c5815 => ?_) (fun c5815 => ?_)
        · have g5816 : Rg 0 0 r5814 := wk_eql hr5814 (by decide : Rg 0 0 (0 : Int32)) c5815 (by decide)
          refine lv_iconst (v := 0) hx hb dX12_surplus_62 (by decide) ?_
          refine wk_iadd (e := (-2147483648)) (f := 2147483647) hx hb dX12_surplus_63 (rg_any y39_l2) (by decide : Rg 0 0 (0 : Int32)) (by decide) (fun r5817 hr5817 er5817 qr5817 => ?_)
          refine lv_istore_n (lv' := [(2, .int r5817), (0, .ref (b 0)), (1, .int x0), (3, .int y39_l3)]) hx hb dX12_surplus_64 rfl hl (by decide) rfl (fun ls hl => ?_)
          refine lv_iload_n hx hb dX12_surplus_65 rfl (lv_at hl 3 rfl) ?_
          refine lv_aload_n hx hb dX12_surplus_66 rfl (lv_at hl 1 rfl) ?_
          refine lv_iload_n hx hb dX12_surplus_67 rfl (lv_at hl 3 rfl) ?_
          refine wk_sv 0 (As := [.int y39_l3]) (rest := [.int y39_l3]) ⟨hx, hb, hml, hown, hts⟩ (w_X12_pieceOf l D cI cS b L v hL hV y39_l3 g5811) hKK hP (ci := 12) rfl rfl (cwV 1 hts gX12_surplus_X12_pieceOf rfl rfl rfl (by decide +kernel) ⟨Nat.le_of_ble_eq_true rfl, Nat.le_of_ble_eq_true rfl⟩) rfl hl.1 rfl (Nat.le_of_ble_eq_true rfl) dX12_surplus_68 ⟨Nat.le_of_ble_eq_true rfl, Nat.le_of_ble_eq_true rfl⟩ (fun r5818 hr5818 => ?_)
          refine lv_iconst (v := (-1)) hx hb dX12_surplus_71 (by decide) ?_
          refine lv_ixor hx hb dX12_surplus_72 ?_
          refine wk_topP (P := fun r => r = r5818 ^^^ ((-1) : Int32)) rfl (fun r5819 qr5819 => ?_)
          refine wk_iandl hx hb dX12_surplus_73 g5811 (by decide) (fun r5820 hr5820 qr5820 => ?_)
          refine lv_istore_n (lv' := [(3, .int r5820), (2, .int r5817), (0, .ref (b 0)), (1, .int x0)]) hx hb dX12_surplus_74 rfl hl (by decide) rfl (fun ls hl => ?_)
          refine lv_goto (tgt := 39) hx hb dX12_surplus_75 (by decide) ?_
          exact ih39 _ r5817 r5820 v _ _ ls g39_l1 hr5820 hV hP hD hS (lv_sub (l' := [(0, .ref (b 0)), (1, .int x0), (2, .int r5817), (3, .int r5820)]) hl [2, 3, 1, 0] rfl) (me_lt hm39 (by rw [qr5820, qr5819]; exact an_piece g5811 hr5818.2))
        · have g5821 : Rg 1 4095 r5814 := rg_ne_lo (k := 0) hr5814 (by decide) c5815 (by decide)
          refine lv_iconst (v := 1) hx hb dX12_surplus_58 (by decide) ?_
          refine lv_goto (tgt := 63) hx hb dX12_surplus_59 (by decide) ?_
          refine lv_iadd hx hb dX12_surplus_63 ?_
          refine wk_topP (P := fun r => r = y39_l2 + (1 : Int32)) rfl (fun r5822 qr5822 => ?_)
          refine lv_istore_n (lv' := [(2, .int r5822), (0, .ref (b 0)), (1, .int x0), (3, .int y39_l3)]) hx hb dX12_surplus_64 rfl hl (by decide) rfl (fun ls hl => ?_)
          refine lv_iload_n hx hb dX12_surplus_65 rfl (lv_at hl 3 rfl) ?_
          refine lv_aload_n hx hb dX12_surplus_66 rfl (lv_at hl 1 rfl) ?_
          refine lv_iload_n hx hb dX12_surplus_67 rfl (lv_at hl 3 rfl) ?_
          refine wk_sv 0 (As := [.int y39_l3]) (rest := [.int y39_l3]) ⟨hx, hb, hml, hown, hts⟩ (w_X12_pieceOf l D cI cS b L v hL hV y39_l3 g5811) hKK hP (ci := 12) rfl rfl (cwV 1 hts gX12_surplus_X12_pieceOf rfl rfl rfl (by decide +kernel) ⟨Nat.le_of_ble_eq_true rfl, Nat.le_of_ble_eq_true rfl⟩) rfl hl.1 rfl (Nat.le_of_ble_eq_true rfl) dX12_surplus_68 ⟨Nat.le_of_ble_eq_true rfl, Nat.le_of_ble_eq_true rfl⟩ (fun r5823 hr5823 => ?_)
          refine lv_iconst (v := (-1)) hx hb dX12_surplus_71 (by decide) ?_
          refine lv_ixor hx hb dX12_surplus_72 ?_
          refine wk_topP (P := fun r => r = r5823 ^^^ ((-1) : Int32)) rfl (fun r5824 qr5824 => ?_)
          refine wk_iandl hx hb dX12_surplus_73 g5811 (by decide) (fun r5825 hr5825 qr5825 => ?_)
          refine lv_istore_n (lv' := [(3, .int r5825), (2, .int r5822), (0, .ref (b 0)), (1, .int x0)]) hx hb dX12_surplus_74 rfl hl (by decide) rfl (fun ls hl => ?_)
          refine lv_goto (tgt := 39) hx hb dX12_surplus_75 (by decide) ?_
          exact ih39 _ r5822 r5825 v _ _ ls g39_l1 hr5825 hV hP hD hS (lv_sub (l' := [(0, .ref (b 0)), (1, .int x0), (2, .int r5822), (3, .int r5825)]) hl [2, 3, 1, 0] rfl) (me_lt hm39 (by rw [qr5825, qr5824]; exact an_piece g5811 hr5823.2))
  refine lv_aload_n hx hb dX12_surplus_0 rfl (lv_at hl 0 rfl) ?_
  refine wk_qv (wM cI b L) v (As := []) (rest := []) ⟨hx, hb, hml, hown, hts⟩ (w_X12_reckons l D cI cS _ b L v hL hV) hKK hP hD hS hA 0 (ci := 12) rfl rfl (cwV 0 hts gX12_surplus_X12_reckons rfl rfl rfl (by decide +kernel) ⟨Nat.le_of_ble_eq_true rfl, Nat.le_of_ble_eq_true rfl⟩) rfl hl.1 rfl (Nat.le_of_ble_eq_true rfl) dX12_surplus_1 ⟨Nat.le_of_ble_eq_true rfl, Nat.le_of_ble_eq_true rfl⟩ (fun v H locs hr5826 hP hD hS => ?_)
  have hV := hr5826.1
  refine lv_aload_n hx hb dX12_surplus_4 rfl (lv_at hl 0 rfl) ?_
  refine lv_iload_n hx hb dX12_surplus_5 rfl (lv_at hl 1 rfl) ?_
  refine wk_sv 0 (As := [.int x0]) (rest := []) ⟨hx, hb, hml, hown, hts⟩ (w_X12_isSet l D cI cS b L v hL hV x0) hKK hP (ci := 12) rfl rfl (cwV 1 hts gX12_surplus_X12_isSet rfl rfl rfl (by decide +kernel) ⟨Nat.le_of_ble_eq_true rfl, Nat.le_of_ble_eq_true rfl⟩) rfl hl.1 rfl (Nat.le_of_ble_eq_true rfl) dX12_surplus_6 ⟨Nat.le_of_ble_eq_true rfl, Nat.le_of_ble_eq_true rfl⟩ (fun r5827 hr5827 => ?_)
  refine lv_if_eq (tgt := 24) hx hb dX12_surplus_9 (by decide) (fun c5828 => ?_) (fun c5828 => ?_)
  · have g5829 : Rg 0 0 r5827 := wk_eql hr5827.1 (by decide : Rg 0 0 (0 : Int32)) c5828 (by decide)
    refine lv_bipush (v := (-2)) hx hb dX12_surplus_24 (by decide) ?_
    subst hAe
    exact W.iret (v := (-2)) hx hb hr (fun t ht hW => ⟨⟨_, v, rfl, ⟨hV, (by decide : Rg (-2147483648) 2147483647 ((-2) : Int32)), trivial⟩, by rw [ht]; exact hP, hD⟩, hS.F ht⟩) hS.2.2 dX12_surplus_26
  · have g5830 : Rg 0 4095 x0 := (hr5827.2 c5828)
    have g5831 : Rg 1 1 r5827 := rg_ne_lo (k := 0) hr5827.1 (by decide) c5828 (by decide)
    refine lv_iload_n hx hb dX12_surplus_12 rfl (lv_at hl 1 rfl) ?_
    refine lv_aload_n hx hb dX12_surplus_13 rfl (lv_at hl 0 rfl) ?_
    refine lv_iconst (v := 1) hx hb dX12_surplus_14 (by decide) ?_
    refine wk_sv 0 (As := [.int 1]) (rest := [.int x0]) ⟨hx, hb, hml, hown, hts⟩ (w_X12_markedSet l D cI cS b L v hL hV (1 : Int32)) hKK hP (ci := 12) rfl rfl (cwV 1 hts gX12_surplus_X12_markedSet rfl rfl rfl (by decide +kernel) ⟨Nat.le_of_ble_eq_true rfl, Nat.le_of_ble_eq_true rfl⟩) rfl hl.1 rfl (Nat.le_of_ble_eq_true rfl) dX12_surplus_15 ⟨Nat.le_of_ble_eq_true rfl, Nat.le_of_ble_eq_true rfl⟩ (fun r5832 hr5832 => ?_)
    refine lv_iconst (v := (-1)) hx hb dX12_surplus_18 (by decide) ?_
    refine lv_ixor hx hb dX12_surplus_19 ?_
    refine wk_topP (P := fun r => r = r5832 ^^^ ((-1) : Int32)) rfl (fun r5833 qr5833 => ?_)
    refine wk_iandl hx hb dX12_surplus_20 g5830 (by decide) (fun r5834 hr5834 qr5834 => ?_)
    refine lv_if_eq (tgt := 27) hx hb dX12_surplus_21 (by decide) (fun c5835 => ?_) (fun c5835 => ?_)
    · have g5836 : Rg 0 0 r5834 := wk_eql hr5834 (by decide : Rg 0 0 (0 : Int32)) c5835 (by decide)
      refine lv_iload_n hx hb dX12_surplus_27 rfl (lv_at hl 1 rfl) ?_
      refine lz_ss (As := [.int x0]) (rest := []) ⟨hx, hb, hml, hown, hts⟩ (w_X12_bits l D cI cS x0) hKK (hP.sub (ws' := []) [] rfl) (va_cwS 1 hts gX12_surplus_X12_bits rfl rfl rfl (by decide +kernel) ⟨Nat.le_of_ble_eq_true rfl, Nat.le_of_ble_eq_true rfl⟩) rfl hl.1 rfl (Nat.le_of_ble_eq_true rfl) dX12_surplus_28 ⟨Nat.le_of_ble_eq_true rfl, Nat.le_of_ble_eq_true rfl⟩ (fun r5837 hr5837 => ?_)
      refine lv_ineg hx hb dX12_surplus_31 ?_
      refine wk_topP (P := fun r => r = -r5837) rfl (fun r5838 qr5838 => ?_)
      refine lv_istore_n (lv' := [(2, .int r5838), (0, .ref (b 0)), (1, .int x0)]) hx hb dX12_surplus_32 rfl hl (by decide) rfl (fun ls hl => ?_)
      refine lv_aload_n hx hb dX12_surplus_33 rfl (lv_at hl 1 rfl) ?_
      refine lv_iconst (v := 0) hx hb dX12_surplus_34 (by decide) ?_
      refine wk_sv 0 (As := [.int 0]) (rest := []) ⟨hx, hb, hml, hown, hts⟩ (w_X12_markedSet l D cI cS b L v hL hV (0 : Int32)) hKK hP (ci := 12) rfl rfl (cwV 1 hts gX12_surplus_X12_markedSet rfl rfl rfl (by decide +kernel) ⟨Nat.le_of_ble_eq_true rfl, Nat.le_of_ble_eq_true rfl⟩) rfl hl.1 rfl (Nat.le_of_ble_eq_true rfl) dX12_surplus_35 ⟨Nat.le_of_ble_eq_true rfl, Nat.le_of_ble_eq_true rfl⟩ (fun r5839 hr5839 => ?_)
      refine lv_istore_n (lv' := [(3, .int r5839), (2, .int r5838), (0, .ref (b 0)), (1, .int x0)]) hx hb dX12_surplus_38 rfl hl (by decide) rfl (fun ls hl => ?_)
      exact lp39 4096 r5838 r5839 v _ _ ls g5830 hr5839.1 hV hP hD hS (lv_sub (l' := [(0, .ref (b 0)), (1, .int x0), (2, .int r5838), (3, .int r5839)]) hl [2, 3, 1, 0] rfl) (me_k hr5839.1 (by decide))
    · have g5840 : Rg 1 4095 r5834 := rg_ne_lo (k := 0) hr5834 (by decide) c5835 (by decide)
      refine lv_bipush (v := (-2)) hx hb dX12_surplus_24 (by decide) ?_
      subst hAe
      exact W.iret (v := (-2)) hx hb hr (fun t ht hW => ⟨⟨_, v, rfl, ⟨hV, (by decide : Rg (-2147483648) 2147483647 ((-2) : Int32)), trivial⟩, by rw [ht]; exact hP, hD⟩, hS.F ht⟩) hS.2.2 dX12_surplus_26
set_option maxRecDepth 20000 in
theorem ggX12_oddOf_X12_bits : GoodIn wsX12_oddOf wsX12_bits := goodIn_r _ [17] (by decide +kernel) (by decide +kernel)
set_option maxRecDepth 20000 in
theorem gX12_oddOf_X12_bits : GoodIn wsX12_oddOf (va_wsS RX12 85 yX12_bits wsX12_bits) := goodIn_app (goodIn_of _ (by decide +kernel)) ggX12_oddOf_X12_bits
set_option maxRecDepth 20000 in
theorem ggX12_oddOf_X12_pieceOf : GoodIn wsX12_oddOf wsX12_pieceOf := goodIn_r _ [10, 6, 11, 12, 13, 4, 14, 18, 19, 20, 21, 22, 23, 24, 25, 26, 27, 28, 29, 30, 31, 32, 33, 34, 35, 36, 37, 38, 39, 40, 41] (by decide +kernel) (by decide +kernel)
set_option maxRecDepth 20000 in
theorem gX12_oddOf_X12_pieceOf : GoodIn wsX12_oddOf (wsV RX12 129 RX12 yX12_pieceOf wsX12_pieceOf) := goodIn_app (goodIn_of _ (by decide +kernel)) ggX12_oddOf_X12_pieceOf
theorem dX12_oddOf_15 : decode cX12_oddOf 15 = .ok (.iload_n 2, 1) := by decide +kernel
theorem dX12_oddOf_16 : decode cX12_oddOf 16 = .ok (.aload_n 0, 1) := by decide +kernel
theorem dX12_oddOf_17 : decode cX12_oddOf 17 = .ok (.iload_n 3, 1) := by decide +kernel
theorem dX12_oddOf_18 : decode cX12_oddOf 18 = .ok (.invokevirtual 129, 3) := by decide +kernel
theorem dX12_oddOf_21 : decode cX12_oddOf 21 = .ok (.invokestatic 85, 3) := by decide +kernel
theorem dX12_oddOf_24 : decode cX12_oddOf 24 = .ok (.iconst 2, 1) := by decide +kernel
theorem dX12_oddOf_25 : decode cX12_oddOf 25 = .ok (.irem, 1) := by decide +kernel
theorem dX12_oddOf_26 : decode cX12_oddOf 26 = .ok (.iadd, 1) := by decide +kernel
theorem dX12_oddOf_27 : decode cX12_oddOf 27 = .ok (.istore_n 2, 1) := by decide +kernel
theorem dX12_oddOf_28 : decode cX12_oddOf 28 = .ok (.iload_n 3, 1) := by decide +kernel
theorem dX12_oddOf_29 : decode cX12_oddOf 29 = .ok (.aload_n 0, 1) := by decide +kernel
theorem dX12_oddOf_30 : decode cX12_oddOf 30 = .ok (.iload_n 3, 1) := by decide +kernel
theorem dX12_oddOf_31 : decode cX12_oddOf 31 = .ok (.invokevirtual 129, 3) := by decide +kernel
theorem dX12_oddOf_34 : decode cX12_oddOf 34 = .ok (.iconst (-1), 1) := by decide +kernel
theorem dX12_oddOf_35 : decode cX12_oddOf 35 = .ok (.ixor, 1) := by decide +kernel
theorem dX12_oddOf_36 : decode cX12_oddOf 36 = .ok (.iand, 1) := by decide +kernel
theorem dX12_oddOf_37 : decode cX12_oddOf 37 = .ok (.istore_n 3, 1) := by decide +kernel
theorem dX12_oddOf_38 : decode cX12_oddOf 38 = .ok (.goto (-27), 3) := by decide +kernel
set_option maxHeartbeats 4000000 in
set_option maxRecDepth 100000 in
theorem w_X12_oddOf (l : Launch) (D : va_G) (cI cS : ClassId) (b : Nat → Nat) (L v : SU) (hL : TyL L) (hV : TyV v) (x0 : Int32) (px0 : Rg 0 4095 x0) : Met l yX12_oddOf wsX12_oddOf ({ frames := 2, cells := 0, slots := 0, locals := 80 }) (PS D cI cS (wM cI b L v) [.ref (b 0), .int x0]) (vp_Si (fun r => Rg (-2147483648) 2147483647 r ∧ True)) 0 0 (fun _ => False) := by
  refine Met.ofW (cc := cX12_oddOf) (maxL := 4) (ret := (some .int)) (by decide) rfl ?_
  intro p e s m args below meth c s₁ B hml hv
  obtain ⟨rfl, hP, hKK⟩ := hv
  have hx := B.exec
  have hb := B.bytes
  have hr := B.returns
  have hts := atoms_spec (ws := wsX12_oddOf) B.pre
  have hown : s.vm.findClass RX12 = some m.cls := findClass_of_methodNamed B.named
  have hlocks := B.notSynchronized
  have hK := hKK.1
  have hl := lv_entry ([.ref (b 0), .int x0]) (n := 4) (Nat.le_of_ble_eq_true rfl)
  rw [lg_entry_eq]
  generalize (lg_sl ([.ref (b 0), .int x0]) ++ List.replicate (4 - (lg_sl ([.ref (b 0), .int x0])).length) Slot.unset).toArray = ls at hl ⊢
  have hl : lv_has ls 4 [(0, .ref (b 0)), (1, .int x0)] := hl
  have lp11 : ∀ (n11 : Nat) (y11_l2 y11_l3 : Int32) (ls : Array Slot), Rg 0 4095 y11_l3 → lv_has ls 4 [(0, .ref (b 0)), (2, .int y11_l2), (3, .int y11_l3)] → y11_l3.toInt < (n11 : Int) → W p l e (headSpec wsX12_oddOf ({ frames := 2, cells := 0, slots := 0, locals := 80 })).room s m ([.ref (b 0), .int x0]).toArray below meth c s.heap [] 0 0 (MQ below (vp_Si (fun r => Rg (-2147483648) 2147483647 r ∧ True)) ([.ref (b 0), .int x0]).toArray s 0 0 (fun _ => False)) (F0 m 11 ls []) := by
    intro n11
    induction n11 with
    | zero =>
      intro y11_l2 y11_l3 ls g11_l3 hl hm11
      exact absurd rfl (me_0 g11_l3 (by decide) hm11)
    | succ n11 ih11 =>
      intro y11_l2 y11_l3 ls g11_l3 hl hm11
      refine lv_iload_n hx hb dX12_oddOf_11 rfl (lv_at hl 2 rfl) ?_
      refine lv_if_eq (tgt := 41) hx hb dX12_oddOf_12 (by decide) (fun c5867 => ?_) (fun c5867 => ?_)
      · have g5868 : Rg 0 0 y11_l3 := wk_eql g11_l3 (by decide : Rg 0 0 (0 : Int32)) c5867 (by decide)
        refine lv_iload_n hx hb dX12_oddOf_41 rfl (lv_at hl 1 rfl) ?_
        exact W.iret (v := y11_l2) hx hb hr (fun t ht hW => ⟨_, rfl, ⟨(rg_any y11_l2), trivial⟩, ht⟩) (fun q hq => absurd hq List.not_mem_nil) dX12_oddOf_42
      · have g5869 : Rg 1 4095 y11_l3 := rg_ne_lo (k := 0) g11_l3 (by decide) c5867 (by decide)
        refine lv_iload_n hx hb dX12_oddOf_15 rfl (lv_at hl 1 rfl) ?_
        refine lv_aload_n hx hb dX12_oddOf_16 rfl (lv_at hl 0 rfl) ?_
        refine lv_iload_n hx hb dX12_oddOf_17 rfl (lv_at hl 2 rfl) ?_
        refine wk_sv 0 (As := [.int y11_l3]) (rest := [.int y11_l2]) ⟨hx, hb, hml, hown, hts⟩ (w_X12_pieceOf l D cI cS b L v hL hV y11_l3 g5869) hKK hP (ci := 12) rfl rfl (cwV 1 hts gX12_oddOf_X12_pieceOf rfl rfl rfl (by decide +kernel) ⟨Nat.le_of_ble_eq_true rfl, Nat.le_of_ble_eq_true rfl⟩) rfl hl.1 rfl (Nat.le_of_ble_eq_true rfl) dX12_oddOf_18 ⟨Nat.le_of_ble_eq_true rfl, Nat.le_of_ble_eq_true rfl⟩ (fun r5870 hr5870 => ?_)
        refine lz_ss (As := [.int r5870]) (rest := [.int y11_l2]) ⟨hx, hb, hml, hown, hts⟩ (w_X12_bits l D cI cS r5870) hKK (hP.sub (ws' := []) [] rfl) (va_cwS 1 hts gX12_oddOf_X12_bits rfl rfl rfl (by decide +kernel) ⟨Nat.le_of_ble_eq_true rfl, Nat.le_of_ble_eq_true rfl⟩) rfl hl.1 rfl (Nat.le_of_ble_eq_true rfl) dX12_oddOf_21 ⟨Nat.le_of_ble_eq_true rfl, Nat.le_of_ble_eq_true rfl⟩ (fun r5871 hr5871 => ?_)
        refine lv_iconst (v := 2) hx hb dX12_oddOf_24 (by decide) ?_
        refine lv_irem hx hb dX12_oddOf_25 (by decide) ?_
        refine wk_any (fun r5872 => ?_)
        refine lv_iadd hx hb dX12_oddOf_26 ?_
        refine wk_topP (P := fun r => r = y11_l2 + r5872) rfl (fun r5873 qr5873 => ?_)
        refine lv_istore_n (lv' := [(2, .int r5873), (0, .ref (b 0)), (3, .int y11_l3)]) hx hb dX12_oddOf_27 rfl hl (by decide) rfl (fun ls hl => ?_)
        refine lv_iload_n hx hb dX12_oddOf_28 rfl (lv_at hl 2 rfl) ?_
        refine lv_aload_n hx hb dX12_oddOf_29 rfl (lv_at hl 1 rfl) ?_
        refine lv_iload_n hx hb dX12_oddOf_30 rfl (lv_at hl 2 rfl) ?_
        refine wk_sv 0 (As := [.int y11_l3]) (rest := [.int y11_l3]) ⟨hx, hb, hml, hown, hts⟩ (w_X12_pieceOf l D cI cS b L v hL hV y11_l3 g5869) hKK hP (ci := 12) rfl rfl (cwV 1 hts gX12_oddOf_X12_pieceOf rfl rfl rfl (by decide +kernel) ⟨Nat.le_of_ble_eq_true rfl, Nat.le_of_ble_eq_true rfl⟩) rfl hl.1 rfl (Nat.le_of_ble_eq_true rfl) dX12_oddOf_31 ⟨Nat.le_of_ble_eq_true rfl, Nat.le_of_ble_eq_true rfl⟩ (fun r5874 hr5874 => ?_)
        refine lv_iconst (v := (-1)) hx hb dX12_oddOf_34 (by decide) ?_
        refine lv_ixor hx hb dX12_oddOf_35 ?_
        refine wk_topP (P := fun r => r = r5874 ^^^ ((-1) : Int32)) rfl (fun r5875 qr5875 => ?_)
        refine wk_iandl hx hb dX12_oddOf_36 g5869 (by decide) (fun r5876 hr5876 qr5876 => ?_)
        refine lv_istore_n (lv' := [(3, .int r5876), (2, .int r5873), (0, .ref (b 0))]) hx hb dX12_oddOf_37 rfl hl (by decide) rfl (fun ls hl => ?_)
        refine lv_goto (tgt := 11) hx hb dX12_oddOf_38 (by decide) ?_
        exact ih11 _ r5873 r5876 ls hr5876 (lv_sub (l' := [(0, .ref (b 0)), (2, .int r5873), (3, .int r5876)]) hl [2, 1, 0] rfl) (me_lt hm11 (by rw [qr5876, qr5875]; exact an_piece g5869 hr5874.2))
  refine lv_iconst (v := 0) hx hb dX12_oddOf_0 (by decide) ?_
  refine lv_istore_n (lv' := [(2, .int 0), (0, .ref (b 0)), (1, .int x0)]) hx hb dX12_oddOf_1 rfl hl (by decide) rfl (fun ls hl => ?_)
  refine lv_aload_n hx hb dX12_oddOf_2 rfl (lv_at hl 1 rfl) ?_
  refine wk_sv 0 (As := []) (rest := []) ⟨hx, hb, hml, hown, hts⟩ (w_X12_all l D cI cS b L v hL hV) hKK hP (ci := 12) rfl rfl (cwV 0 hts gX12_oddOf_X12_all rfl rfl rfl (by decide +kernel) ⟨Nat.le_of_ble_eq_true rfl, Nat.le_of_ble_eq_true rfl⟩) rfl hl.1 rfl (Nat.le_of_ble_eq_true rfl) dX12_oddOf_3 ⟨Nat.le_of_ble_eq_true rfl, Nat.le_of_ble_eq_true rfl⟩ (fun r5877 hr5877 => ?_)
  refine lv_iload_n hx hb dX12_oddOf_6 rfl (lv_at hl 2 rfl) ?_
  refine lv_iconst (v := (-1)) hx hb dX12_oddOf_7 (by decide) ?_
  refine lv_ixor hx hb dX12_oddOf_8 ?_
  refine wk_topP (P := fun r => r = x0 ^^^ ((-1) : Int32)) rfl (fun r5878 qr5878 => ?_)
  refine wk_iandl hx hb dX12_oddOf_9 hr5877.1 (by decide) (fun r5879 hr5879 qr5879 => ?_)
  refine lv_istore_n (lv' := [(3, .int r5879), (2, .int 0), (0, .ref (b 0)), (1, .int x0)]) hx hb dX12_oddOf_10 rfl hl (by decide) rfl (fun ls hl => ?_)
  exact lp11 4096 (0 : Int32) r5879 ls hr5879 (lv_sub (l' := [(0, .ref (b 0)), (2, .int 0), (3, .int r5879)]) hl [2, 1, 0] rfl) (me_k hr5879 (by decide))
set_option maxHeartbeats 4000000 in
set_option maxRecDepth 100000 in
theorem w_X12_odd (l : Launch) (D : va_G) (cI cS : ClassId) (b : Nat → Nat) (L v : SU) (hL : TyL L) (hV : TyV v) (x0 : Int32) : Met l yX12_odd wsX12_odd ({ frames := 3, cells := 0, slots := 0, locals := 120 }) (PS D cI cS (wM cI b L v) [.ref (b 0), .int x0]) (vp_Si (fun r => Rg (-2147483648) 2147483647 r ∧ True)) 0 0 (fun _ => False) := by
  refine Met.ofW (cc := cX12_odd) (maxL := 2) (ret := (some .int)) (by decide) rfl ?_
  intro p e s m args below meth c s₁ B hml hv
  obtain ⟨rfl, hP, hKK⟩ := hv
  have hx := B.exec
  have hb := B.bytes
  have hr := B.returns
  have hts := atoms_spec (ws := wsX12_odd) B.pre
  have hown : s.vm.findClass RX12 = some m.cls := findClass_of_methodNamed B.named
  have hlocks := B.notSynchronized
  have hK := hKK.1
  have hl := lv_entry ([.ref (b 0), .int x0]) (n := 2) (Nat.le_of_ble_eq_true rfl)
  rw [lg_entry_eq]
  generalize (lg_sl ([.ref (b 0), .int x0]) ++ List.replicate (2 - (lg_sl ([.ref (b 0), .int x0])).length) Slot.unset).toArray = ls at hl ⊢
  have hl : lv_has ls 2 [(0, .ref (b 0)), (1, .int x0)] := hl
  refine lv_aload_n hx hb dX12_odd_0 rfl (lv_at hl 0 rfl) ?_
  refine lv_iload_n hx hb dX12_odd_1 rfl (lv_at hl 1 rfl) ?_
  refine wk_sv 0 (As := [.int x0]) (rest := []) ⟨hx, hb, hml, hown, hts⟩ (w_X12_isSet l D cI cS b L v hL hV x0) hKK hP (ci := 12) rfl rfl (cwV 1 hts gX12_odd_X12_isSet rfl rfl rfl (by decide +kernel) ⟨Nat.le_of_ble_eq_true rfl, Nat.le_of_ble_eq_true rfl⟩) rfl hl.1 rfl (Nat.le_of_ble_eq_true rfl) dX12_odd_2 ⟨Nat.le_of_ble_eq_true rfl, Nat.le_of_ble_eq_true rfl⟩ (fun r5886 hr5886 => ?_)
  refine lv_if_eq (tgt := 16) hx hb dX12_odd_5 (by decide) (fun c5887 => ?_) (fun c5887 => ?_)
  · have g5888 : Rg 0 0 r5886 := wk_eql hr5886.1 (by decide : Rg 0 0 (0 : Int32)) c5887 (by decide)
    refine lv_bipush (v := (-2)) hx hb dX12_odd_16 (by decide) ?_
    exact W.iret (v := (-2)) hx hb hr (fun t ht hW => ⟨_, rfl, ⟨(by decide : Rg (-2147483648) 2147483647 ((-2) : Int32)), trivial⟩, ht⟩) (fun q hq => absurd hq List.not_mem_nil) dX12_odd_18
  · have g5889 : Rg 0 4095 x0 := (hr5886.2 c5887)
    have g5890 : Rg 1 1 r5886 := rg_ne_lo (k := 0) hr5886.1 (by decide) c5887 (by decide)
    refine lv_aload_n hx hb dX12_odd_8 rfl (lv_at hl 0 rfl) ?_
    refine lv_iload_n hx hb dX12_odd_9 rfl (lv_at hl 1 rfl) ?_
    refine wk_sv 0 (As := [.int x0]) (rest := []) ⟨hx, hb, hml, hown, hts⟩ (w_X12_oddOf l D cI cS b L v hL hV x0 g5889) hKK hP (ci := 12) rfl rfl (cwV 1 hts gX12_odd_X12_oddOf rfl rfl rfl (by decide +kernel) ⟨Nat.le_of_ble_eq_true rfl, Nat.le_of_ble_eq_true rfl⟩) rfl hl.1 rfl (Nat.le_of_ble_eq_true rfl) dX12_odd_10 ⟨Nat.le_of_ble_eq_true rfl, Nat.le_of_ble_eq_true rfl⟩ (fun r5891 hr5891 => ?_)
    refine lv_goto (tgt := 18) hx hb dX12_odd_13 (by decide) ?_
    exact W.iret (v := r5891) hx hb hr (fun t ht hW => ⟨_, rfl, ⟨hr5891.1, trivial⟩, ht⟩) (fun q hq => absurd hq List.not_mem_nil) dX12_odd_18
theorem dX12_barrier_34 : decode cX12_barrier 34 = .ok (.iconst 0, 1) := by decide +kernel
set_option maxHeartbeats 4000000 in
set_option maxRecDepth 100000 in
theorem w_X12_barrier (l : Launch) (D : va_G) (cI cS : ClassId) (sz : Nat) (b : Nat → Nat) (L v : SU) (hL : TyL L) (hV : TyV v) (x0 : Int32) : Met l yX12_barrier wsX12_barrier ({ frames := 5, cells := 0, slots := 0, locals := 200 }) (PQ D cI cS (wM cI b L v) sz [.ref (b 0), .int x0]) (QF (S := SU) D (wM cI b L v) (wM cI b L) sz (fun r u => TyV u ∧ Rg (-2) 1 r ∧ (r = 0 → Rg 0 4095 x0))) 0 0 (va_A (wM cI b L v) sz) := by
  refine Met.ofW (cc := cX12_barrier) (maxL := 2) (ret := (some .int)) (by decide) rfl ?_
  intro p e s m args below meth c s₁ B hml hv
  obtain ⟨rfl, hsz, hP, hKK, hD0⟩ := hv
  have hx := B.exec
  have hb := B.bytes
  have hr := B.returns
  have hts := atoms_spec (ws := wsX12_barrier) B.pre
  have hown : s.vm.findClass RX12 = some m.cls := findClass_of_methodNamed B.named
  have hlocks := B.notSynchronized
  have hK := hKK.1
  subst hsz
  have hD := hD0.self (sz := s.heap.size)
  obtain ⟨A, hAe⟩ : ∃ A, A = va_A (wM cI b L v) s.heap.size := ⟨_, rfl⟩
  rw [← hAe] at hD
  have hA : ∀ q : Nat, s.heap.size ≤ q → A q := fun q h => by rw [hAe]; exact Or.inr h
  have hS : va_S A s.heap s.heap [] := va_S.rf
  have hl := lv_entry ([.ref (b 0), .int x0]) (n := 2) (Nat.le_of_ble_eq_true rfl)
  rw [lg_entry_eq]
  generalize (lg_sl ([.ref (b 0), .int x0]) ++ List.replicate (2 - (lg_sl ([.ref (b 0), .int x0])).length) Slot.unset).toArray = ls at hl ⊢
  have hl : lv_has ls 2 [(0, .ref (b 0)), (1, .int x0)] := hl
  refine lv_aload_n hx hb dX12_barrier_0 rfl (lv_at hl 0 rfl) ?_
  refine lv_iload_n hx hb dX12_barrier_1 rfl (lv_at hl 1 rfl) ?_
  refine wk_sv 0 (As := [.int x0]) (rest := []) ⟨hx, hb, hml, hown, hts⟩ (w_X12_isSet l D cI cS b L v hL hV x0) hKK hP (ci := 12) rfl rfl (cwV 1 hts gX12_barrier_X12_isSet rfl rfl rfl (by decide +kernel) ⟨Nat.le_of_ble_eq_true rfl, Nat.le_of_ble_eq_true rfl⟩) rfl hl.1 rfl (Nat.le_of_ble_eq_true rfl) dX12_barrier_2 ⟨Nat.le_of_ble_eq_true rfl, Nat.le_of_ble_eq_true rfl⟩ (fun r5902 hr5902 => ?_)
  refine lv_if_ne (tgt := 13) hx hb dX12_barrier_5 (by decide) (fun c5903 => ?_) (fun c5903 => ?_)
  · have g5904 : Rg 0 4095 x0 := (hr5902.2 c5903)
    have g5905 : Rg 1 1 r5902 := rg_ne_lo (k := 0) hr5902.1 (by decide) c5903 (by decide)
    refine lv_aload_n hx hb dX12_barrier_13 rfl (lv_at hl 0 rfl) ?_
    refine lv_iload_n hx hb dX12_barrier_14 rfl (lv_at hl 1 rfl) ?_
    refine wk_sv 0 (As := [.int x0]) (rest := []) ⟨hx, hb, hml, hown, hts⟩ (w_X12_oddOf l D cI cS b L v hL hV x0 g5904) hKK hP (ci := 12) rfl rfl (cwV 1 hts gX12_barrier_X12_oddOf rfl rfl rfl (by decide +kernel) ⟨Nat.le_of_ble_eq_true rfl, Nat.le_of_ble_eq_true rfl⟩) rfl hl.1 rfl (Nat.le_of_ble_eq_true rfl) dX12_barrier_15 ⟨Nat.le_of_ble_eq_true rfl, Nat.le_of_ble_eq_true rfl⟩ (fun r5906 hr5906 => ?_)
    refine lv_iload_n hx hb dX12_barrier_18 rfl (lv_at hl 1 rfl) ?_
    refine lz_ss (As := [.int x0]) (rest := [.int r5906]) ⟨hx, hb, hml, hown, hts⟩ (w_X12_bits l D cI cS x0) hKK (hP.sub (ws' := []) [] rfl) (va_cwS 1 hts gX12_barrier_X12_bits rfl rfl rfl (by decide +kernel) ⟨Nat.le_of_ble_eq_true rfl, Nat.le_of_ble_eq_true rfl⟩) rfl hl.1 rfl (Nat.le_of_ble_eq_true rfl) dX12_barrier_19 ⟨Nat.le_of_ble_eq_true rfl, Nat.le_of_ble_eq_true rfl⟩ (fun r5907 hr5907 => ?_)
    refine lv_isub hx hb dX12_barrier_22 ?_
    refine wk_topP (P := fun r => r = r5906 - r5907) rfl (fun r5908 qr5908 => ?_)
    refine lv_aload_n hx hb dX12_barrier_23 rfl (lv_at hl 0 rfl) ?_
    refine wk_qi (wM cI b L) v (As := []) (rest := [.int r5908]) ⟨hx, hb, hml, hown, hts⟩ (w_X12_lack l D cI cS _ b L v hL hV) hKK hP hD hS hA 0 (ci := 12) rfl rfl (cwV 0 hts gX12_barrier_X12_lack rfl rfl rfl (by decide +kernel) ⟨Nat.le_of_ble_eq_true rfl, Nat.le_of_ble_eq_true rfl⟩) rfl hl.1 rfl (Nat.le_of_ble_eq_true rfl) dX12_barrier_24 ⟨Nat.le_of_ble_eq_true rfl, Nat.le_of_ble_eq_true rfl⟩ (fun r5909 v H locs hr5909 hP hD hS => ?_)
    have hV := hr5909.1
    refine lv_icmp_ne (tgt := 34) hx hb dX12_barrier_27 (by decide) (fun c5910 => ?_) (fun c5910 => ?_)
    · refine lv_iconst (v := 0) hx hb dX12_barrier_34 (by decide) ?_
      subst hAe
      exact W.iret (v := 0) hx hb hr (fun t ht hW => ⟨⟨_, v, rfl, ⟨hV, (by decide : Rg (-2) 1 (0 : Int32)), fun _ => g5904⟩, by rw [ht]; exact hP, hD⟩, hS.F ht⟩) hS.2.2 dX12_barrier_35
    · refine lv_iconst (v := 1) hx hb dX12_barrier_30 (by decide) ?_
      refine lv_goto (tgt := 35) hx hb dX12_barrier_31 (by decide) ?_
      subst hAe
      exact W.iret (v := 1) hx hb hr (fun t ht hW => ⟨⟨_, v, rfl, ⟨hV, (by decide : Rg (-2) 1 (1 : Int32)), fun h9 => absurd h9 (by decide)⟩, by rw [ht]; exact hP, hD⟩, hS.F ht⟩) hS.2.2 dX12_barrier_35
  · have g5911 : Rg 0 0 r5902 := wk_eql hr5902.1 (by decide : Rg 0 0 (0 : Int32)) c5903 (by decide)
    refine lv_bipush (v := (-2)) hx hb dX12_barrier_8 (by decide) ?_
    refine lv_goto (tgt := 35) hx hb dX12_barrier_10 (by decide) ?_
    subst hAe
    exact W.iret (v := (-2)) hx hb hr (fun t ht hW => ⟨⟨_, v, rfl, ⟨hV, (by decide : Rg (-2) 1 ((-2) : Int32)), fun h9 => absurd h9 (by decide)⟩, by rw [ht]; exact hP, hD⟩, hS.F ht⟩) hS.2.2 dX12_barrier_35
theorem dX12_barriers_56 : decode cX12_barriers 56 = .ok (.goto 41, 3) := by decide +kernel
theorem dX12_barriers_68 : decode cX12_barriers 68 = .ok (.iload 6, 2) := by decide +kernel
theorem dX12_barriers_70 : decode cX12_barriers 70 = .ok (.invokestatic 85, 3) := by decide +kernel
theorem dX12_barriers_73 : decode cX12_barriers 73 = .ok (.iload 4, 2) := by decide +kernel
theorem dX12_barriers_75 : decode cX12_barriers 75 = .ok (.invokestatic 85, 3) := by decide +kernel
theorem dX12_barriers_78 : decode cX12_barriers 78 = .ok (.if_icmp .le 8, 3) := by decide +kernel
theorem dX12_barriers_86 : decode cX12_barriers 86 = .ok (.iload 4, 2) := by decide +kernel
set_option maxHeartbeats 4000000 in
set_option maxRecDepth 100000 in
theorem w_X12_barriers (l : Launch) (D : va_G) (cI cS : ClassId) (sz : Nat) (b : Nat → Nat) (L v : SU) (hL : TyL L) (hV : TyV v) (x0 : Int32) : Met l yX12_barriers wsX12_barriers ({ frames := 5, cells := 0, slots := 0, locals := 200 }) (PQ D cI cS (wM cI b L v) sz [.ref (b 0), .int x0]) (QF (S := SU) D (wM cI b L v) (wM cI b L) sz (fun r u => TyV u ∧ Rg (-2147483648) 2147483647 r ∧ True)) 0 0 (va_A (wM cI b L v) sz) := by
  refine Met.ofW (cc := cX12_barriers) (maxL := 7) (ret := (some .int)) (by decide) rfl ?_
  intro p e s m args below meth c s₁ B hml hv
  obtain ⟨rfl, hsz, hP, hKK, hD0⟩ := hv
  have hx := B.exec
  have hb := B.bytes
  have hr := B.returns
  have hts := atoms_spec (ws := wsX12_barriers) B.pre
  have hown : s.vm.findClass RX12 = some m.cls := findClass_of_methodNamed B.named
  have hlocks := B.notSynchronized
  have hK := hKK.1
  subst hsz
  have hD := hD0.self (sz := s.heap.size)
  obtain ⟨A, hAe⟩ : ∃ A, A = va_A (wM cI b L v) s.heap.size := ⟨_, rfl⟩
  rw [← hAe] at hD
  have hA : ∀ q : Nat, s.heap.size ≤ q → A q := fun q h => by rw [hAe]; exact Or.inr h
  have hS : va_S A s.heap s.heap [] := va_S.rf
  have hl := lv_entry ([.ref (b 0), .int x0]) (n := 7) (Nat.le_of_ble_eq_true rfl)
  rw [lg_entry_eq]
  generalize (lg_sl ([.ref (b 0), .int x0]) ++ List.replicate (7 - (lg_sl ([.ref (b 0), .int x0])).length) Slot.unset).toArray = ls at hl ⊢
  have hl : lv_has ls 7 [(0, .ref (b 0)), (1, .int x0)] := hl
  have lp31 : ∀ (n31 : Nat) (y31_l2 y31_l3 y31_l4 y31_l5 y31_l6 : Int32) (v : SU) (H : Heap) (locs : List Loc) (ls : Array Slot), Rg 0 2 x0 → Rg (-1) 4095 y31_l4 → Rg 0 4095 y31_l5 → Rg 0 4096 y31_l6 → TyV v → va_P D cls (wM cI b L v) H → va_D A (wM cI b L v) → va_S A s.heap H locs → lv_has ls 7 [(0, .ref (b 0)), (1, .int x0), (2, .int y31_l2), (3, .int y31_l3), (4, .int y31_l4), (5, .int y31_l5), (6, .int y31_l6)] → 4096 - y31_l6.toInt < (n31 : Int) → W p l e (headSpec wsX12_barriers ({ frames := 5, cells := 0, slots := 0, locals := 200 })).room s m ([.ref (b 0), .int x0]).toArray below meth c H locs 0 0 (MQ below (QF (S := SU) D (wM cI b L v) (wM cI b L) s.heap.size (fun r u => TyV u ∧ Rg (-2147483648) 2147483647 r ∧ True)) ([.ref (b 0), .int x0]).toArray s 0 0 (va_A (wM cI b L v) s.heap.size)) (F0 m 31 ls []) := by
    intro n31
    induction n31 with
    | zero =>
      intro y31_l2 y31_l3 y31_l4 y31_l5 y31_l6 v H locs ls g31_l1 g31_l4 g31_l5 g31_l6 hV hP hD hS hl hm31
      exact absurd rfl (me_z g31_l6 hm31)
    | succ n31 ih31 =>
      intro y31_l2 y31_l3 y31_l4 y31_l5 y31_l6 v H locs ls g31_l1 g31_l4 g31_l5 g31_l6 hV hP hD hS hl hm31
      refine lv_iload hx hb dX12_barriers_31 (lv_at hl 6 rfl) ?_
      refine lv_aload_n hx hb dX12_barriers_33 rfl (lv_at hl 0 rfl) ?_
      refine wk_sv 0 (As := []) (rest := [.int y31_l6]) ⟨hx, hb, hml, hown, hts⟩ (w_X12_all l D cI cS b L v hL hV) hKK hP (ci := 12) rfl rfl (cwV 0 hts gX12_barriers_X12_all rfl rfl rfl (by decide +kernel) ⟨Nat.le_of_ble_eq_true rfl, Nat.le_of_ble_eq_true rfl⟩) rfl hl.1 rfl (Nat.le_of_ble_eq_true rfl) dX12_barriers_34 ⟨Nat.le_of_ble_eq_true rfl, Nat.le_of_ble_eq_true rfl⟩ (fun r6840 hr6840 => ?_)
      refine lv_icmp_gt (tgt := 103) hx hb dX12_barriers_37 (by decide) (fun c6841 => ?_) (fun c6841 => ?_)
      · have g6842 : Rg 1 4096 y31_l6 := rg_ltr hr6840.1 g31_l6 c6841 (by decide)
        refine lv_iload_n hx hb dX12_barriers_103 rfl (lv_at hl 1 rfl) ?_
        refine lv_if_ne (tgt := 111) hx hb dX12_barriers_104 (by decide) (fun c6843 => ?_) (fun c6843 => ?_)
        · have g6844 : Rg 1 2 x0 := rg_ne_lo (k := 0) g31_l1 (by decide) c6843 (by decide)
          refine lv_iload_n hx hb dX12_barriers_111 rfl (lv_at hl 1 rfl) ?_
          refine lv_iconst (v := 1) hx hb dX12_barriers_112 (by decide) ?_
          refine lv_icmp_ne (tgt := 121) hx hb dX12_barriers_113 (by decide) (fun c6845 => ?_) (fun c6845 => ?_)
          · have g6846 : Rg 2 2 x0 := rg_ne_lo (k := 1) g6844 (by decide) c6845 (by decide)
            refine lv_iload hx hb dX12_barriers_121 (lv_at hl 5 rfl) ?_
            subst hAe
            exact W.iret (v := y31_l5) hx hb hr (fun t ht hW => ⟨⟨_, v, rfl, ⟨hV, (rg_any y31_l5), trivial⟩, by rw [ht]; exact hP, hD⟩, hS.F ht⟩) hS.2.2 dX12_barriers_123
          · have g6847 : Rg 1 1 x0 := wk_eql g6844 (by decide : Rg 1 1 (1 : Int32)) c6845 (by decide)
            refine lv_iload hx hb dX12_barriers_116 (lv_at hl 4 rfl) ?_
            refine lv_goto (tgt := 123) hx hb dX12_barriers_118 (by decide) ?_
            subst hAe
            exact W.iret (v := y31_l4) hx hb hr (fun t ht hW => ⟨⟨_, v, rfl, ⟨hV, (rg_any y31_l4), trivial⟩, by rw [ht]; exact hP, hD⟩, hS.F ht⟩) hS.2.2 dX12_barriers_123
        · have g6848 : Rg 0 0 x0 := wk_eql g31_l1 (by decide : Rg 0 0 (0 : Int32)) c6843 (by decide)
          refine lv_iload_n hx hb dX12_barriers_107 rfl (lv_at hl 3 rfl) ?_
          refine lv_goto (tgt := 123) hx hb dX12_barriers_108 (by decide) ?_
          subst hAe
          exact W.iret (v := y31_l3) hx hb hr (fun t ht hW => ⟨⟨_, v, rfl, ⟨hV, (rg_any y31_l3), trivial⟩, by rw [ht]; exact hP, hD⟩, hS.F ht⟩) hS.2.2 dX12_barriers_123
      · have g6849 : Rg 0 4095 y31_l6 := rg_lel g31_l6 hr6840.1 (rg_nlt c6841) (by decide)
        refine lv_aload_n hx hb dX12_barriers_40 rfl (lv_at hl 0 rfl) ?_
        refine lv_iload hx hb dX12_barriers_41 (lv_at hl 6 rfl) ?_
        refine wk_sv 0 (As := [.int y31_l6]) (rest := []) ⟨hx, hb, hml, hown, hts⟩ (w_X12_oddOf l D cI cS b L v hL hV y31_l6 g6849) hKK hP (ci := 12) rfl rfl (cwV 1 hts gX12_barriers_X12_oddOf rfl rfl rfl (by decide +kernel) ⟨Nat.le_of_ble_eq_true rfl, Nat.le_of_ble_eq_true rfl⟩) rfl hl.1 rfl (Nat.le_of_ble_eq_true rfl) dX12_barriers_43 ⟨Nat.le_of_ble_eq_true rfl, Nat.le_of_ble_eq_true rfl⟩ (fun r6850 hr6850 => ?_)
        refine lv_iload hx hb dX12_barriers_46 (lv_at hl 6 rfl) ?_
        refine lz_ss (As := [.int y31_l6]) (rest := [.int r6850]) ⟨hx, hb, hml, hown, hts⟩ (w_X12_bits l D cI cS y31_l6) hKK (hP.sub (ws' := []) [] rfl) (va_cwS 1 hts gX12_barriers_X12_bits rfl rfl rfl (by decide +kernel) ⟨Nat.le_of_ble_eq_true rfl, Nat.le_of_ble_eq_true rfl⟩) rfl hl.1 rfl (Nat.le_of_ble_eq_true rfl) dX12_barriers_48 ⟨Nat.le_of_ble_eq_true rfl, Nat.le_of_ble_eq_true rfl⟩ (fun r6851 hr6851 => ?_)
        refine lv_isub hx hb dX12_barriers_51 ?_
        refine wk_topP (P := fun r => r = r6850 - r6851) rfl (fun r6852 qr6852 => ?_)
        refine lv_iload_n hx hb dX12_barriers_52 rfl (lv_at hl 2 rfl) ?_
        refine lv_icmp_eq (tgt := 59) hx hb dX12_barriers_53 (by decide) (fun c6853 => ?_) (fun c6853 => ?_)
        · refine wk_iincA (lv' := fun r => [(3, .int r), (0, .ref (b 0)), (1, .int x0), (2, .int y31_l2), (4, .int y31_l4), (5, .int y31_l5), (6, .int y31_l6)]) hx hb dX12_barriers_59 hl (k := 3) rfl (by decide) (fun _ => rfl) (fun r6854 ls hl => ?_)
          refine lv_iload hx hb dX12_barriers_62 (lv_at hl 4 rfl) ?_
          refine lv_iconst (v := (-1)) hx hb dX12_barriers_64 (by decide) ?_
          refine lv_icmp_eq (tgt := 81) hx hb dX12_barriers_65 (by decide) (fun c6855 => ?_) (fun c6855 => ?_)
          · have g6856 : Rg (-1) (-1) y31_l4 := wk_eql g31_l4 (by decide : Rg (-1) (-1) ((-1) : Int32)) c6855 (by decide)
            refine lv_iload hx hb dX12_barriers_81 (lv_at hl 6 rfl) ?_
            refine lv_goto (tgt := 88) hx hb dX12_barriers_83 (by decide) ?_
            refine lv_istore (lv' := [(4, .int y31_l6), (3, .int r6854), (0, .ref (b 0)), (1, .int x0), (2, .int y31_l2), (5, .int y31_l5), (6, .int y31_l6)]) hx hb dX12_barriers_88 hl (by decide) rfl (fun ls hl => ?_)
            refine lv_iload hx hb dX12_barriers_90 (lv_at hl 5 rfl) ?_
            refine lv_iload hx hb dX12_barriers_92 (lv_at hl 6 rfl) ?_
            refine wk_iandl hx hb dX12_barriers_94 g31_l5 (by decide) (fun r6857 hr6857 qr6857 => ?_)
            refine lv_istore (lv' := [(5, .int r6857), (4, .int y31_l6), (3, .int r6854), (0, .ref (b 0)), (1, .int x0), (2, .int y31_l2), (6, .int y31_l6)]) hx hb dX12_barriers_95 hl (by decide) rfl (fun ls hl => ?_)
            refine wk_iinc (lv' := fun r => [(6, .int r), (5, .int r6857), (4, .int y31_l6), (3, .int r6854), (0, .ref (b 0)), (1, .int x0), (2, .int y31_l2)]) (e := 1) (f := 4096) hx hb dX12_barriers_97 hl (k := 6) rfl (by decide) g6849 (by decide) (fun _ => rfl) (fun r6858 ls hr6858 er6858 hl => ?_)
            refine lv_goto (tgt := 31) hx hb dX12_barriers_100 (by decide) ?_
            exact ih31 _ y31_l2 r6854 y31_l6 r6857 r6858 v _ _ ls g31_l1 (rg_w g6849 (by decide) (by decide)) hr6857 (rg_w hr6858 (by decide) (by decide)) hV hP hD hS (lv_sub (l' := [(0, .ref (b 0)), (1, .int x0), (2, .int y31_l2), (3, .int r6854), (4, .int y31_l6), (5, .int r6857), (6, .int r6858)]) hl [4, 5, 6, 3, 2, 1, 0] rfl) (me_up hm31 er6858 (by decide))
          · have g6859 : Rg 0 4095 y31_l4 := rg_ne_lo (k := (-1)) g31_l4 (by decide) c6855 (by decide)
            refine lv_iload hx hb dX12_barriers_68 (lv_at hl 6 rfl) ?_
            refine lz_ss (As := [.int y31_l6]) (rest := []) ⟨hx, hb, hml, hown, hts⟩ (w_X12_bits l D cI cS y31_l6) hKK (hP.sub (ws' := []) [] rfl) (va_cwS 1 hts gX12_barriers_X12_bits rfl rfl rfl (by decide +kernel) ⟨Nat.le_of_ble_eq_true rfl, Nat.le_of_ble_eq_true rfl⟩) rfl hl.1 rfl (Nat.le_of_ble_eq_true rfl) dX12_barriers_70 ⟨Nat.le_of_ble_eq_true rfl, Nat.le_of_ble_eq_true rfl⟩ (fun r6860 hr6860 => ?_)
            refine lv_iload hx hb dX12_barriers_73 (lv_at hl 4 rfl) ?_
            refine lz_ss (As := [.int y31_l4]) (rest := [.int r6860]) ⟨hx, hb, hml, hown, hts⟩ (w_X12_bits l D cI cS y31_l4) hKK (hP.sub (ws' := []) [] rfl) (va_cwS 1 hts gX12_barriers_X12_bits rfl rfl rfl (by decide +kernel) ⟨Nat.le_of_ble_eq_true rfl, Nat.le_of_ble_eq_true rfl⟩) rfl hl.1 rfl (Nat.le_of_ble_eq_true rfl) dX12_barriers_75 ⟨Nat.le_of_ble_eq_true rfl, Nat.le_of_ble_eq_true rfl⟩ (fun r6861 hr6861 => ?_)
            refine lv_icmp_le (tgt := 86) hx hb dX12_barriers_78 (by decide) (fun c6862 => ?_) (fun c6862 => ?_)
            · refine lv_iload hx hb dX12_barriers_86 (lv_at hl 4 rfl) ?_
              refine lv_istore (lv' := [(4, .int y31_l4), (3, .int r6854), (0, .ref (b 0)), (1, .int x0), (2, .int y31_l2), (5, .int y31_l5), (6, .int y31_l6)]) hx hb dX12_barriers_88 hl (by decide) rfl (fun ls hl => ?_)
              refine lv_iload hx hb dX12_barriers_90 (lv_at hl 5 rfl) ?_
              refine lv_iload hx hb dX12_barriers_92 (lv_at hl 6 rfl) ?_
              refine wk_iandl hx hb dX12_barriers_94 g31_l5 (by decide) (fun r6863 hr6863 qr6863 => ?_)
              refine lv_istore (lv' := [(5, .int r6863), (4, .int y31_l4), (3, .int r6854), (0, .ref (b 0)), (1, .int x0), (2, .int y31_l2), (6, .int y31_l6)]) hx hb dX12_barriers_95 hl (by decide) rfl (fun ls hl => ?_)
              refine wk_iinc (lv' := fun r => [(6, .int r), (5, .int r6863), (4, .int y31_l4), (3, .int r6854), (0, .ref (b 0)), (1, .int x0), (2, .int y31_l2)]) (e := 1) (f := 4096) hx hb dX12_barriers_97 hl (k := 6) rfl (by decide) g6849 (by decide) (fun _ => rfl) (fun r6864 ls hr6864 er6864 hl => ?_)
              refine lv_goto (tgt := 31) hx hb dX12_barriers_100 (by decide) ?_
              exact ih31 _ y31_l2 r6854 y31_l4 r6863 r6864 v _ _ ls g31_l1 (rg_w g6859 (by decide) (by decide)) hr6863 (rg_w hr6864 (by decide) (by decide)) hV hP hD hS (lv_sub (l' := [(0, .ref (b 0)), (1, .int x0), (2, .int y31_l2), (3, .int r6854), (4, .int y31_l4), (5, .int r6863), (6, .int r6864)]) hl [4, 5, 6, 3, 2, 1, 0] rfl) (me_up hm31 er6864 (by decide))
            · refine lv_iload hx hb dX12_barriers_81 (lv_at hl 6 rfl) ?_
              refine lv_goto (tgt := 88) hx hb dX12_barriers_83 (by decide) ?_
              refine lv_istore (lv' := [(4, .int y31_l6), (3, .int r6854), (0, .ref (b 0)), (1, .int x0), (2, .int y31_l2), (5, .int y31_l5), (6, .int y31_l6)]) hx hb dX12_barriers_88 hl (by decide) rfl (fun ls hl => ?_)
              refine lv_iload hx hb dX12_barriers_90 (lv_at hl 5 rfl) ?_
              refine lv_iload hx hb dX12_barriers_92 (lv_at hl 6 rfl) ?_
              refine wk_iandl hx hb dX12_barriers_94 g31_l5 (by decide) (fun r6865 hr6865 qr6865 => ?_)
              refine lv_istore (lv' := [(5, .int r6865), (4, .int y31_l6), (3, .int r6854), (0, .ref (b 0)), (1, .int x0), (2, .int y31_l2), (6, .int y31_l6)]) hx hb dX12_barriers_95 hl (by decide) rfl (fun ls hl => ?_)
              refine wk_iinc (lv' := fun r => [(6, .int r), (5, .int r6865), (4, .int y31_l6), (3, .int r6854), (0, .ref (b 0)), (1, .int x0), (2, .int y31_l2)]) (e := 1) (f := 4096) hx hb dX12_barriers_97 hl (k := 6) rfl (by decide) g6849 (by decide) (fun _ => rfl) (fun r6866 ls hr6866 er6866 hl => ?_)
              refine lv_goto (tgt := 31) hx hb dX12_barriers_100 (by decide) ?_
              exact ih31 _ y31_l2 r6854 y31_l6 r6865 r6866 v _ _ ls g31_l1 (rg_w g6849 (by decide) (by decide)) hr6865 (rg_w hr6866 (by decide) (by decide)) hV hP hD hS (lv_sub (l' := [(0, .ref (b 0)), (1, .int x0), (2, .int y31_l2), (3, .int r6854), (4, .int y31_l6), (5, .int r6865), (6, .int r6866)]) hl [4, 5, 6, 3, 2, 1, 0] rfl) (me_up hm31 er6866 (by decide))
        · refine lv_goto (tgt := 97) hx hb dX12_barriers_56 (by decide) ?_
          refine wk_iinc (lv' := fun r => [(6, .int r), (0, .ref (b 0)), (1, .int x0), (2, .int y31_l2), (3, .int y31_l3), (4, .int y31_l4), (5, .int y31_l5)]) (e := 1) (f := 4096) hx hb dX12_barriers_97 hl (k := 6) rfl (by decide) g6849 (by decide) (fun _ => rfl) (fun r6867 ls hr6867 er6867 hl => ?_)
          refine lv_goto (tgt := 31) hx hb dX12_barriers_100 (by decide) ?_
          exact ih31 _ y31_l2 y31_l3 y31_l4 y31_l5 r6867 v _ _ ls g31_l1 g31_l4 g31_l5 (rg_w hr6867 (by decide) (by decide)) hV hP hD hS (lv_sub (l' := [(0, .ref (b 0)), (1, .int x0), (2, .int y31_l2), (3, .int y31_l3), (4, .int y31_l4), (5, .int y31_l5), (6, .int r6867)]) hl [1, 2, 3, 4, 5, 6, 0] rfl) (me_up hm31 er6867 (by decide))
  refine lv_iload_n hx hb dX12_barriers_0 rfl (lv_at hl 1 rfl) ?_
  refine lv_iconst (v := 0) hx hb dX12_barriers_1 (by decide) ?_
  refine lv_iconst (v := 2) hx hb dX12_barriers_2 (by decide) ?_
  refine lz_ss (As := [.int x0, .int 0, .int 2]) (rest := []) ⟨hx, hb, hml, hown, hts⟩ (w_X12_in l D cI cS x0 (0 : Int32) (2 : Int32)) hKK (hP.sub (ws' := []) [] rfl) (va_cwS 3 hts gX12_barriers_X12_in rfl rfl rfl (by decide +kernel) ⟨Nat.le_of_ble_eq_true rfl, Nat.le_of_ble_eq_true rfl⟩) rfl hl.1 rfl (Nat.le_of_ble_eq_true rfl) dX12_barriers_3 ⟨Nat.le_of_ble_eq_true rfl, Nat.le_of_ble_eq_true rfl⟩ (fun r6868 hr6868 => ?_)
  refine lv_if_ne (tgt := 12) hx hb dX12_barriers_6 (by decide) (fun c6869 => ?_) (fun c6869 => ?_)
  · have g6870 : Rg 0 2 x0 := wk_in3 (rg_any x0) (by decide : Rg 0 0 (0 : Int32)) (by decide : Rg 2 2 (2 : Int32)) (hr6868.2 c6869) (by decide)
    have g6871 : Rg 1 1 r6868 := rg_ne_lo (k := 0) hr6868.1 (by decide) c6869 (by decide)
    refine lv_aload_n hx hb dX12_barriers_12 rfl (lv_at hl 0 rfl) ?_
    refine wk_qi (wM cI b L) v (As := []) (rest := []) ⟨hx, hb, hml, hown, hts⟩ (w_X12_lack l D cI cS _ b L v hL hV) hKK hP hD hS hA 0 (ci := 12) rfl rfl (cwV 0 hts gX12_barriers_X12_lack rfl rfl rfl (by decide +kernel) ⟨Nat.le_of_ble_eq_true rfl, Nat.le_of_ble_eq_true rfl⟩) rfl hl.1 rfl (Nat.le_of_ble_eq_true rfl) dX12_barriers_13 ⟨Nat.le_of_ble_eq_true rfl, Nat.le_of_ble_eq_true rfl⟩ (fun r6872 v H locs hr6872 hP hD hS => ?_)
    have hV := hr6872.1
    refine lv_istore_n (lv' := [(2, .int r6872), (0, .ref (b 0)), (1, .int x0)]) hx hb dX12_barriers_16 rfl hl (by decide) rfl (fun ls hl => ?_)
    refine lv_iconst (v := 0) hx hb dX12_barriers_17 (by decide) ?_
    refine lv_istore_n (lv' := [(3, .int 0), (2, .int r6872), (0, .ref (b 0)), (1, .int x0)]) hx hb dX12_barriers_18 rfl hl (by decide) rfl (fun ls hl => ?_)
    refine lv_iconst (v := (-1)) hx hb dX12_barriers_19 (by decide) ?_
    refine lv_istore (lv' := [(4, .int (-1)), (3, .int 0), (2, .int r6872), (0, .ref (b 0)), (1, .int x0)]) hx hb dX12_barriers_20 hl (by decide) rfl (fun ls hl => ?_)
    refine lv_aload_n hx hb dX12_barriers_22 rfl (lv_at hl 3 rfl) ?_
    refine wk_sv 0 (As := []) (rest := []) ⟨hx, hb, hml, hown, hts⟩ (w_X12_all l D cI cS b L v hL hV) hKK hP (ci := 12) rfl rfl (cwV 0 hts gX12_barriers_X12_all rfl rfl rfl (by decide +kernel) ⟨Nat.le_of_ble_eq_true rfl, Nat.le_of_ble_eq_true rfl⟩) rfl hl.1 rfl (Nat.le_of_ble_eq_true rfl) dX12_barriers_23 ⟨Nat.le_of_ble_eq_true rfl, Nat.le_of_ble_eq_true rfl⟩ (fun r6873 hr6873 => ?_)
    refine lv_istore (lv' := [(5, .int r6873), (4, .int (-1)), (3, .int 0), (2, .int r6872), (0, .ref (b 0)), (1, .int x0)]) hx hb dX12_barriers_26 hl (by decide) rfl (fun ls hl => ?_)
    refine lv_iconst (v := 0) hx hb dX12_barriers_28 (by decide) ?_
    refine lv_istore (lv' := [(6, .int 0), (5, .int r6873), (4, .int (-1)), (3, .int 0), (2, .int r6872), (0, .ref (b 0)), (1, .int x0)]) hx hb dX12_barriers_29 hl (by decide) rfl (fun ls hl => ?_)
    exact lp31 4097 r6872 (0 : Int32) (((-1) : Int32)) r6873 (0 : Int32) v _ _ ls g6870 (by decide : Rg (-1) 4095 ((-1) : Int32)) hr6873.1 (by decide : Rg 0 4096 (0 : Int32)) hV hP hD hS (lv_sub (l' := [(0, .ref (b 0)), (1, .int x0), (2, .int r6872), (3, .int 0), (4, .int (-1)), (5, .int r6873), (6, .int 0)]) hl [5, 6, 4, 3, 2, 1, 0] rfl) (me_i (by decide : Rg 0 4096 (0 : Int32)) (by decide))
  · have g6874 : Rg 0 0 r6868 := wk_eql hr6868.1 (by decide : Rg 0 0 (0 : Int32)) c6869 (by decide)
    refine lv_bipush (v := (-2)) hx hb dX12_barriers_9 (by decide) ?_
    subst hAe
    exact W.iret (v := (-2)) hx hb hr (fun t ht hW => ⟨⟨_, v, rfl, ⟨hV, (by decide : Rg (-2147483648) 2147483647 ((-2) : Int32)), trivial⟩, by rw [ht]; exact hP, hD⟩, hS.F ht⟩) hS.2.2 dX12_barriers_11
set_option maxRecDepth 20000 in
theorem ggX12_isCritical_X12_has : GoodIn wsX12_isCritical wsX12_has := goodIn_r _ [9] (by decide +kernel) (by decide +kernel)
set_option maxRecDepth 20000 in
theorem gX12_isCritical_X12_has : GoodIn wsX12_isCritical (va_wsS RX12 59 yX12_has wsX12_has) := goodIn_app (goodIn_of _ (by decide +kernel)) ggX12_isCritical_X12_has
theorem dX12_isCritical_10 : decode cX12_isCritical 10 = .ok (.iconst 1, 1) := by decide +kernel
theorem dX12_isCritical_11 : decode cX12_isCritical 11 = .ok (.goto 4, 3) := by decide +kernel
theorem dX12_isCritical_26 : decode cX12_isCritical 26 = .ok (.iload_n 2, 1) := by decide +kernel
theorem dX12_isCritical_27 : decode cX12_isCritical 27 = .ok (.ifCond .eq 38, 3) := by decide +kernel
theorem dX12_isCritical_30 : decode cX12_isCritical 30 = .ok (.iload_n 1, 1) := by decide +kernel
theorem dX12_isCritical_31 : decode cX12_isCritical 31 = .ok (.iload_n 3, 1) := by decide +kernel
theorem dX12_isCritical_32 : decode cX12_isCritical 32 = .ok (.invokestatic 59, 3) := by decide +kernel
theorem dX12_isCritical_35 : decode cX12_isCritical 35 = .ok (.ifCond .eq 26, 3) := by decide +kernel
theorem dX12_isCritical_38 : decode cX12_isCritical 38 = .ok (.iconst 2, 1) := by decide +kernel
theorem dX12_isCritical_39 : decode cX12_isCritical 39 = .ok (.aload_n 0, 1) := by decide +kernel
theorem dX12_isCritical_40 : decode cX12_isCritical 40 = .ok (.getfield 17, 3) := by decide +kernel
theorem dX12_isCritical_43 : decode cX12_isCritical 43 = .ok (.iload_n 1, 1) := by decide +kernel
theorem dX12_isCritical_44 : decode cX12_isCritical 44 = .ok (.iconst 1, 1) := by decide +kernel
theorem dX12_isCritical_45 : decode cX12_isCritical 45 = .ok (.iload_n 3, 1) := by decide +kernel
theorem dX12_isCritical_46 : decode cX12_isCritical 46 = .ok (.ishl, 1) := by decide +kernel
theorem dX12_isCritical_47 : decode cX12_isCritical 47 = .ok (.iconst (-1), 1) := by decide +kernel
theorem dX12_isCritical_48 : decode cX12_isCritical 48 = .ok (.ixor, 1) := by decide +kernel
theorem dX12_isCritical_49 : decode cX12_isCritical 49 = .ok (.iand, 1) := by decide +kernel
theorem dX12_isCritical_50 : decode cX12_isCritical 50 = .ok (.iaload, 1) := by decide +kernel
theorem dX12_isCritical_51 : decode cX12_isCritical 51 = .ok (.imul, 1) := by decide +kernel
theorem dX12_isCritical_52 : decode cX12_isCritical 52 = .ok (.iload_n 1, 1) := by decide +kernel
theorem dX12_isCritical_53 : decode cX12_isCritical 53 = .ok (.invokestatic 85, 3) := by decide +kernel
theorem dX12_isCritical_56 : decode cX12_isCritical 56 = .ok (.iconst 1, 1) := by decide +kernel
theorem dX12_isCritical_57 : decode cX12_isCritical 57 = .ok (.isub, 1) := by decide +kernel
theorem dX12_isCritical_58 : decode cX12_isCritical 58 = .ok (.if_icmp .ne 7, 3) := by decide +kernel
theorem dX12_isCritical_61 : decode cX12_isCritical 61 = .ok (.iconst 1, 1) := by decide +kernel
theorem dX12_isCritical_62 : decode cX12_isCritical 62 = .ok (.goto 4, 3) := by decide +kernel
theorem dX12_isCritical_65 : decode cX12_isCritical 65 = .ok (.iconst 0, 1) := by decide +kernel
theorem dX12_isCritical_66 : decode cX12_isCritical 66 = .ok (.istore_n 2, 1) := by decide +kernel
theorem dX12_isCritical_67 : decode cX12_isCritical 67 = .ok (.iinc 3 1, 3) := by decide +kernel
theorem dX12_isCritical_70 : decode cX12_isCritical 70 = .ok (.goto (-52), 3) := by decide +kernel
set_option maxHeartbeats 4000000 in
set_option maxRecDepth 100000 in
theorem w_X12_isCritical (l : Launch) (D : va_G) (cI cS : ClassId) (b : Nat → Nat) (L v : SU) (hL : TyL L) (hV : TyV v) (x0 : Int32) (px0 : Rg 0 4095 x0) : Met l yX12_isCritical wsX12_isCritical ({ frames := 1, cells := 0, slots := 0, locals := 40 }) (PS D cI cS (wM cI b L v) [.ref (b 0), .int x0]) (vp_Si (fun r => Rg 0 1 r ∧ True)) 0 0 (fun _ => False) := by
  refine Met.ofW (cc := cX12_isCritical) (maxL := 4) (ret := (some .boolean)) (by decide) rfl ?_
  intro p e s m args below meth c s₁ B hml hv
  obtain ⟨rfl, hP, hKK⟩ := hv
  have hx := B.exec
  have hb := B.bytes
  have hr := B.returns
  have hts := atoms_spec (ws := wsX12_isCritical) B.pre
  have hown : s.vm.findClass RX12 = some m.cls := findClass_of_methodNamed B.named
  have hlocks := B.notSynchronized
  have hK := hKK.1
  have hin12 : ∀ w ∈ wsX120, w ∈ wsX12_isCritical := by decide +kernel
  have hl := lv_entry ([.ref (b 0), .int x0]) (n := 4) (Nat.le_of_ble_eq_true rfl)
  rw [lg_entry_eq]
  generalize (lg_sl ([.ref (b 0), .int x0]) ++ List.replicate (4 - (lg_sl ([.ref (b 0), .int x0])).length) Slot.unset).toArray = ls at hl ⊢
  have hl : lv_has ls 4 [(0, .ref (b 0)), (1, .int x0)] := hl
  have lp18 : ∀ (n18 : Nat) (y18_l2 y18_l3 : Int32) (ls : Array Slot), Rg 0 4095 x0 → Rg 0 1 y18_l2 → Rg 0 12 y18_l3 → lv_has ls 4 [(0, .ref (b 0)), (1, .int x0), (2, .int y18_l2), (3, .int y18_l3)] → 12 - y18_l3.toInt < (n18 : Int) → W p l e (headSpec wsX12_isCritical ({ frames := 1, cells := 0, slots := 0, locals := 40 })).room s m ([.ref (b 0), .int x0]).toArray below meth c s.heap [] 0 0 (MQ below (vp_Si (fun r => Rg 0 1 r ∧ True)) ([.ref (b 0), .int x0]).toArray s 0 0 (fun _ => False)) (F0 m 18 ls []) := by
    intro n18
    induction n18 with
    | zero =>
      intro y18_l2 y18_l3 ls g18_l1 g18_l2 g18_l3 hl hm18
      exact absurd rfl (me_z g18_l3 hm18)
    | succ n18 ih18 =>
      intro y18_l2 y18_l3 ls g18_l1 g18_l2 g18_l3 hl hm18
      refine lv_iload_n hx hb dX12_isCritical_18 rfl (lv_at hl 3 rfl) ?_
      refine lv_aload_n hx hb dX12_isCritical_19 rfl (lv_at hl 0 rfl) ?_
      refine va_get (D := D) (ci := 12) (v := .int (L 0 0)) (C := RX12) (T := TX12) (N := 24) hx hb hts hin12 hown hK hP 0 rfl rfl 0 (by decide) (hts (.fieldLink RX12 63 "MissedPointsModel" "many" "I") (by decide +kernel)) (fun _ h9 => h9) rfl dX12_isCritical_20 ?_
      refine lv_icmp_ge (tgt := 73) hx hb dX12_isCritical_23 (by decide) (fun c7107 => ?_) (fun c7107 => ?_)
      · refine lv_iload_n hx hb dX12_isCritical_73 rfl (lv_at hl 2 rfl) ?_
        exact W.zret (v := y18_l2) hx hb hr (wk_nb g18_l2) (fun t ht hW => ⟨_, rfl, ⟨g18_l2, trivial⟩, ht⟩) (fun q hq => absurd hq List.not_mem_nil) dX12_isCritical_74
      · have g7108 : Rg 1 12 (L 0 0) := rg_ltr g18_l3 hL.1 (rg_nle c7107) (by decide)
        have g7109 : Rg 0 11 y18_l3 := rg_ltl g18_l3 hL.1 (rg_nle c7107) (by decide)
        refine lv_iload_n hx hb dX12_isCritical_26 rfl (lv_at hl 2 rfl) ?_
        refine lv_if_eq (tgt := 65) hx hb dX12_isCritical_27 (by decide) (fun c7110 => ?_) (fun c7110 => ?_)
        · have g7111 : Rg 0 0 y18_l2 := wk_eql g18_l2 (by decide : Rg 0 0 (0 : Int32)) c7110 (by decide)
          refine lv_iconst (v := 0) hx hb dX12_isCritical_65 (by decide) ?_
          refine lv_istore_n (lv' := [(2, .int 0), (0, .ref (b 0)), (1, .int x0), (3, .int y18_l3)]) hx hb dX12_isCritical_66 rfl hl (by decide) rfl (fun ls hl => ?_)
          refine wk_iinc (lv' := fun r => [(3, .int r), (2, .int 0), (0, .ref (b 0)), (1, .int x0)]) (e := 1) (f := 12) hx hb dX12_isCritical_67 hl (k := 3) rfl (by decide) g7109 (by decide) (fun _ => rfl) (fun r7112 ls hr7112 er7112 hl => ?_)
          refine lv_goto (tgt := 18) hx hb dX12_isCritical_70 (by decide) ?_
          exact ih18 _ (0 : Int32) r7112 ls g18_l1 (by decide : Rg 0 1 (0 : Int32)) (rg_w hr7112 (by decide) (by decide)) (lv_sub (l' := [(0, .ref (b 0)), (1, .int x0), (2, .int 0), (3, .int r7112)]) hl [2, 3, 1, 0] rfl) (me_up hm18 er7112 (by decide))
        · have g7113 : Rg 1 1 y18_l2 := rg_ne_lo (k := 0) g18_l2 (by decide) c7110 (by decide)
          refine lv_iload_n hx hb dX12_isCritical_30 rfl (lv_at hl 1 rfl) ?_
          refine lv_iload_n hx hb dX12_isCritical_31 rfl (lv_at hl 3 rfl) ?_
          refine lz_ss (As := [.int x0, .int y18_l3]) (rest := []) ⟨hx, hb, hml, hown, hts⟩ (w_X12_has l D cI cS x0 y18_l3) hKK (hP.sub (ws' := []) [] rfl) (va_cwS 2 hts gX12_isCritical_X12_has rfl rfl rfl (by decide +kernel) ⟨Nat.le_of_ble_eq_true rfl, Nat.le_of_ble_eq_true rfl⟩) rfl hl.1 rfl (Nat.le_of_ble_eq_true rfl) dX12_isCritical_32 ⟨Nat.le_of_ble_eq_true rfl, Nat.le_of_ble_eq_true rfl⟩ (fun r7114 hr7114 => ?_)
          refine lv_if_eq (tgt := 61) hx hb dX12_isCritical_35 (by decide) (fun c7115 => ?_) (fun c7115 => ?_)
          · have g7116 : Rg 0 0 r7114 := wk_eql hr7114.1 (by decide : Rg 0 0 (0 : Int32)) c7115 (by decide)
            refine lv_iconst (v := 1) hx hb dX12_isCritical_61 (by decide) ?_
            refine lv_goto (tgt := 66) hx hb dX12_isCritical_62 (by decide) ?_
            refine lv_istore_n (lv' := [(2, .int 1), (0, .ref (b 0)), (1, .int x0), (3, .int y18_l3)]) hx hb dX12_isCritical_66 rfl hl (by decide) rfl (fun ls hl => ?_)
            refine wk_iinc (lv' := fun r => [(3, .int r), (2, .int 1), (0, .ref (b 0)), (1, .int x0)]) (e := 1) (f := 12) hx hb dX12_isCritical_67 hl (k := 3) rfl (by decide) g7109 (by decide) (fun _ => rfl) (fun r7117 ls hr7117 er7117 hl => ?_)
            refine lv_goto (tgt := 18) hx hb dX12_isCritical_70 (by decide) ?_
            exact ih18 _ (1 : Int32) r7117 ls g18_l1 (by decide : Rg 0 1 (1 : Int32)) (rg_w hr7117 (by decide) (by decide)) (lv_sub (l' := [(0, .ref (b 0)), (1, .int x0), (2, .int 1), (3, .int r7117)]) hl [2, 3, 1, 0] rfl) (me_up hm18 er7117 (by decide))
          · have g7118 : Rg 1 1 r7114 := rg_ne_lo (k := 0) hr7114.1 (by decide) c7115 (by decide)
            refine lv_iconst (v := 2) hx hb dX12_isCritical_38 (by decide) ?_
            refine lv_aload_n hx hb dX12_isCritical_39 rfl (lv_at hl 0 rfl) ?_
            refine va_get (D := D) (ci := 12) (v := .ref (b 2)) (C := RX12) (T := TX12) (N := 24) hx hb hts hin12 hown hK hP 0 rfl rfl 3 (by decide) (hts (.fieldLink RX12 17 "MissedPointsModel" "pairs" "[I") (by decide +kernel)) (fun _ h9 => h9) rfl dX12_isCritical_40 ?_
            refine lv_iload_n hx hb dX12_isCritical_43 rfl (lv_at hl 1 rfl) ?_
            refine lv_iconst (v := 1) hx hb dX12_isCritical_44 (by decide) ?_
            refine lv_iload_n hx hb dX12_isCritical_45 rfl (lv_at hl 3 rfl) ?_
            refine wk_ishl1 (f := 2048) hx hb dX12_isCritical_46 g7109 (by decide) (fun r7119 hr7119 qr7119 => ?_)
            refine lv_iconst (v := (-1)) hx hb dX12_isCritical_47 (by decide) ?_
            refine lv_ixor hx hb dX12_isCritical_48 ?_
            refine wk_topP (P := fun r => r = r7119 ^^^ ((-1) : Int32)) rfl (fun r7120 qr7120 => ?_)
            refine wk_iandl hx hb dX12_isCritical_49 g18_l1 (by decide) (fun r7121 hr7121 qr7121 => ?_)
            refine wk_aldA hx hb hK hP 2 0 rfl rfl (rg_in hr7121 (by decide) (by decide)) dX12_isCritical_50 (fun r7122 => ?_)
            refine lv_imul hx hb dX12_isCritical_51 ?_
            refine wk_topP (P := fun r => r = (2 : Int32) * r7122) rfl (fun r7123 qr7123 => ?_)
            refine lv_iload_n hx hb dX12_isCritical_52 rfl (lv_at hl 1 rfl) ?_
            refine lz_ss (As := [.int x0]) (rest := [.int r7123]) ⟨hx, hb, hml, hown, hts⟩ (w_X12_bits l D cI cS x0) hKK (hP.sub (ws' := []) [] rfl) (va_cwS 1 hts gX12_isCritical_X12_bits rfl rfl rfl (by decide +kernel) ⟨Nat.le_of_ble_eq_true rfl, Nat.le_of_ble_eq_true rfl⟩) rfl hl.1 rfl (Nat.le_of_ble_eq_true rfl) dX12_isCritical_53 ⟨Nat.le_of_ble_eq_true rfl, Nat.le_of_ble_eq_true rfl⟩ (fun r7124 hr7124 => ?_)
            refine lv_iconst (v := 1) hx hb dX12_isCritical_56 (by decide) ?_
            refine lv_isub hx hb dX12_isCritical_57 ?_
            refine wk_topP (P := fun r => r = r7124 - (1 : Int32)) rfl (fun r7125 qr7125 => ?_)
            refine lv_icmp_ne (tgt := 65) hx hb dX12_isCritical_58 (by decide) (fun c7126 => ?_) (fun c7126 => ?_)
            · refine lv_iconst (v := 0) hx hb dX12_isCritical_65 (by decide) ?_
              refine lv_istore_n (lv' := [(2, .int 0), (0, .ref (b 0)), (1, .int x0), (3, .int y18_l3)]) hx hb dX12_isCritical_66 rfl hl (by decide) rfl (fun ls hl => ?_)
              refine wk_iinc (lv' := fun r => [(3, .int r), (2, .int 0), (0, .ref (b 0)), (1, .int x0)]) (e := 1) (f := 12) hx hb dX12_isCritical_67 hl (k := 3) rfl (by decide) g7109 (by decide) (fun _ => rfl) (fun r7127 ls hr7127 er7127 hl => ?_)
              refine lv_goto (tgt := 18) hx hb dX12_isCritical_70 (by decide) ?_
              exact ih18 _ (0 : Int32) r7127 ls g18_l1 (by decide : Rg 0 1 (0 : Int32)) (rg_w hr7127 (by decide) (by decide)) (lv_sub (l' := [(0, .ref (b 0)), (1, .int x0), (2, .int 0), (3, .int r7127)]) hl [2, 3, 1, 0] rfl) (me_up hm18 er7127 (by decide))
            · refine lv_iconst (v := 1) hx hb dX12_isCritical_61 (by decide) ?_
              refine lv_goto (tgt := 66) hx hb dX12_isCritical_62 (by decide) ?_
              refine lv_istore_n (lv' := [(2, .int 1), (0, .ref (b 0)), (1, .int x0), (3, .int y18_l3)]) hx hb dX12_isCritical_66 rfl hl (by decide) rfl (fun ls hl => ?_)
              refine wk_iinc (lv' := fun r => [(3, .int r), (2, .int 1), (0, .ref (b 0)), (1, .int x0)]) (e := 1) (f := 12) hx hb dX12_isCritical_67 hl (k := 3) rfl (by decide) g7109 (by decide) (fun _ => rfl) (fun r7128 ls hr7128 er7128 hl => ?_)
              refine lv_goto (tgt := 18) hx hb dX12_isCritical_70 (by decide) ?_
              exact ih18 _ (1 : Int32) r7128 ls g18_l1 (by decide : Rg 0 1 (1 : Int32)) (rg_w hr7128 (by decide) (by decide)) (lv_sub (l' := [(0, .ref (b 0)), (1, .int x0), (2, .int 1), (3, .int r7128)]) hl [2, 3, 1, 0] rfl) (me_up hm18 er7128 (by decide))
  refine lv_iload_n hx hb dX12_isCritical_0 rfl (lv_at hl 1 rfl) ?_
  refine lz_ss (As := [.int x0]) (rest := []) ⟨hx, hb, hml, hown, hts⟩ (w_X12_bits l D cI cS x0) hKK (hP.sub (ws' := []) [] rfl) (va_cwS 1 hts gX12_isCritical_X12_bits rfl rfl rfl (by decide +kernel) ⟨Nat.le_of_ble_eq_true rfl, Nat.le_of_ble_eq_true rfl⟩) rfl hl.1 rfl (Nat.le_of_ble_eq_true rfl) dX12_isCritical_1 ⟨Nat.le_of_ble_eq_true rfl, Nat.le_of_ble_eq_true rfl⟩ (fun r7129 hr7129 => ?_)
  refine lv_iconst (v := 2) hx hb dX12_isCritical_4 (by decide) ?_
  refine lv_irem hx hb dX12_isCritical_5 (by decide) ?_
  refine wk_any (fun r7130 => ?_)
  refine lv_iconst (v := 1) hx hb dX12_isCritical_6 (by decide) ?_
  refine lv_icmp_ne (tgt := 14) hx hb dX12_isCritical_7 (by decide) (fun c7131 => ?_) (fun c7131 => ?_)
  · refine lv_iconst (v := 0) hx hb dX12_isCritical_14 (by decide) ?_
    refine lv_istore_n (lv' := [(2, .int 0), (0, .ref (b 0)), (1, .int x0)]) hx hb dX12_isCritical_15 rfl hl (by decide) rfl (fun ls hl => ?_)
    refine lv_iconst (v := 0) hx hb dX12_isCritical_16 (by decide) ?_
    refine lv_istore_n (lv' := [(3, .int 0), (2, .int 0), (0, .ref (b 0)), (1, .int x0)]) hx hb dX12_isCritical_17 rfl hl (by decide) rfl (fun ls hl => ?_)
    exact lp18 13 (0 : Int32) (0 : Int32) ls px0 (by decide : Rg 0 1 (0 : Int32)) (by decide : Rg 0 12 (0 : Int32)) (lv_sub (l' := [(0, .ref (b 0)), (1, .int x0), (2, .int 0), (3, .int 0)]) hl [2, 3, 1, 0] rfl) (me_i (by decide : Rg 0 12 (0 : Int32)) (by decide))
  · have g7132 : Rg 1 1 r7130 := wk_eql (rg_any r7130) (by decide : Rg 1 1 (1 : Int32)) c7131 (by decide)
    refine lv_iconst (v := 1) hx hb dX12_isCritical_10 (by decide) ?_
    refine lv_goto (tgt := 15) hx hb dX12_isCritical_11 (by decide) ?_
    refine lv_istore_n (lv' := [(2, .int 1), (0, .ref (b 0)), (1, .int x0)]) hx hb dX12_isCritical_15 rfl hl (by decide) rfl (fun ls hl => ?_)
    refine lv_iconst (v := 0) hx hb dX12_isCritical_16 (by decide) ?_
    refine lv_istore_n (lv' := [(3, .int 0), (2, .int 1), (0, .ref (b 0)), (1, .int x0)]) hx hb dX12_isCritical_17 rfl hl (by decide) rfl (fun ls hl => ?_)
    exact lp18 13 (1 : Int32) (0 : Int32) ls px0 (by decide : Rg 0 1 (1 : Int32)) (by decide : Rg 0 12 (0 : Int32)) (lv_sub (l' := [(0, .ref (b 0)), (1, .int x0), (2, .int 1), (3, .int 0)]) hl [2, 3, 1, 0] rfl) (me_i (by decide : Rg 0 12 (0 : Int32)) (by decide))
theorem dX12_critical_23 : decode cX12_critical 23 = .ok (.iconst 1, 1) := by decide +kernel
theorem dX12_critical_24 : decode cX12_critical 24 = .ok (.goto 4, 3) := by decide +kernel
set_option maxHeartbeats 4000000 in
set_option maxRecDepth 100000 in
theorem w_X12_critical (l : Launch) (D : va_G) (cI cS : ClassId) (sz : Nat) (b : Nat → Nat) (L v : SU) (hL : TyL L) (hV : TyV v) (x0 : Int32) : Met l yX12_critical wsX12_critical ({ frames := 3, cells := 0, slots := 0, locals := 120 }) (PQ D cI cS (wM cI b L v) sz [.ref (b 0), .int x0]) (QF (S := SU) D (wM cI b L v) (wM cI b L) sz (fun r u => TyV u ∧ Rg (-2) 1 r ∧ (r = 0 → Rg 0 4095 x0))) 0 0 (va_A (wM cI b L v) sz) := by
  refine Met.ofW (cc := cX12_critical) (maxL := 2) (ret := (some .int)) (by decide) rfl ?_
  intro p e s m args below meth c s₁ B hml hv
  obtain ⟨rfl, hsz, hP, hKK, hD0⟩ := hv
  have hx := B.exec
  have hb := B.bytes
  have hr := B.returns
  have hts := atoms_spec (ws := wsX12_critical) B.pre
  have hown : s.vm.findClass RX12 = some m.cls := findClass_of_methodNamed B.named
  have hlocks := B.notSynchronized
  have hK := hKK.1
  subst hsz
  have hD := hD0.self (sz := s.heap.size)
  obtain ⟨A, hAe⟩ : ∃ A, A = va_A (wM cI b L v) s.heap.size := ⟨_, rfl⟩
  rw [← hAe] at hD
  have hA : ∀ q : Nat, s.heap.size ≤ q → A q := fun q h => by rw [hAe]; exact Or.inr h
  have hS : va_S A s.heap s.heap [] := va_S.rf
  have hl := lv_entry ([.ref (b 0), .int x0]) (n := 2) (Nat.le_of_ble_eq_true rfl)
  rw [lg_entry_eq]
  generalize (lg_sl ([.ref (b 0), .int x0]) ++ List.replicate (2 - (lg_sl ([.ref (b 0), .int x0])).length) Slot.unset).toArray = ls at hl ⊢
  have hl : lv_has ls 2 [(0, .ref (b 0)), (1, .int x0)] := hl
  refine lv_aload_n hx hb dX12_critical_0 rfl (lv_at hl 0 rfl) ?_
  refine lv_iload_n hx hb dX12_critical_1 rfl (lv_at hl 1 rfl) ?_
  refine wk_sv 0 (As := [.int x0]) (rest := []) ⟨hx, hb, hml, hown, hts⟩ (w_X12_isSet l D cI cS b L v hL hV x0) hKK hP (ci := 12) rfl rfl (cwV 1 hts gX12_critical_X12_isSet rfl rfl rfl (by decide +kernel) ⟨Nat.le_of_ble_eq_true rfl, Nat.le_of_ble_eq_true rfl⟩) rfl hl.1 rfl (Nat.le_of_ble_eq_true rfl) dX12_critical_2 ⟨Nat.le_of_ble_eq_true rfl, Nat.le_of_ble_eq_true rfl⟩ (fun r7143 hr7143 => ?_)
  refine lv_if_ne (tgt := 11) hx hb dX12_critical_5 (by decide) (fun c7144 => ?_) (fun c7144 => ?_)
  · have g7145 : Rg 0 4095 x0 := (hr7143.2 c7144)
    have g7146 : Rg 1 1 r7143 := rg_ne_lo (k := 0) hr7143.1 (by decide) c7144 (by decide)
    refine lv_aload_n hx hb dX12_critical_11 rfl (lv_at hl 0 rfl) ?_
    refine wk_qv (wM cI b L) v (As := []) (rest := []) ⟨hx, hb, hml, hown, hts⟩ (w_X12_reckons l D cI cS _ b L v hL hV) hKK hP hD hS hA 0 (ci := 12) rfl rfl (cwV 0 hts gX12_critical_X12_reckons rfl rfl rfl (by decide +kernel) ⟨Nat.le_of_ble_eq_true rfl, Nat.le_of_ble_eq_true rfl⟩) rfl hl.1 rfl (Nat.le_of_ble_eq_true rfl) dX12_critical_12 ⟨Nat.le_of_ble_eq_true rfl, Nat.le_of_ble_eq_true rfl⟩ (fun v H locs hr7147 hP hD hS => ?_)
    have hV := hr7147.1
    refine lv_aload_n hx hb dX12_critical_15 rfl (lv_at hl 0 rfl) ?_
    refine lv_iload_n hx hb dX12_critical_16 rfl (lv_at hl 1 rfl) ?_
    refine wk_sv 0 (As := [.int x0]) (rest := []) ⟨hx, hb, hml, hown, hts⟩ (w_X12_isCritical l D cI cS b L v hL hV x0 g7145) hKK hP (ci := 12) rfl rfl (cwV 1 hts gX12_critical_X12_isCritical rfl rfl rfl (by decide +kernel) ⟨Nat.le_of_ble_eq_true rfl, Nat.le_of_ble_eq_true rfl⟩) rfl hl.1 rfl (Nat.le_of_ble_eq_true rfl) dX12_critical_17 ⟨Nat.le_of_ble_eq_true rfl, Nat.le_of_ble_eq_true rfl⟩ (fun r7148 hr7148 => ?_)
    refine lv_if_eq (tgt := 27) hx hb dX12_critical_20 (by decide) (fun c7149 => ?_) (fun c7149 => ?_)
    · have g7150 : Rg 0 0 r7148 := wk_eql hr7148.1 (by decide : Rg 0 0 (0 : Int32)) c7149 (by decide)
      refine lv_iconst (v := 0) hx hb dX12_critical_27 (by decide) ?_
      subst hAe
      exact W.iret (v := 0) hx hb hr (fun t ht hW => ⟨⟨_, v, rfl, ⟨hV, (by decide : Rg (-2) 1 (0 : Int32)), fun _ => g7145⟩, by rw [ht]; exact hP, hD⟩, hS.F ht⟩) hS.2.2 dX12_critical_28
    · have g7151 : Rg 1 1 r7148 := rg_ne_lo (k := 0) hr7148.1 (by decide) c7149 (by decide)
      refine lv_iconst (v := 1) hx hb dX12_critical_23 (by decide) ?_
      refine lv_goto (tgt := 28) hx hb dX12_critical_24 (by decide) ?_
      subst hAe
      exact W.iret (v := 1) hx hb hr (fun t ht hW => ⟨⟨_, v, rfl, ⟨hV, (by decide : Rg (-2) 1 (1 : Int32)), fun h9 => absurd h9 (by decide)⟩, by rw [ht]; exact hP, hD⟩, hS.F ht⟩) hS.2.2 dX12_critical_28
  · have g7152 : Rg 0 0 r7143 := wk_eql hr7143.1 (by decide : Rg 0 0 (0 : Int32)) c7144 (by decide)
    refine lv_bipush (v := (-2)) hx hb dX12_critical_8 (by decide) ?_
    subst hAe
    exact W.iret (v := (-2)) hx hb hr (fun t ht hW => ⟨⟨_, v, rfl, ⟨hV, (by decide : Rg (-2) 1 ((-2) : Int32)), fun h9 => absurd h9 (by decide)⟩, by rw [ht]; exact hP, hD⟩, hS.F ht⟩) hS.2.2 dX12_critical_10
set_option maxRecDepth 20000 in
theorem ggX12_verdictOf_X12_all : GoodIn wsX12_verdictOf wsX12_all := goodIn_r _ [7, 8, 9, 10, 11, 12, 13, 14, 15, 16, 17, 18, 19, 20, 21, 22, 23, 24, 25, 26, 27, 28, 29, 30, 31, 32] (by decide +kernel) (by decide +kernel)
set_option maxRecDepth 20000 in
theorem gX12_verdictOf_X12_all : GoodIn wsX12_verdictOf (wsV RX12 70 RX12 yX12_all wsX12_all) := goodIn_app (goodIn_of _ (by decide +kernel)) ggX12_verdictOf_X12_all
theorem dX12_verdictOf_0 : decode cX12_verdictOf 0 = .ok (.aload_n 0, 1) := by decide +kernel
theorem dX12_verdictOf_1 : decode cX12_verdictOf 1 = .ok (.invokevirtual 70, 3) := by decide +kernel
theorem dX12_verdictOf_10 : decode cX12_verdictOf 10 = .ok (.ior, 1) := by decide +kernel
theorem dX12_verdictOf_11 : decode cX12_verdictOf 11 = .ok (.iconst (-1), 1) := by decide +kernel
theorem dX12_verdictOf_12 : decode cX12_verdictOf 12 = .ok (.ixor, 1) := by decide +kernel
theorem dX12_verdictOf_13 : decode cX12_verdictOf 13 = .ok (.iand, 1) := by decide +kernel
theorem dX12_verdictOf_14 : decode cX12_verdictOf 14 = .ok (.istore_n 3, 1) := by decide +kernel
theorem dX12_verdictOf_15 : decode cX12_verdictOf 15 = .ok (.aload_n 0, 1) := by decide +kernel
theorem dX12_verdictOf_16 : decode cX12_verdictOf 16 = .ok (.getfield 17, 3) := by decide +kernel
theorem dX12_verdictOf_19 : decode cX12_verdictOf 19 = .ok (.iload_n 3, 1) := by decide +kernel
theorem dX12_verdictOf_20 : decode cX12_verdictOf 20 = .ok (.iaload, 1) := by decide +kernel
theorem dX12_verdictOf_21 : decode cX12_verdictOf 21 = .ok (.iconst 1, 1) := by decide +kernel
theorem dX12_verdictOf_22 : decode cX12_verdictOf 22 = .ok (.iadd, 1) := by decide +kernel
theorem dX12_verdictOf_23 : decode cX12_verdictOf 23 = .ok (.aload_n 0, 1) := by decide +kernel
theorem dX12_verdictOf_24 : decode cX12_verdictOf 24 = .ok (.getfield 17, 3) := by decide +kernel
theorem dX12_verdictOf_27 : decode cX12_verdictOf 27 = .ok (.aload_n 0, 1) := by decide +kernel
theorem dX12_verdictOf_28 : decode cX12_verdictOf 28 = .ok (.invokevirtual 70, 3) := by decide +kernel
theorem dX12_verdictOf_31 : decode cX12_verdictOf 31 = .ok (.iaload, 1) := by decide +kernel
theorem dX12_verdictOf_32 : decode cX12_verdictOf 32 = .ok (.if_icmp .ge 7, 3) := by decide +kernel
theorem dX12_verdictOf_35 : decode cX12_verdictOf 35 = .ok (.iconst 0, 1) := by decide +kernel
theorem dX12_verdictOf_36 : decode cX12_verdictOf 36 = .ok (.goto 26, 3) := by decide +kernel
theorem dX12_verdictOf_39 : decode cX12_verdictOf 39 = .ok (.aload_n 0, 1) := by decide +kernel
theorem dX12_verdictOf_4 : decode cX12_verdictOf 4 = .ok (.iconst 1, 1) := by decide +kernel
theorem dX12_verdictOf_40 : decode cX12_verdictOf 40 = .ok (.getfield 20, 3) := by decide +kernel
theorem dX12_verdictOf_43 : decode cX12_verdictOf 43 = .ok (.iload_n 3, 1) := by decide +kernel
theorem dX12_verdictOf_44 : decode cX12_verdictOf 44 = .ok (.iaload, 1) := by decide +kernel
theorem dX12_verdictOf_45 : decode cX12_verdictOf 45 = .ok (.aload_n 0, 1) := by decide +kernel
theorem dX12_verdictOf_46 : decode cX12_verdictOf 46 = .ok (.getfield 20, 3) := by decide +kernel
theorem dX12_verdictOf_49 : decode cX12_verdictOf 49 = .ok (.aload_n 0, 1) := by decide +kernel
theorem dX12_verdictOf_5 : decode cX12_verdictOf 5 = .ok (.iload_n 1, 1) := by decide +kernel
theorem dX12_verdictOf_50 : decode cX12_verdictOf 50 = .ok (.invokevirtual 70, 3) := by decide +kernel
theorem dX12_verdictOf_53 : decode cX12_verdictOf 53 = .ok (.iaload, 1) := by decide +kernel
theorem dX12_verdictOf_54 : decode cX12_verdictOf 54 = .ok (.if_icmp .ne 7, 3) := by decide +kernel
theorem dX12_verdictOf_57 : decode cX12_verdictOf 57 = .ok (.iconst 2, 1) := by decide +kernel
theorem dX12_verdictOf_58 : decode cX12_verdictOf 58 = .ok (.goto 4, 3) := by decide +kernel
theorem dX12_verdictOf_6 : decode cX12_verdictOf 6 = .ok (.ishl, 1) := by decide +kernel
theorem dX12_verdictOf_61 : decode cX12_verdictOf 61 = .ok (.iconst 1, 1) := by decide +kernel
theorem dX12_verdictOf_62 : decode cX12_verdictOf 62 = .ok (.ireturn, 1) := by decide +kernel
theorem dX12_verdictOf_7 : decode cX12_verdictOf 7 = .ok (.iconst 1, 1) := by decide +kernel
theorem dX12_verdictOf_8 : decode cX12_verdictOf 8 = .ok (.iload_n 2, 1) := by decide +kernel
theorem dX12_verdictOf_9 : decode cX12_verdictOf 9 = .ok (.ishl, 1) := by decide +kernel
set_option maxHeartbeats 4000000 in
set_option maxRecDepth 100000 in
theorem w_X12_verdictOf (l : Launch) (D : va_G) (cI cS : ClassId) (b : Nat → Nat) (L v : SU) (hL : TyL L) (hV : TyV v) (x0 x1 : Int32) (px0 : Rg 0 11 x0) (px1 : Rg 0 11 x1) : Met l yX12_verdictOf wsX12_verdictOf ({ frames := 1, cells := 0, slots := 0, locals := 40 }) (PS D cI cS (wM cI b L v) [.ref (b 0), .int x0, .int x1]) (vp_Si (fun r => Rg 0 2 r ∧ True)) 0 0 (fun _ => False) := by
  refine Met.ofW (cc := cX12_verdictOf) (maxL := 4) (ret := (some .int)) (by decide) rfl ?_
  intro p e s m args below meth c s₁ B hml hv
  obtain ⟨rfl, hP, hKK⟩ := hv
  have hx := B.exec
  have hb := B.bytes
  have hr := B.returns
  have hts := atoms_spec (ws := wsX12_verdictOf) B.pre
  have hown : s.vm.findClass RX12 = some m.cls := findClass_of_methodNamed B.named
  have hlocks := B.notSynchronized
  have hK := hKK.1
  have hin12 : ∀ w ∈ wsX120, w ∈ wsX12_verdictOf := by decide +kernel
  have hl := lv_entry ([.ref (b 0), .int x0, .int x1]) (n := 4) (Nat.le_of_ble_eq_true rfl)
  rw [lg_entry_eq]
  generalize (lg_sl ([.ref (b 0), .int x0, .int x1]) ++ List.replicate (4 - (lg_sl ([.ref (b 0), .int x0, .int x1])).length) Slot.unset).toArray = ls at hl ⊢
  have hl : lv_has ls 4 [(0, .ref (b 0)), (1, .int x0), (2, .int x1)] := hl
  refine lv_aload_n hx hb dX12_verdictOf_0 rfl (lv_at hl 0 rfl) ?_
  refine wk_sv 0 (As := []) (rest := []) ⟨hx, hb, hml, hown, hts⟩ (w_X12_all l D cI cS b L v hL hV) hKK hP (ci := 12) rfl rfl (cwV 0 hts gX12_verdictOf_X12_all rfl rfl rfl (by decide +kernel) ⟨Nat.le_of_ble_eq_true rfl, Nat.le_of_ble_eq_true rfl⟩) rfl hl.1 rfl (Nat.le_of_ble_eq_true rfl) dX12_verdictOf_1 ⟨Nat.le_of_ble_eq_true rfl, Nat.le_of_ble_eq_true rfl⟩ (fun r7168 hr7168 => ?_)
  refine lv_iconst (v := 1) hx hb dX12_verdictOf_4 (by decide) ?_
  refine lv_iload_n hx hb dX12_verdictOf_5 rfl (lv_at hl 1 rfl) ?_
  refine wk_ishl1 (f := 2048) hx hb dX12_verdictOf_6 px0 (by decide) (fun r7169 hr7169 qr7169 => ?_)
  refine lv_iconst (v := 1) hx hb dX12_verdictOf_7 (by decide) ?_
  refine lv_iload_n hx hb dX12_verdictOf_8 rfl (lv_at hl 2 rfl) ?_
  refine wk_ishl1 (f := 2048) hx hb dX12_verdictOf_9 px1 (by decide) (fun r7170 hr7170 qr7170 => ?_)
  refine wk_ior 12 (e := 1) (f := 4095) hx hb dX12_verdictOf_10 hr7169 hr7170 (by decide) (fun r7171 hr7171 qr7171 => ?_)
  refine lv_iconst (v := (-1)) hx hb dX12_verdictOf_11 (by decide) ?_
  refine lv_ixor hx hb dX12_verdictOf_12 ?_
  refine wk_topP (P := fun r => r = r7171 ^^^ ((-1) : Int32)) rfl (fun r7172 qr7172 => ?_)
  refine wk_iandl hx hb dX12_verdictOf_13 hr7168.1 (by decide) (fun r7173 hr7173 qr7173 => ?_)
  refine lv_istore_n (lv' := [(3, .int r7173), (0, .ref (b 0)), (1, .int x0), (2, .int x1)]) hx hb dX12_verdictOf_14 rfl hl (by decide) rfl (fun ls hl => ?_)
  refine lv_aload_n hx hb dX12_verdictOf_15 rfl (lv_at hl 1 rfl) ?_
  refine va_get (D := D) (ci := 12) (v := .ref (b 2)) (C := RX12) (T := TX12) (N := 24) hx hb hts hin12 hown hK hP 0 rfl rfl 3 (by decide) (hts (.fieldLink RX12 17 "MissedPointsModel" "pairs" "[I") (by decide +kernel)) (fun _ h9 => h9) rfl dX12_verdictOf_16 ?_
  refine lv_iload_n hx hb dX12_verdictOf_19 rfl (lv_at hl 0 rfl) ?_
  refine wk_aldA hx hb hK hP 2 0 rfl rfl (rg_in hr7173 (by decide) (by decide)) dX12_verdictOf_20 (fun r7174 => ?_)
  refine lv_iconst (v := 1) hx hb dX12_verdictOf_21 (by decide) ?_
  refine lv_iadd hx hb dX12_verdictOf_22 ?_
  refine wk_topP (P := fun r => r = r7174 + (1 : Int32)) rfl (fun r7175 qr7175 => ?_)
  refine lv_aload_n hx hb dX12_verdictOf_23 rfl (lv_at hl 1 rfl) ?_
  refine va_get (D := D) (ci := 12) (v := .ref (b 2)) (C := RX12) (T := TX12) (N := 24) hx hb hts hin12 hown hK hP 0 rfl rfl 3 (by decide) (hts (.fieldLink RX12 17 "MissedPointsModel" "pairs" "[I") (by decide +kernel)) (fun _ h9 => h9) rfl dX12_verdictOf_24 ?_
  refine lv_aload_n hx hb dX12_verdictOf_27 rfl (lv_at hl 1 rfl) ?_
  refine wk_sv 0 (As := []) (rest := [.ref (b 2), .int r7175]) ⟨hx, hb, hml, hown, hts⟩ (w_X12_all l D cI cS b L v hL hV) hKK hP (ci := 12) rfl rfl (cwV 0 hts gX12_verdictOf_X12_all rfl rfl rfl (by decide +kernel) ⟨Nat.le_of_ble_eq_true rfl, Nat.le_of_ble_eq_true rfl⟩) rfl hl.1 rfl (Nat.le_of_ble_eq_true rfl) dX12_verdictOf_28 ⟨Nat.le_of_ble_eq_true rfl, Nat.le_of_ble_eq_true rfl⟩ (fun r7176 hr7176 => ?_)
  refine wk_aldA hx hb hK hP 2 0 rfl rfl (rg_in hr7176.1 (by decide) (by decide)) dX12_verdictOf_31 (fun r7177 => ?_)
  refine lv_icmp_ge (tgt := 39) hx hb dX12_verdictOf_32 (by decide) (fun c7178 => ?_) (fun c7178 => ?_)
  · refine lv_aload_n hx hb dX12_verdictOf_39 rfl (lv_at hl 1 rfl) ?_
    refine va_get (D := D) (ci := 12) (v := .ref (b 3)) (C := RX12) (T := TX12) (N := 24) hx hb hts hin12 hown hK hP 0 rfl rfl 4 (by decide) (hts (.fieldLink RX12 20 "MissedPointsModel" "greatestWays" "[I") (by decide +kernel)) (fun _ h9 => h9) rfl dX12_verdictOf_40 ?_
    refine lv_iload_n hx hb dX12_verdictOf_43 rfl (lv_at hl 0 rfl) ?_
    refine wk_aldA hx hb hK hP 3 0 rfl rfl (rg_in hr7173 (by decide) (by decide)) dX12_verdictOf_44 (fun r7179 => ?_)
    refine lv_aload_n hx hb dX12_verdictOf_45 rfl (lv_at hl 1 rfl) ?_
    refine va_get (D := D) (ci := 12) (v := .ref (b 3)) (C := RX12) (T := TX12) (N := 24) hx hb hts hin12 hown hK hP 0 rfl rfl 4 (by decide) (hts (.fieldLink RX12 20 "MissedPointsModel" "greatestWays" "[I") (by decide +kernel)) (fun _ h9 => h9) rfl dX12_verdictOf_46 ?_
    refine lv_aload_n hx hb dX12_verdictOf_49 rfl (lv_at hl 1 rfl) ?_
    refine wk_sv 0 (As := []) (rest := [.ref (b 3), .int r7179]) ⟨hx, hb, hml, hown, hts⟩ (w_X12_all l D cI cS b L v hL hV) hKK hP (ci := 12) rfl rfl (cwV 0 hts gX12_verdictOf_X12_all rfl rfl rfl (by decide +kernel) ⟨Nat.le_of_ble_eq_true rfl, Nat.le_of_ble_eq_true rfl⟩) rfl hl.1 rfl (Nat.le_of_ble_eq_true rfl) dX12_verdictOf_50 ⟨Nat.le_of_ble_eq_true rfl, Nat.le_of_ble_eq_true rfl⟩ (fun r7180 hr7180 => ?_)
    refine wk_aldA hx hb hK hP 3 0 rfl rfl (rg_in hr7180.1 (by decide) (by decide)) dX12_verdictOf_53 (fun r7181 => ?_)
    refine lv_icmp_ne (tgt := 61) hx hb dX12_verdictOf_54 (by decide) (fun c7182 => ?_) (fun c7182 => ?_)
    · refine lv_iconst (v := 1) hx hb dX12_verdictOf_61 (by decide) ?_
      exact W.iret (v := 1) hx hb hr (fun t ht hW => ⟨_, rfl, ⟨(by decide : Rg 0 2 (1 : Int32)), trivial⟩, ht⟩) (fun q hq => absurd hq List.not_mem_nil) dX12_verdictOf_62
    · refine lv_iconst (v := 2) hx hb dX12_verdictOf_57 (by decide) ?_
      refine lv_goto (tgt := 62) hx hb dX12_verdictOf_58 (by decide) ?_
      exact W.iret (v := 2) hx hb hr (fun t ht hW => ⟨_, rfl, ⟨(by decide : Rg 0 2 (2 : Int32)), trivial⟩, ht⟩) (fun q hq => absurd hq List.not_mem_nil) dX12_verdictOf_62
  · refine lv_iconst (v := 0) hx hb dX12_verdictOf_35 (by decide) ?_
    refine lv_goto (tgt := 62) hx hb dX12_verdictOf_36 (by decide) ?_
    exact W.iret (v := 0) hx hb hr (fun t ht hW => ⟨_, rfl, ⟨(by decide : Rg 0 2 (0 : Int32)), trivial⟩, ht⟩) (fun q hq => absurd hq List.not_mem_nil) dX12_verdictOf_62
set_option maxRecDepth 20000 in
theorem ggX12_verdict_X12_has : GoodIn wsX12_verdict wsX12_has := goodIn_r _ [30] (by decide +kernel) (by decide +kernel)
set_option maxRecDepth 20000 in
theorem gX12_verdict_X12_has : GoodIn wsX12_verdict (va_wsS RX12 59 yX12_has wsX12_has) := goodIn_app (goodIn_of _ (by decide +kernel)) ggX12_verdict_X12_has
set_option maxRecDepth 20000 in
theorem ggX12_verdict_X12_reckons : GoodIn wsX12_verdict wsX12_reckons := goodIn_r _ [18, 19, 20, 11, 1, 21, 22, 23, 5, 24, 25, 26, 27, 28, 29, 30, 35, 36, 37, 38, 39, 40, 41, 42, 43, 44, 45, 46, 47, 48, 49, 50, 51, 52, 53, 54, 55, 56, 57, 58] (by decide +kernel) (by decide +kernel)
set_option maxRecDepth 20000 in
theorem gX12_verdict_X12_reckons : GoodIn wsX12_verdict (wsV RX12 107 RX12 yX12_reckons wsX12_reckons) := goodIn_app (goodIn_of _ (by decide +kernel)) ggX12_verdict_X12_reckons
set_option maxRecDepth 20000 in
theorem ggX12_verdict_X12_verdictOf : GoodIn wsX12_verdict wsX12_verdictOf := goodIn_r _ [34, 20, 19, 21, 22, 23, 5, 24, 11, 35, 36, 37, 38, 39, 40, 41, 42, 43, 44, 45, 46, 47, 48, 49, 50, 51, 52, 53, 54, 55, 56, 57, 58] (by decide +kernel) (by decide +kernel)
set_option maxRecDepth 20000 in
theorem gX12_verdict_X12_verdictOf : GoodIn wsX12_verdict (wsV RX12 150 RX12 yX12_verdictOf wsX12_verdictOf) := goodIn_app (goodIn_of _ (by decide +kernel)) ggX12_verdict_X12_verdictOf
theorem dX12_verdict_12 : decode cX12_verdict 12 = .ok (.aload_n 0, 1) := by decide +kernel
theorem dX12_verdict_13 : decode cX12_verdict 13 = .ok (.invokevirtual 107, 3) := by decide +kernel
theorem dX12_verdict_16 : decode cX12_verdict 16 = .ok (.aload_n 0, 1) := by decide +kernel
theorem dX12_verdict_17 : decode cX12_verdict 17 = .ok (.getfield 13, 3) := by decide +kernel
theorem dX12_verdict_20 : decode cX12_verdict 20 = .ok (.iload_n 1, 1) := by decide +kernel
theorem dX12_verdict_21 : decode cX12_verdict 21 = .ok (.iaload, 1) := by decide +kernel
theorem dX12_verdict_22 : decode cX12_verdict 22 = .ok (.iload_n 2, 1) := by decide +kernel
theorem dX12_verdict_23 : decode cX12_verdict 23 = .ok (.invokestatic 59, 3) := by decide +kernel
theorem dX12_verdict_26 : decode cX12_verdict 26 = .ok (.ifCond .eq 12, 3) := by decide +kernel
theorem dX12_verdict_29 : decode cX12_verdict 29 = .ok (.aload_n 0, 1) := by decide +kernel
theorem dX12_verdict_30 : decode cX12_verdict 30 = .ok (.iload_n 1, 1) := by decide +kernel
theorem dX12_verdict_31 : decode cX12_verdict 31 = .ok (.iload_n 2, 1) := by decide +kernel
theorem dX12_verdict_32 : decode cX12_verdict 32 = .ok (.invokevirtual 150, 3) := by decide +kernel
theorem dX12_verdict_35 : decode cX12_verdict 35 = .ok (.goto 4, 3) := by decide +kernel
theorem dX12_verdict_38 : decode cX12_verdict 38 = .ok (.iconst (-1), 1) := by decide +kernel
theorem dX12_verdict_39 : decode cX12_verdict 39 = .ok (.ireturn, 1) := by decide +kernel
set_option maxHeartbeats 4000000 in
set_option maxRecDepth 100000 in
theorem w_X12_verdict (l : Launch) (D : va_G) (cI cS : ClassId) (sz : Nat) (b : Nat → Nat) (L v : SU) (hL : TyL L) (hV : TyV v) (x0 x1 : Int32) : Met l yX12_verdict wsX12_verdict ({ frames := 3, cells := 0, slots := 0, locals := 120 }) (PQ D cI cS (wM cI b L v) sz [.ref (b 0), .int x0, .int x1]) (QF (S := SU) D (wM cI b L v) (wM cI b L) sz (fun r u => TyV u ∧ Rg (-2) 2 r ∧ True)) 0 0 (va_A (wM cI b L v) sz) := by
  refine Met.ofW (cc := cX12_verdict) (maxL := 3) (ret := (some .int)) (by decide) rfl ?_
  intro p e s m args below meth c s₁ B hml hv
  obtain ⟨rfl, hsz, hP, hKK, hD0⟩ := hv
  have hx := B.exec
  have hb := B.bytes
  have hr := B.returns
  have hts := atoms_spec (ws := wsX12_verdict) B.pre
  have hown : s.vm.findClass RX12 = some m.cls := findClass_of_methodNamed B.named
  have hlocks := B.notSynchronized
  have hK := hKK.1
  have hin12 : ∀ w ∈ wsX120, w ∈ wsX12_verdict := by decide +kernel
  subst hsz
  have hD := hD0.self (sz := s.heap.size)
  obtain ⟨A, hAe⟩ : ∃ A, A = va_A (wM cI b L v) s.heap.size := ⟨_, rfl⟩
  rw [← hAe] at hD
  have hA : ∀ q : Nat, s.heap.size ≤ q → A q := fun q h => by rw [hAe]; exact Or.inr h
  have hS : va_S A s.heap s.heap [] := va_S.rf
  have hl := lv_entry ([.ref (b 0), .int x0, .int x1]) (n := 3) (Nat.le_of_ble_eq_true rfl)
  rw [lg_entry_eq]
  generalize (lg_sl ([.ref (b 0), .int x0, .int x1]) ++ List.replicate (3 - (lg_sl ([.ref (b 0), .int x0, .int x1])).length) Slot.unset).toArray = ls at hl ⊢
  have hl : lv_has ls 3 [(0, .ref (b 0)), (1, .int x0), (2, .int x1)] := hl
  refine lv_aload_n hx hb dX12_verdict_0 rfl (lv_at hl 0 rfl) ?_
  refine lv_iload_n hx hb dX12_verdict_1 rfl (lv_at hl 1 rfl) ?_
  refine lv_iload_n hx hb dX12_verdict_2 rfl (lv_at hl 2 rfl) ?_
  refine wk_sv 0 (As := [.int x0, .int x1]) (rest := []) ⟨hx, hb, hml, hown, hts⟩ (w_X12_areTwo l D cI cS b L v hL hV x0 x1) hKK hP (ci := 12) rfl rfl (cwV 2 hts gX12_verdict_X12_areTwo rfl rfl rfl (by decide +kernel) ⟨Nat.le_of_ble_eq_true rfl, Nat.le_of_ble_eq_true rfl⟩) rfl hl.1 rfl (Nat.le_of_ble_eq_true rfl) dX12_verdict_3 ⟨Nat.le_of_ble_eq_true rfl, Nat.le_of_ble_eq_true rfl⟩ (fun r7196 hr7196 => ?_)
  refine lv_if_ne (tgt := 12) hx hb dX12_verdict_6 (by decide) (fun c7197 => ?_) (fun c7197 => ?_)
  · have g7198 : Rg 0 11 x0 := (hr7196.2 c7197).1
    have g7199 : Rg 0 11 x1 := (hr7196.2 c7197).2
    have g7200 : Rg 1 1 r7196 := rg_ne_lo (k := 0) hr7196.1 (by decide) c7197 (by decide)
    refine lv_aload_n hx hb dX12_verdict_12 rfl (lv_at hl 0 rfl) ?_
    refine wk_qv (wM cI b L) v (As := []) (rest := []) ⟨hx, hb, hml, hown, hts⟩ (w_X12_reckons l D cI cS _ b L v hL hV) hKK hP hD hS hA 0 (ci := 12) rfl rfl (cwV 0 hts gX12_verdict_X12_reckons rfl rfl rfl (by decide +kernel) ⟨Nat.le_of_ble_eq_true rfl, Nat.le_of_ble_eq_true rfl⟩) rfl hl.1 rfl (Nat.le_of_ble_eq_true rfl) dX12_verdict_13 ⟨Nat.le_of_ble_eq_true rfl, Nat.le_of_ble_eq_true rfl⟩ (fun v H locs hr7201 hP hD hS => ?_)
    have hV := hr7201.1
    refine lv_aload_n hx hb dX12_verdict_16 rfl (lv_at hl 0 rfl) ?_
    refine va_get (D := D) (ci := 12) (v := .ref (b 1)) (C := RX12) (T := TX12) (N := 24) hx hb hts hin12 hown hK hP 0 rfl rfl 2 (by decide) (hts (.fieldLink RX12 13 "MissedPointsModel" "near" "[I") (by decide +kernel)) (fun _ h9 => h9) rfl dX12_verdict_17 ?_
    refine lv_iload_n hx hb dX12_verdict_20 rfl (lv_at hl 1 rfl) ?_
    refine wk_ald hx hb hK hP 1 0 rfl rfl (rg_in g7198 (by decide) (by decide)) dX12_verdict_21 hV.2.1 (fun r7202 hr7202 => ?_)
    refine lv_iload_n hx hb dX12_verdict_22 rfl (lv_at hl 2 rfl) ?_
    refine lz_ss (As := [.int r7202, .int x1]) (rest := []) ⟨hx, hb, hml, hown, hts⟩ (w_X12_has l D cI cS r7202 x1) hKK (hP.sub (ws' := []) [] rfl) (va_cwS 2 hts gX12_verdict_X12_has rfl rfl rfl (by decide +kernel) ⟨Nat.le_of_ble_eq_true rfl, Nat.le_of_ble_eq_true rfl⟩) rfl hl.1 rfl (Nat.le_of_ble_eq_true rfl) dX12_verdict_23 ⟨Nat.le_of_ble_eq_true rfl, Nat.le_of_ble_eq_true rfl⟩ (fun r7203 hr7203 => ?_)
    refine lv_if_eq (tgt := 38) hx hb dX12_verdict_26 (by decide) (fun c7204 => ?_) (fun c7204 => ?_)
    · have g7205 : Rg 0 0 r7203 := wk_eql hr7203.1 (by decide : Rg 0 0 (0 : Int32)) c7204 (by decide)
      refine lv_iconst (v := (-1)) hx hb dX12_verdict_38 (by decide) ?_
      subst hAe
      exact W.iret (v := (-1)) hx hb hr (fun t ht hW => ⟨⟨_, v, rfl, ⟨hV, (by decide : Rg (-2) 2 ((-1) : Int32)), trivial⟩, by rw [ht]; exact hP, hD⟩, hS.F ht⟩) hS.2.2 dX12_verdict_39
    · have g7206 : Rg 1 1 r7203 := rg_ne_lo (k := 0) hr7203.1 (by decide) c7204 (by decide)
      refine lv_aload_n hx hb dX12_verdict_29 rfl (lv_at hl 0 rfl) ?_
      refine lv_iload_n hx hb dX12_verdict_30 rfl (lv_at hl 1 rfl) ?_
      refine lv_iload_n hx hb dX12_verdict_31 rfl (lv_at hl 2 rfl) ?_
      refine wk_sv 0 (As := [.int x0, .int x1]) (rest := []) ⟨hx, hb, hml, hown, hts⟩ (w_X12_verdictOf l D cI cS b L v hL hV x0 x1 g7198 g7199) hKK hP (ci := 12) rfl rfl (cwV 2 hts gX12_verdict_X12_verdictOf rfl rfl rfl (by decide +kernel) ⟨Nat.le_of_ble_eq_true rfl, Nat.le_of_ble_eq_true rfl⟩) rfl hl.1 rfl (Nat.le_of_ble_eq_true rfl) dX12_verdict_32 ⟨Nat.le_of_ble_eq_true rfl, Nat.le_of_ble_eq_true rfl⟩ (fun r7207 hr7207 => ?_)
      refine lv_goto (tgt := 39) hx hb dX12_verdict_35 (by decide) ?_
      subst hAe
      exact W.iret (v := r7207) hx hb hr (fun t ht hW => ⟨⟨_, v, rfl, ⟨hV, (rg_w hr7207.1 (by decide) (by decide)), trivial⟩, by rw [ht]; exact hP, hD⟩, hS.F ht⟩) hS.2.2 dX12_verdict_39
  · have g7208 : Rg 0 0 r7196 := wk_eql hr7196.1 (by decide : Rg 0 0 (0 : Int32)) c7197 (by decide)
    refine lv_bipush (v := (-2)) hx hb dX12_verdict_9 (by decide) ?_
    subst hAe
    exact W.iret (v := (-2)) hx hb hr (fun t ht hW => ⟨⟨_, v, rfl, ⟨hV, (by decide : Rg (-2) 2 ((-2) : Int32)), trivial⟩, by rw [ht]; exact hP, hD⟩, hS.F ht⟩) hS.2.2 dX12_verdict_11
set_option maxRecDepth 20000 in
theorem ggX12_twos_X12_all : GoodIn wsX12_twos wsX12_all := goodIn_r _ [13, 1, 24, 25, 26, 27, 28, 29, 30, 31, 32, 33, 34, 35, 36, 37, 38, 39, 40, 41, 42, 43, 44, 45, 46, 47] (by decide +kernel) (by decide +kernel)
set_option maxRecDepth 20000 in
theorem gX12_twos_X12_all : GoodIn wsX12_twos (wsV RX12 70 RX12 yX12_all wsX12_all) := goodIn_app (goodIn_of _ (by decide +kernel)) ggX12_twos_X12_all
set_option maxRecDepth 20000 in
theorem ggX12_twos_X12_verdictOf : GoodIn wsX12_twos wsX12_verdictOf := goodIn_r _ [23, 3, 9, 10, 11, 12, 7, 13, 1, 24, 25, 26, 27, 28, 29, 30, 31, 32, 33, 34, 35, 36, 37, 38, 39, 40, 41, 42, 43, 44, 45, 46, 47] (by decide +kernel) (by decide +kernel)
set_option maxRecDepth 20000 in
theorem gX12_twos_X12_verdictOf : GoodIn wsX12_twos (wsV RX12 150 RX12 yX12_verdictOf wsX12_verdictOf) := goodIn_app (goodIn_of _ (by decide +kernel)) ggX12_twos_X12_verdictOf
theorem dX12_twos_102 : decode cX12_twos 102 = .ok (.iaload, 1) := by decide +kernel
theorem dX12_twos_103 : decode cX12_twos 103 = .ok (.if_icmp .ge 6, 3) := by decide +kernel
theorem dX12_twos_106 : decode cX12_twos 106 = .ok (.goto 27, 3) := by decide +kernel
theorem dX12_twos_109 : decode cX12_twos 109 = .ok (.iload 4, 2) := by decide +kernel
theorem dX12_twos_111 : decode cX12_twos 111 = .ok (.iconst (-1), 1) := by decide +kernel
theorem dX12_twos_112 : decode cX12_twos 112 = .ok (.if_icmp .ne 14, 3) := by decide +kernel
theorem dX12_twos_115 : decode cX12_twos 115 = .ok (.bipush 12, 2) := by decide +kernel
theorem dX12_twos_117 : decode cX12_twos 117 = .ok (.iload 6, 2) := by decide +kernel
theorem dX12_twos_119 : decode cX12_twos 119 = .ok (.imul, 1) := by decide +kernel
theorem dX12_twos_120 : decode cX12_twos 120 = .ok (.iload 7, 2) := by decide +kernel
theorem dX12_twos_122 : decode cX12_twos 122 = .ok (.iadd, 1) := by decide +kernel
theorem dX12_twos_123 : decode cX12_twos 123 = .ok (.goto 5, 3) := by decide +kernel
theorem dX12_twos_126 : decode cX12_twos 126 = .ok (.iload 4, 2) := by decide +kernel
theorem dX12_twos_128 : decode cX12_twos 128 = .ok (.istore 4, 2) := by decide +kernel
theorem dX12_twos_130 : decode cX12_twos 130 = .ok (.iinc 5 1, 3) := by decide +kernel
theorem dX12_twos_133 : decode cX12_twos 133 = .ok (.iinc 7 1, 3) := by decide +kernel
theorem dX12_twos_136 : decode cX12_twos 136 = .ok (.goto (-108), 3) := by decide +kernel
theorem dX12_twos_139 : decode cX12_twos 139 = .ok (.iinc 6 1, 3) := by decide +kernel
theorem dX12_twos_142 : decode cX12_twos 142 = .ok (.goto (-129), 3) := by decide +kernel
theorem dX12_twos_22 : decode cX12_twos 22 = .ok (.iload 6, 2) := by decide +kernel
theorem dX12_twos_24 : decode cX12_twos 24 = .ok (.iconst 1, 1) := by decide +kernel
theorem dX12_twos_25 : decode cX12_twos 25 = .ok (.iadd, 1) := by decide +kernel
theorem dX12_twos_26 : decode cX12_twos 26 = .ok (.istore 7, 2) := by decide +kernel
theorem dX12_twos_28 : decode cX12_twos 28 = .ok (.iload 7, 2) := by decide +kernel
theorem dX12_twos_30 : decode cX12_twos 30 = .ok (.aload_n 0, 1) := by decide +kernel
theorem dX12_twos_31 : decode cX12_twos 31 = .ok (.getfield 63, 3) := by decide +kernel
theorem dX12_twos_34 : decode cX12_twos 34 = .ok (.if_icmp .ge 105, 3) := by decide +kernel
theorem dX12_twos_37 : decode cX12_twos 37 = .ok (.aload_n 0, 1) := by decide +kernel
theorem dX12_twos_38 : decode cX12_twos 38 = .ok (.getfield 13, 3) := by decide +kernel
theorem dX12_twos_41 : decode cX12_twos 41 = .ok (.iload 6, 2) := by decide +kernel
theorem dX12_twos_43 : decode cX12_twos 43 = .ok (.iaload, 1) := by decide +kernel
theorem dX12_twos_44 : decode cX12_twos 44 = .ok (.iload 7, 2) := by decide +kernel
theorem dX12_twos_46 : decode cX12_twos 46 = .ok (.ishr, 1) := by decide +kernel
theorem dX12_twos_47 : decode cX12_twos 47 = .ok (.iconst 1, 1) := by decide +kernel
theorem dX12_twos_48 : decode cX12_twos 48 = .ok (.iand, 1) := by decide +kernel
theorem dX12_twos_49 : decode cX12_twos 49 = .ok (.iload_n 1, 1) := by decide +kernel
theorem dX12_twos_50 : decode cX12_twos 50 = .ok (.if_icmp .ne 83, 3) := by decide +kernel
theorem dX12_twos_53 : decode cX12_twos 53 = .ok (.iload_n 1, 1) := by decide +kernel
theorem dX12_twos_54 : decode cX12_twos 54 = .ok (.iconst 1, 1) := by decide +kernel
theorem dX12_twos_55 : decode cX12_twos 55 = .ok (.if_icmp .ne 18, 3) := by decide +kernel
theorem dX12_twos_58 : decode cX12_twos 58 = .ok (.aload_n 0, 1) := by decide +kernel
theorem dX12_twos_59 : decode cX12_twos 59 = .ok (.iload 6, 2) := by decide +kernel
theorem dX12_twos_61 : decode cX12_twos 61 = .ok (.iload 7, 2) := by decide +kernel
theorem dX12_twos_63 : decode cX12_twos 63 = .ok (.invokevirtual 150, 3) := by decide +kernel
theorem dX12_twos_66 : decode cX12_twos 66 = .ok (.iload_n 2, 1) := by decide +kernel
theorem dX12_twos_67 : decode cX12_twos 67 = .ok (.if_icmp .eq 42, 3) := by decide +kernel
theorem dX12_twos_70 : decode cX12_twos 70 = .ok (.goto 63, 3) := by decide +kernel
theorem dX12_twos_73 : decode cX12_twos 73 = .ok (.aload_n 0, 1) := by decide +kernel
theorem dX12_twos_74 : decode cX12_twos 74 = .ok (.getfield 17, 3) := by decide +kernel
theorem dX12_twos_77 : decode cX12_twos 77 = .ok (.aload_n 0, 1) := by decide +kernel
theorem dX12_twos_78 : decode cX12_twos 78 = .ok (.invokevirtual 70, 3) := by decide +kernel
theorem dX12_twos_81 : decode cX12_twos 81 = .ok (.iconst 1, 1) := by decide +kernel
theorem dX12_twos_82 : decode cX12_twos 82 = .ok (.iload 6, 2) := by decide +kernel
theorem dX12_twos_84 : decode cX12_twos 84 = .ok (.ishl, 1) := by decide +kernel
theorem dX12_twos_85 : decode cX12_twos 85 = .ok (.iconst 1, 1) := by decide +kernel
theorem dX12_twos_86 : decode cX12_twos 86 = .ok (.iload 7, 2) := by decide +kernel
theorem dX12_twos_88 : decode cX12_twos 88 = .ok (.ishl, 1) := by decide +kernel
theorem dX12_twos_89 : decode cX12_twos 89 = .ok (.ior, 1) := by decide +kernel
theorem dX12_twos_90 : decode cX12_twos 90 = .ok (.iconst (-1), 1) := by decide +kernel
theorem dX12_twos_91 : decode cX12_twos 91 = .ok (.ixor, 1) := by decide +kernel
theorem dX12_twos_92 : decode cX12_twos 92 = .ok (.iand, 1) := by decide +kernel
theorem dX12_twos_93 : decode cX12_twos 93 = .ok (.iaload, 1) := by decide +kernel
theorem dX12_twos_94 : decode cX12_twos 94 = .ok (.aload_n 0, 1) := by decide +kernel
theorem dX12_twos_95 : decode cX12_twos 95 = .ok (.getfield 17, 3) := by decide +kernel
theorem dX12_twos_98 : decode cX12_twos 98 = .ok (.aload_n 0, 1) := by decide +kernel
theorem dX12_twos_99 : decode cX12_twos 99 = .ok (.invokevirtual 70, 3) := by decide +kernel
set_option maxHeartbeats 4000000 in
set_option maxRecDepth 100000 in
theorem w_X12_twos (l : Launch) (D : va_G) (cI cS : ClassId) (sz : Nat) (b : Nat → Nat) (L v : SU) (hL : TyL L) (hV : TyV v) (x0 x1 x2 : Int32) (px0 : Rg 0 1 x0) : Met l yX12_twos wsX12_twos ({ frames := 3, cells := 0, slots := 0, locals := 120 }) (PQ D cI cS (wM cI b L v) sz [.ref (b 0), .int x0, .int x1, .int x2]) (QF (S := SU) D (wM cI b L v) (wM cI b L) sz (fun r u => TyV u ∧ Rg (-2147483648) 2147483647 r ∧ True)) 0 0 (va_A (wM cI b L v) sz) := by
  refine Met.ofW (cc := cX12_twos) (maxL := 8) (ret := (some .int)) (by decide) rfl ?_
  intro p e s m args below meth c s₁ B hml hv
  obtain ⟨rfl, hsz, hP, hKK, hD0⟩ := hv
  have hx := B.exec
  have hb := B.bytes
  have hr := B.returns
  have hts := atoms_spec (ws := wsX12_twos) B.pre
  have hown : s.vm.findClass RX12 = some m.cls := findClass_of_methodNamed B.named
  have hlocks := B.notSynchronized
  have hK := hKK.1
  have hin12 : ∀ w ∈ wsX120, w ∈ wsX12_twos := by decide +kernel
  subst hsz
  have hD := hD0.self (sz := s.heap.size)
  obtain ⟨A, hAe⟩ : ∃ A, A = va_A (wM cI b L v) s.heap.size := ⟨_, rfl⟩
  rw [← hAe] at hD
  have hA : ∀ q : Nat, s.heap.size ≤ q → A q := fun q h => by rw [hAe]; exact Or.inr h
  have hS : va_S A s.heap s.heap [] := va_S.rf
  have hl := lv_entry ([.ref (b 0), .int x0, .int x1, .int x2]) (n := 8) (Nat.le_of_ble_eq_true rfl)
  rw [lg_entry_eq]
  generalize (lg_sl ([.ref (b 0), .int x0, .int x1, .int x2]) ++ List.replicate (8 - (lg_sl ([.ref (b 0), .int x0, .int x1, .int x2])).length) Slot.unset).toArray = ls at hl ⊢
  have hl : lv_has ls 8 [(0, .ref (b 0)), (1, .int x0), (2, .int x1), (3, .int x2)] := hl
  have lp13 : ∀ (n13 : Nat) (y13_l4 y13_l5 y13_l6 : Int32) (v : SU) (H : Heap) (locs : List Loc) (ls : Array Slot), Rg 0 1 x0 → Rg (-1) 255 y13_l4 → Rg 0 12 y13_l6 → TyV v → va_P D cls (wM cI b L v) H → va_D A (wM cI b L v) → va_S A s.heap H locs → lv_has ls 8 [(0, .ref (b 0)), (1, .int x0), (2, .int x1), (3, .int x2), (4, .int y13_l4), (5, .int y13_l5), (6, .int y13_l6)] → 12 - y13_l6.toInt < (n13 : Int) → W p l e (headSpec wsX12_twos ({ frames := 3, cells := 0, slots := 0, locals := 120 })).room s m ([.ref (b 0), .int x0, .int x1, .int x2]).toArray below meth c H locs 0 0 (MQ below (QF (S := SU) D (wM cI b L v) (wM cI b L) s.heap.size (fun r u => TyV u ∧ Rg (-2147483648) 2147483647 r ∧ True)) ([.ref (b 0), .int x0, .int x1, .int x2]).toArray s 0 0 (va_A (wM cI b L v) s.heap.size)) (F0 m 13 ls []) := by
    intro n13
    induction n13 with
    | zero =>
      intro y13_l4 y13_l5 y13_l6 v H locs ls g13_l1 g13_l4 g13_l6 hV hP hD hS hl hm13
      exact absurd rfl (me_z g13_l6 hm13)
    | succ n13 ih13 =>
      intro y13_l4 y13_l5 y13_l6 v H locs ls g13_l1 g13_l4 g13_l6 hV hP hD hS hl hm13
      have lp28 : ∀ (n28 : Nat) (y28_l4 y28_l5 y28_l7 : Int32) (v : SU) (H : Heap) (locs : List Loc) (ls : Array Slot), Rg 0 1 x0 → Rg (-1) 255 y28_l4 → Rg 0 11 y13_l6 → Rg 1 12 y28_l7 → TyV v → va_P D cls (wM cI b L v) H → va_D A (wM cI b L v) → va_S A s.heap H locs → lv_has ls 8 [(0, .ref (b 0)), (1, .int x0), (2, .int x1), (3, .int x2), (4, .int y28_l4), (5, .int y28_l5), (6, .int y13_l6), (7, .int y28_l7)] → 12 - y28_l7.toInt < (n28 : Int) → W p l e (headSpec wsX12_twos ({ frames := 3, cells := 0, slots := 0, locals := 120 })).room s m ([.ref (b 0), .int x0, .int x1, .int x2]).toArray below meth c H locs 0 0 (MQ below (QF (S := SU) D (wM cI b L v) (wM cI b L) s.heap.size (fun r u => TyV u ∧ Rg (-2147483648) 2147483647 r ∧ True)) ([.ref (b 0), .int x0, .int x1, .int x2]).toArray s 0 0 (va_A (wM cI b L v) s.heap.size)) (F0 m 28 ls []) := by
        intro n28
        induction n28 with
        | zero =>
          intro y28_l4 y28_l5 y28_l7 v H locs ls g28_l1 g28_l4 g28_l6 g28_l7 hV hP hD hS hl hm28
          exact absurd rfl (me_z g28_l7 hm28)
        | succ n28 ih28 =>
          intro y28_l4 y28_l5 y28_l7 v H locs ls g28_l1 g28_l4 g28_l6 g28_l7 hV hP hD hS hl hm28
          have ct109 : ∀ (v : SU) (H : Heap) (locs : List Loc) (ls : Array Slot), Rg 0 1 x0 → Rg (-1) 255 y28_l4 → Rg 0 11 y13_l6 → Rg 1 11 y28_l7 → TyV v → va_P D cls (wM cI b L v) H → va_D A (wM cI b L v) → va_S A s.heap H locs → lv_has ls 8 [(0, .ref (b 0)), (1, .int x0), (2, .int x1), (3, .int x2), (4, .int y28_l4), (5, .int y28_l5), (6, .int y13_l6), (7, .int y28_l7)] → W p l e (headSpec wsX12_twos ({ frames := 3, cells := 0, slots := 0, locals := 120 })).room s m ([.ref (b 0), .int x0, .int x1, .int x2]).toArray below meth c H locs 0 0 (MQ below (QF (S := SU) D (wM cI b L v) (wM cI b L) s.heap.size (fun r u => TyV u ∧ Rg (-2147483648) 2147483647 r ∧ True)) ([.ref (b 0), .int x0, .int x1, .int x2]).toArray s 0 0 (va_A (wM cI b L v) s.heap.size)) (F0 m 109 ls []) := by
            intro v H locs ls g109_l1 g109_l4 g109_l6 g109_l7 hV hP hD hS hl
            refine lv_iload hx hb dX12_twos_109 (lv_at hl 4 rfl) ?_
            refine lv_iconst (v := (-1)) hx hb dX12_twos_111 (by decide) ?_
            refine lv_icmp_ne (tgt := 126) hx hb dX12_twos_112 (by decide) (fun c8668 => ?_) (fun c8668 => ?_)
            · have g8669 : Rg 0 255 y28_l4 := rg_ne_lo (k := (-1)) g109_l4 (by decide) c8668 (by decide)
              refine lv_iload hx hb dX12_twos_126 (lv_at hl 4 rfl) ?_
              refine lv_istore (lv' := [(4, .int y28_l4), (0, .ref (b 0)), (1, .int x0), (2, .int x1), (3, .int x2), (5, .int y28_l5), (6, .int y13_l6), (7, .int y28_l7)]) hx hb dX12_twos_128 hl (by decide) rfl (fun ls hl => ?_)
              refine wk_iincA (lv' := fun r => [(5, .int r), (4, .int y28_l4), (0, .ref (b 0)), (1, .int x0), (2, .int x1), (3, .int x2), (6, .int y13_l6), (7, .int y28_l7)]) hx hb dX12_twos_130 hl (k := 5) rfl (by decide) (fun _ => rfl) (fun r8670 ls hl => ?_)
              refine wk_iinc (lv' := fun r => [(7, .int r), (5, .int r8670), (4, .int y28_l4), (0, .ref (b 0)), (1, .int x0), (2, .int x1), (3, .int x2), (6, .int y13_l6)]) (e := 2) (f := 12) hx hb dX12_twos_133 hl (k := 7) rfl (by decide) g109_l7 (by decide) (fun _ => rfl) (fun r8671 ls hr8671 er8671 hl => ?_)
              refine lv_goto (tgt := 28) hx hb dX12_twos_136 (by decide) ?_
              exact ih28 _ y28_l4 r8670 r8671 v _ _ ls g109_l1 (rg_w g8669 (by decide) (by decide)) g109_l6 (rg_w hr8671 (by decide) (by decide)) hV hP hD hS (lv_sub (l' := [(0, .ref (b 0)), (1, .int x0), (2, .int x1), (3, .int x2), (4, .int y28_l4), (5, .int r8670), (6, .int y13_l6), (7, .int r8671)]) hl [3, 4, 5, 6, 2, 1, 7, 0] rfl) (me_up hm28 er8671 (by decide))
            · have g8672 : Rg (-1) (-1) y28_l4 := wk_eql g109_l4 (by decide : Rg (-1) (-1) ((-1) : Int32)) c8668 (by decide)
              refine lv_bipush (v := 12) hx hb dX12_twos_115 (by decide) ?_
              refine lv_iload hx hb dX12_twos_117 (lv_at hl 6 rfl) ?_
              refine wk_imul (f := 132) hx hb dX12_twos_119 (by decide : Rg 0 12 (12 : Int32)) g109_l6 (by decide) (fun r8673 hr8673 er8673 qr8673 => ?_)
              refine lv_iload hx hb dX12_twos_120 (lv_at hl 7 rfl) ?_
              refine wk_iadd (e := 1) (f := 143) hx hb dX12_twos_122 hr8673 g109_l7 (by decide) (fun r8674 hr8674 er8674 qr8674 => ?_)
              refine lv_goto (tgt := 128) hx hb dX12_twos_123 (by decide) ?_
              refine lv_istore (lv' := [(4, .int r8674), (0, .ref (b 0)), (1, .int x0), (2, .int x1), (3, .int x2), (5, .int y28_l5), (6, .int y13_l6), (7, .int y28_l7)]) hx hb dX12_twos_128 hl (by decide) rfl (fun ls hl => ?_)
              refine wk_iincA (lv' := fun r => [(5, .int r), (4, .int r8674), (0, .ref (b 0)), (1, .int x0), (2, .int x1), (3, .int x2), (6, .int y13_l6), (7, .int y28_l7)]) hx hb dX12_twos_130 hl (k := 5) rfl (by decide) (fun _ => rfl) (fun r8675 ls hl => ?_)
              refine wk_iinc (lv' := fun r => [(7, .int r), (5, .int r8675), (4, .int r8674), (0, .ref (b 0)), (1, .int x0), (2, .int x1), (3, .int x2), (6, .int y13_l6)]) (e := 2) (f := 12) hx hb dX12_twos_133 hl (k := 7) rfl (by decide) g109_l7 (by decide) (fun _ => rfl) (fun r8676 ls hr8676 er8676 hl => ?_)
              refine lv_goto (tgt := 28) hx hb dX12_twos_136 (by decide) ?_
              exact ih28 _ r8674 r8675 r8676 v _ _ ls g109_l1 (rg_w hr8674 (by decide) (by decide)) g109_l6 (rg_w hr8676 (by decide) (by decide)) hV hP hD hS (lv_sub (l' := [(0, .ref (b 0)), (1, .int x0), (2, .int x1), (3, .int x2), (4, .int r8674), (5, .int r8675), (6, .int y13_l6), (7, .int r8676)]) hl [3, 4, 5, 6, 2, 1, 7, 0] rfl) (me_up hm28 er8676 (by decide))
          refine lv_iload hx hb dX12_twos_28 (lv_at hl 7 rfl) ?_
          refine lv_aload_n hx hb dX12_twos_30 rfl (lv_at hl 0 rfl) ?_
          refine va_get (D := D) (ci := 12) (v := .int (L 0 0)) (C := RX12) (T := TX12) (N := 24) hx hb hts hin12 hown hK hP 0 rfl rfl 0 (by decide) (hts (.fieldLink RX12 63 "MissedPointsModel" "many" "I") (by decide +kernel)) (fun _ h9 => h9) rfl dX12_twos_31 ?_
          refine lv_icmp_ge (tgt := 139) hx hb dX12_twos_34 (by decide) (fun c8677 => ?_) (fun c8677 => ?_)
          · refine wk_iinc (lv' := fun r => [(6, .int r), (0, .ref (b 0)), (1, .int x0), (2, .int x1), (3, .int x2), (4, .int y28_l4), (5, .int y28_l5), (7, .int y28_l7)]) (e := 1) (f := 12) hx hb dX12_twos_139 hl (k := 6) rfl (by decide) g28_l6 (by decide) (fun _ => rfl) (fun r8678 ls hr8678 er8678 hl => ?_)
            refine lv_goto (tgt := 13) hx hb dX12_twos_142 (by decide) ?_
            exact ih13 _ y28_l4 y28_l5 r8678 v _ _ ls g28_l1 g28_l4 (rg_w hr8678 (by decide) (by decide)) hV hP hD hS (lv_sub (l' := [(0, .ref (b 0)), (1, .int x0), (2, .int x1), (3, .int x2), (4, .int y28_l4), (5, .int y28_l5), (6, .int r8678)]) hl [1, 2, 3, 4, 5, 6, 0] rfl) (me_up hm13 er8678 (by decide))
          · have g8679 : Rg 2 12 (L 0 0) := rg_ltr g28_l7 hL.1 (rg_nle c8677) (by decide)
            have g8680 : Rg 1 11 y28_l7 := rg_ltl g28_l7 hL.1 (rg_nle c8677) (by decide)
            refine lv_aload_n hx hb dX12_twos_37 rfl (lv_at hl 0 rfl) ?_
            refine va_get (D := D) (ci := 12) (v := .ref (b 1)) (C := RX12) (T := TX12) (N := 24) hx hb hts hin12 hown hK hP 0 rfl rfl 2 (by decide) (hts (.fieldLink RX12 13 "MissedPointsModel" "near" "[I") (by decide +kernel)) (fun _ h9 => h9) rfl dX12_twos_38 ?_
            refine lv_iload hx hb dX12_twos_41 (lv_at hl 6 rfl) ?_
            refine wk_ald hx hb hK hP 1 0 rfl rfl (rg_in g28_l6 (by decide) (by decide)) dX12_twos_43 hV.2.1 (fun r8681 hr8681 => ?_)
            refine lv_iload hx hb dX12_twos_44 (lv_at hl 7 rfl) ?_
            refine lv_ishr hx hb dX12_twos_46 ?_
            refine wk_topP (P := fun r => r = r8681 >>> (y28_l7 &&& 31)) rfl (fun r8682 qr8682 => ?_)
            refine lv_iconst (v := 1) hx hb dX12_twos_47 (by decide) ?_
            refine wk_iandr hx hb dX12_twos_48 (by decide : Rg 1 1 (1 : Int32)) (by decide) (fun r8683 hr8683 qr8683 => ?_)
            refine lv_iload_n hx hb dX12_twos_49 rfl (lv_at hl 1 rfl) ?_
            refine lv_icmp_ne (tgt := 133) hx hb dX12_twos_50 (by decide) (fun c8684 => ?_) (fun c8684 => ?_)
            · refine wk_iinc (lv' := fun r => [(7, .int r), (0, .ref (b 0)), (1, .int x0), (2, .int x1), (3, .int x2), (4, .int y28_l4), (5, .int y28_l5), (6, .int y13_l6)]) (e := 2) (f := 12) hx hb dX12_twos_133 hl (k := 7) rfl (by decide) g8680 (by decide) (fun _ => rfl) (fun r8685 ls hr8685 er8685 hl => ?_)
              refine lv_goto (tgt := 28) hx hb dX12_twos_136 (by decide) ?_
              exact ih28 _ y28_l4 y28_l5 r8685 v _ _ ls g28_l1 g28_l4 g28_l6 (rg_w hr8685 (by decide) (by decide)) hV hP hD hS (lv_sub (l' := [(0, .ref (b 0)), (1, .int x0), (2, .int x1), (3, .int x2), (4, .int y28_l4), (5, .int y28_l5), (6, .int y13_l6), (7, .int r8685)]) hl [1, 2, 3, 4, 5, 6, 7, 0] rfl) (me_up hm28 er8685 (by decide))
            · refine lv_iload_n hx hb dX12_twos_53 rfl (lv_at hl 1 rfl) ?_
              refine lv_iconst (v := 1) hx hb dX12_twos_54 (by decide) ?_
              refine lv_icmp_ne (tgt := 73) hx hb dX12_twos_55 (by decide) (fun c8686 => ?_) (fun c8686 => ?_)
              · have g8687 : Rg 0 0 x0 := rg_ne_hi (k := 1) g28_l1 (by decide) c8686 (by decide)
                refine lv_aload_n hx hb dX12_twos_73 rfl (lv_at hl 0 rfl) ?_
                refine va_get (D := D) (ci := 12) (v := .ref (b 2)) (C := RX12) (T := TX12) (N := 24) hx hb hts hin12 hown hK hP 0 rfl rfl 3 (by decide) (hts (.fieldLink RX12 17 "MissedPointsModel" "pairs" "[I") (by decide +kernel)) (fun _ h9 => h9) rfl dX12_twos_74 ?_
                refine lv_aload_n hx hb dX12_twos_77 rfl (lv_at hl 0 rfl) ?_
                refine wk_sv 0 (As := []) (rest := [.ref (b 2)]) ⟨hx, hb, hml, hown, hts⟩ (w_X12_all l D cI cS b L v hL hV) hKK hP (ci := 12) rfl rfl (cwV 0 hts gX12_twos_X12_all rfl rfl rfl (by decide +kernel) ⟨Nat.le_of_ble_eq_true rfl, Nat.le_of_ble_eq_true rfl⟩) rfl hl.1 rfl (Nat.le_of_ble_eq_true rfl) dX12_twos_78 ⟨Nat.le_of_ble_eq_true rfl, Nat.le_of_ble_eq_true rfl⟩ (fun r8688 hr8688 => ?_)
                refine lv_iconst (v := 1) hx hb dX12_twos_81 (by decide) ?_
                refine lv_iload hx hb dX12_twos_82 (lv_at hl 6 rfl) ?_
                refine wk_ishl1 (f := 2048) hx hb dX12_twos_84 g28_l6 (by decide) (fun r8689 hr8689 qr8689 => ?_)
                refine lv_iconst (v := 1) hx hb dX12_twos_85 (by decide) ?_
                refine lv_iload hx hb dX12_twos_86 (lv_at hl 7 rfl) ?_
                refine wk_ishl1 (f := 2048) hx hb dX12_twos_88 (rg_w g8680 (by decide) (by decide)) (by decide) (fun r8690 hr8690 qr8690 => ?_)
                refine wk_ior 12 (e := 1) (f := 4095) hx hb dX12_twos_89 hr8689 hr8690 (by decide) (fun r8691 hr8691 qr8691 => ?_)
                refine lv_iconst (v := (-1)) hx hb dX12_twos_90 (by decide) ?_
                refine lv_ixor hx hb dX12_twos_91 ?_
                refine wk_topP (P := fun r => r = r8691 ^^^ ((-1) : Int32)) rfl (fun r8692 qr8692 => ?_)
                refine wk_iandl hx hb dX12_twos_92 hr8688.1 (by decide) (fun r8693 hr8693 qr8693 => ?_)
                refine wk_aldA hx hb hK hP 2 0 rfl rfl (rg_in hr8693 (by decide) (by decide)) dX12_twos_93 (fun r8694 => ?_)
                refine lv_aload_n hx hb dX12_twos_94 rfl (lv_at hl 0 rfl) ?_
                refine va_get (D := D) (ci := 12) (v := .ref (b 2)) (C := RX12) (T := TX12) (N := 24) hx hb hts hin12 hown hK hP 0 rfl rfl 3 (by decide) (hts (.fieldLink RX12 17 "MissedPointsModel" "pairs" "[I") (by decide +kernel)) (fun _ h9 => h9) rfl dX12_twos_95 ?_
                refine lv_aload_n hx hb dX12_twos_98 rfl (lv_at hl 0 rfl) ?_
                refine wk_sv 0 (As := []) (rest := [.ref (b 2), .int r8694]) ⟨hx, hb, hml, hown, hts⟩ (w_X12_all l D cI cS b L v hL hV) hKK hP (ci := 12) rfl rfl (cwV 0 hts gX12_twos_X12_all rfl rfl rfl (by decide +kernel) ⟨Nat.le_of_ble_eq_true rfl, Nat.le_of_ble_eq_true rfl⟩) rfl hl.1 rfl (Nat.le_of_ble_eq_true rfl) dX12_twos_99 ⟨Nat.le_of_ble_eq_true rfl, Nat.le_of_ble_eq_true rfl⟩ (fun r8695 hr8695 => ?_)
                refine wk_aldA hx hb hK hP 2 0 rfl rfl (rg_in hr8695.1 (by decide) (by decide)) dX12_twos_102 (fun r8696 => ?_)
                refine lv_icmp_ge (tgt := 109) hx hb dX12_twos_103 (by decide) (fun c8697 => ?_) (fun c8697 => ?_)
                · exact ct109 v _ _ ls (rg_w g8687 (by decide) (by decide)) g28_l4 g28_l6 g8680 hV hP hD hS (lv_sub (l' := [(0, .ref (b 0)), (1, .int x0), (2, .int x1), (3, .int x2), (4, .int y28_l4), (5, .int y28_l5), (6, .int y13_l6), (7, .int y28_l7)]) hl [0, 1, 2, 3, 4, 5, 6, 7] rfl)
                · refine lv_goto (tgt := 133) hx hb dX12_twos_106 (by decide) ?_
                  refine wk_iinc (lv' := fun r => [(7, .int r), (0, .ref (b 0)), (1, .int x0), (2, .int x1), (3, .int x2), (4, .int y28_l4), (5, .int y28_l5), (6, .int y13_l6)]) (e := 2) (f := 12) hx hb dX12_twos_133 hl (k := 7) rfl (by decide) g8680 (by decide) (fun _ => rfl) (fun r8698 ls hr8698 er8698 hl => ?_)
                  refine lv_goto (tgt := 28) hx hb dX12_twos_136 (by decide) ?_
                  exact ih28 _ y28_l4 y28_l5 r8698 v _ _ ls (rg_w g8687 (by decide) (by decide)) g28_l4 g28_l6 (rg_w hr8698 (by decide) (by decide)) hV hP hD hS (lv_sub (l' := [(0, .ref (b 0)), (1, .int x0), (2, .int x1), (3, .int x2), (4, .int y28_l4), (5, .int y28_l5), (6, .int y13_l6), (7, .int r8698)]) hl [1, 2, 3, 4, 5, 6, 7, 0] rfl) (me_up hm28 er8698 (by decide))
              · have g8699 : Rg 1 1 x0 := wk_eql g28_l1 (by decide : Rg 1 1 (1 : Int32)) c8686 (by decide)
                refine lv_aload_n hx hb dX12_twos_58 rfl (lv_at hl 0 rfl) ?_
                refine lv_iload hx hb dX12_twos_59 (lv_at hl 6 rfl) ?_
                refine lv_iload hx hb dX12_twos_61 (lv_at hl 7 rfl) ?_
                refine wk_sv 0 (As := [.int y13_l6, .int y28_l7]) (rest := []) ⟨hx, hb, hml, hown, hts⟩ (w_X12_verdictOf l D cI cS b L v hL hV y13_l6 y28_l7 g28_l6 (rg_w g8680 (by decide) (by decide))) hKK hP (ci := 12) rfl rfl (cwV 2 hts gX12_twos_X12_verdictOf rfl rfl rfl (by decide +kernel) ⟨Nat.le_of_ble_eq_true rfl, Nat.le_of_ble_eq_true rfl⟩) rfl hl.1 rfl (Nat.le_of_ble_eq_true rfl) dX12_twos_63 ⟨Nat.le_of_ble_eq_true rfl, Nat.le_of_ble_eq_true rfl⟩ (fun r8700 hr8700 => ?_)
                refine lv_iload_n hx hb dX12_twos_66 rfl (lv_at hl 2 rfl) ?_
                refine lv_icmp_eq (tgt := 109) hx hb dX12_twos_67 (by decide) (fun c8701 => ?_) (fun c8701 => ?_)
                · have g8702 : Rg 0 2 x1 := wk_eqr hr8700.1 (rg_any x1) c8701 (by decide)
                  exact ct109 v _ _ ls (rg_w g8699 (by decide) (by decide)) g28_l4 g28_l6 g8680 hV hP hD hS (lv_sub (l' := [(0, .ref (b 0)), (1, .int x0), (2, .int x1), (3, .int x2), (4, .int y28_l4), (5, .int y28_l5), (6, .int y13_l6), (7, .int y28_l7)]) hl [0, 1, 2, 3, 4, 5, 6, 7] rfl)
                · refine lv_goto (tgt := 133) hx hb dX12_twos_70 (by decide) ?_
                  refine wk_iinc (lv' := fun r => [(7, .int r), (0, .ref (b 0)), (1, .int x0), (2, .int x1), (3, .int x2), (4, .int y28_l4), (5, .int y28_l5), (6, .int y13_l6)]) (e := 2) (f := 12) hx hb dX12_twos_133 hl (k := 7) rfl (by decide) g8680 (by decide) (fun _ => rfl) (fun r8703 ls hr8703 er8703 hl => ?_)
                  refine lv_goto (tgt := 28) hx hb dX12_twos_136 (by decide) ?_
                  exact ih28 _ y28_l4 y28_l5 r8703 v _ _ ls (rg_w g8699 (by decide) (by decide)) g28_l4 g28_l6 (rg_w hr8703 (by decide) (by decide)) hV hP hD hS (lv_sub (l' := [(0, .ref (b 0)), (1, .int x0), (2, .int x1), (3, .int x2), (4, .int y28_l4), (5, .int y28_l5), (6, .int y13_l6), (7, .int r8703)]) hl [1, 2, 3, 4, 5, 6, 7, 0] rfl) (me_up hm28 er8703 (by decide))
      refine lv_iload hx hb dX12_twos_13 (lv_at hl 6 rfl) ?_
      refine lv_aload_n hx hb dX12_twos_15 rfl (lv_at hl 0 rfl) ?_
      refine va_get (D := D) (ci := 12) (v := .int (L 0 0)) (C := RX12) (T := TX12) (N := 24) hx hb hts hin12 hown hK hP 0 rfl rfl 0 (by decide) (hts (.fieldLink RX12 63 "MissedPointsModel" "many" "I") (by decide +kernel)) (fun _ h9 => h9) rfl dX12_twos_16 ?_
      refine lv_icmp_ge (tgt := 145) hx hb dX12_twos_19 (by decide) (fun c8704 => ?_) (fun c8704 => ?_)
      · refine lv_iload_n hx hb dX12_twos_145 rfl (lv_at hl 3 rfl) ?_
        refine lv_if_ne (tgt := 154) hx hb dX12_twos_146 (by decide) (fun c8705 => ?_) (fun c8705 => ?_)
        · refine lv_iload hx hb dX12_twos_154 (lv_at hl 5 rfl) ?_
          subst hAe
          exact W.iret (v := y13_l5) hx hb hr (fun t ht hW => ⟨⟨_, v, rfl, ⟨hV, (rg_any y13_l5), trivial⟩, by rw [ht]; exact hP, hD⟩, hS.F ht⟩) hS.2.2 dX12_twos_156
        · have g8706 : Rg 0 0 x2 := wk_eql (rg_any x2) (by decide : Rg 0 0 (0 : Int32)) c8705 (by decide)
          refine lv_iload hx hb dX12_twos_149 (lv_at hl 4 rfl) ?_
          refine lv_goto (tgt := 156) hx hb dX12_twos_151 (by decide) ?_
          subst hAe
          exact W.iret (v := y13_l4) hx hb hr (fun t ht hW => ⟨⟨_, v, rfl, ⟨hV, (rg_any y13_l4), trivial⟩, by rw [ht]; exact hP, hD⟩, hS.F ht⟩) hS.2.2 dX12_twos_156
      · have g8707 : Rg 1 12 (L 0 0) := rg_ltr g13_l6 hL.1 (rg_nle c8704) (by decide)
        have g8708 : Rg 0 11 y13_l6 := rg_ltl g13_l6 hL.1 (rg_nle c8704) (by decide)
        refine lv_iload hx hb dX12_twos_22 (lv_at hl 6 rfl) ?_
        refine lv_iconst (v := 1) hx hb dX12_twos_24 (by decide) ?_
        refine wk_iadd (e := 1) (f := 12) hx hb dX12_twos_25 g8708 (by decide : Rg 1 1 (1 : Int32)) (by decide) (fun r8709 hr8709 er8709 qr8709 => ?_)
        refine lv_istore (lv' := [(7, .int r8709), (0, .ref (b 0)), (1, .int x0), (2, .int x1), (3, .int x2), (4, .int y13_l4), (5, .int y13_l5), (6, .int y13_l6)]) hx hb dX12_twos_26 hl (by decide) rfl (fun ls hl => ?_)
        exact lp28 12 y13_l4 y13_l5 r8709 v _ _ ls g13_l1 g13_l4 g8708 hr8709 hV hP hD hS (lv_sub (l' := [(0, .ref (b 0)), (1, .int x0), (2, .int x1), (3, .int x2), (4, .int y13_l4), (5, .int y13_l5), (6, .int y13_l6), (7, .int r8709)]) hl [1, 2, 3, 4, 5, 6, 7, 0] rfl) (me_i hr8709 (by decide))
  refine lv_aload_n hx hb dX12_twos_0 rfl (lv_at hl 0 rfl) ?_
  refine wk_qv (wM cI b L) v (As := []) (rest := []) ⟨hx, hb, hml, hown, hts⟩ (w_X12_reckons l D cI cS _ b L v hL hV) hKK hP hD hS hA 0 (ci := 12) rfl rfl (cwV 0 hts gX12_twos_X12_reckons rfl rfl rfl (by decide +kernel) ⟨Nat.le_of_ble_eq_true rfl, Nat.le_of_ble_eq_true rfl⟩) rfl hl.1 rfl (Nat.le_of_ble_eq_true rfl) dX12_twos_1 ⟨Nat.le_of_ble_eq_true rfl, Nat.le_of_ble_eq_true rfl⟩ (fun v H locs hr8710 hP hD hS => ?_)
  have hV := hr8710.1
  refine lv_iconst (v := (-1)) hx hb dX12_twos_4 (by decide) ?_
  refine lv_istore (lv' := [(4, .int (-1)), (0, .ref (b 0)), (1, .int x0), (2, .int x1), (3, .int x2)]) hx hb dX12_twos_5 hl (by decide) rfl (fun ls hl => ?_)
  refine lv_iconst (v := 0) hx hb dX12_twos_7 (by decide) ?_
  refine lv_istore (lv' := [(5, .int 0), (4, .int (-1)), (0, .ref (b 0)), (1, .int x0), (2, .int x1), (3, .int x2)]) hx hb dX12_twos_8 hl (by decide) rfl (fun ls hl => ?_)
  refine lv_iconst (v := 0) hx hb dX12_twos_10 (by decide) ?_
  refine lv_istore (lv' := [(6, .int 0), (5, .int 0), (4, .int (-1)), (0, .ref (b 0)), (1, .int x0), (2, .int x1), (3, .int x2)]) hx hb dX12_twos_11 hl (by decide) rfl (fun ls hl => ?_)
  exact lp13 13 (((-1) : Int32)) (0 : Int32) (0 : Int32) v _ _ ls px0 (by decide : Rg (-1) 255 ((-1) : Int32)) (by decide : Rg 0 12 (0 : Int32)) hV hP hD hS (lv_sub (l' := [(0, .ref (b 0)), (1, .int x0), (2, .int x1), (3, .int x2), (4, .int (-1)), (5, .int 0), (6, .int 0)]) hl [3, 4, 5, 6, 2, 1, 0] rfl) (me_i (by decide : Rg 0 12 (0 : Int32)) (by decide))
set_option maxHeartbeats 4000000 in
set_option maxRecDepth 100000 in
theorem w_X12_verdicts (l : Launch) (D : va_G) (cI cS : ClassId) (sz : Nat) (b : Nat → Nat) (L v : SU) (hL : TyL L) (hV : TyV v) (x0 : Int32) : Met l yX12_verdicts wsX12_verdicts ({ frames := 4, cells := 0, slots := 0, locals := 160 }) (PQ D cI cS (wM cI b L v) sz [.ref (b 0), .int x0]) (QF (S := SU) D (wM cI b L v) (wM cI b L) sz (fun r u => TyV u ∧ Rg (-2147483648) 2147483647 r ∧ True)) 0 0 (va_A (wM cI b L v) sz) := by
  refine Met.ofW (cc := cX12_verdicts) (maxL := 2) (ret := (some .int)) (by decide) rfl ?_
  intro p e s m args below meth c s₁ B hml hv
  obtain ⟨rfl, hsz, hP, hKK, hD0⟩ := hv
  have hx := B.exec
  have hb := B.bytes
  have hr := B.returns
  have hts := atoms_spec (ws := wsX12_verdicts) B.pre
  have hown : s.vm.findClass RX12 = some m.cls := findClass_of_methodNamed B.named
  have hlocks := B.notSynchronized
  have hK := hKK.1
  subst hsz
  have hD := hD0.self (sz := s.heap.size)
  obtain ⟨A, hAe⟩ : ∃ A, A = va_A (wM cI b L v) s.heap.size := ⟨_, rfl⟩
  rw [← hAe] at hD
  have hA : ∀ q : Nat, s.heap.size ≤ q → A q := fun q h => by rw [hAe]; exact Or.inr h
  have hS : va_S A s.heap s.heap [] := va_S.rf
  have hl := lv_entry ([.ref (b 0), .int x0]) (n := 2) (Nat.le_of_ble_eq_true rfl)
  rw [lg_entry_eq]
  generalize (lg_sl ([.ref (b 0), .int x0]) ++ List.replicate (2 - (lg_sl ([.ref (b 0), .int x0])).length) Slot.unset).toArray = ls at hl ⊢
  have hl : lv_has ls 2 [(0, .ref (b 0)), (1, .int x0)] := hl
  refine lv_iload_n hx hb dX12_verdicts_0 rfl (lv_at hl 1 rfl) ?_
  refine lv_iconst (v := 0) hx hb dX12_verdicts_1 (by decide) ?_
  refine lv_iconst (v := 2) hx hb dX12_verdicts_2 (by decide) ?_
  refine lz_ss (As := [.int x0, .int 0, .int 2]) (rest := []) ⟨hx, hb, hml, hown, hts⟩ (w_X12_in l D cI cS x0 (0 : Int32) (2 : Int32)) hKK (hP.sub (ws' := []) [] rfl) (va_cwS 3 hts gX12_verdicts_X12_in rfl rfl rfl (by decide +kernel) ⟨Nat.le_of_ble_eq_true rfl, Nat.le_of_ble_eq_true rfl⟩) rfl hl.1 rfl (Nat.le_of_ble_eq_true rfl) dX12_verdicts_3 ⟨Nat.le_of_ble_eq_true rfl, Nat.le_of_ble_eq_true rfl⟩ (fun r8717 hr8717 => ?_)
  refine lv_if_eq (tgt := 19) hx hb dX12_verdicts_6 (by decide) (fun c8718 => ?_) (fun c8718 => ?_)
  · have g8719 : Rg 0 0 r8717 := wk_eql hr8717.1 (by decide : Rg 0 0 (0 : Int32)) c8718 (by decide)
    refine lv_bipush (v := (-2)) hx hb dX12_verdicts_19 (by decide) ?_
    subst hAe
    exact W.iret (v := (-2)) hx hb hr (fun t ht hW => ⟨⟨_, v, rfl, ⟨hV, (by decide : Rg (-2147483648) 2147483647 ((-2) : Int32)), trivial⟩, by rw [ht]; exact hP, hD⟩, hS.F ht⟩) hS.2.2 dX12_verdicts_21
  · have g8720 : Rg 0 2 x0 := wk_in3 (rg_any x0) (by decide : Rg 0 0 (0 : Int32)) (by decide : Rg 2 2 (2 : Int32)) (hr8717.2 c8718) (by decide)
    have g8721 : Rg 1 1 r8717 := rg_ne_lo (k := 0) hr8717.1 (by decide) c8718 (by decide)
    refine lv_aload_n hx hb dX12_verdicts_9 rfl (lv_at hl 0 rfl) ?_
    refine lv_iconst (v := 1) hx hb dX12_verdicts_10 (by decide) ?_
    refine lv_iload_n hx hb dX12_verdicts_11 rfl (lv_at hl 1 rfl) ?_
    refine lv_iconst (v := 1) hx hb dX12_verdicts_12 (by decide) ?_
    refine wk_qi (wM cI b L) v (As := [.int 1, .int x0, .int 1]) (rest := []) ⟨hx, hb, hml, hown, hts⟩ (w_X12_twos l D cI cS _ b L v hL hV (1 : Int32) x0 (1 : Int32) (by decide : Rg 0 1 (1 : Int32))) hKK hP hD hS hA 0 (ci := 12) rfl rfl (cwV 3 hts gX12_verdicts_X12_twos rfl rfl rfl (by decide +kernel) ⟨Nat.le_of_ble_eq_true rfl, Nat.le_of_ble_eq_true rfl⟩) rfl hl.1 rfl (Nat.le_of_ble_eq_true rfl) dX12_verdicts_13 ⟨Nat.le_of_ble_eq_true rfl, Nat.le_of_ble_eq_true rfl⟩ (fun r8722 v H locs hr8722 hP hD hS => ?_)
    have hV := hr8722.1
    refine lv_goto (tgt := 21) hx hb dX12_verdicts_16 (by decide) ?_
    subst hAe
    exact W.iret (v := r8722) hx hb hr (fun t ht hW => ⟨⟨_, v, rfl, ⟨hV, hr8722.2.1, trivial⟩, by rw [ht]; exact hP, hD⟩, hS.F ht⟩) hS.2.2 dX12_verdicts_21
set_option maxRecDepth 20000 in
theorem ggX12_without_X12_all : GoodIn wsX12_without wsX12_all := goodIn_r _ [20, 1, 27, 28, 29, 30, 31, 32, 33, 34, 35, 36, 37, 38, 39, 40, 41, 42, 43, 44, 45, 46, 47, 48, 49, 50] (by decide +kernel) (by decide +kernel)
set_option maxRecDepth 20000 in
theorem gX12_without_X12_all : GoodIn wsX12_without (wsV RX12 70 RX12 yX12_all wsX12_all) := goodIn_app (goodIn_of _ (by decide +kernel)) ggX12_without_X12_all
set_option maxRecDepth 20000 in
theorem ggX12_without_X12_reckons : GoodIn wsX12_without wsX12_reckons := goodIn_r _ [14, 15, 2, 1, 16, 17, 18, 19, 6, 20, 21, 22, 23, 24, 25, 26, 27, 28, 29, 30, 31, 32, 33, 34, 35, 36, 37, 38, 39, 40, 41, 42, 43, 44, 45, 46, 47, 48, 49, 50] (by decide +kernel) (by decide +kernel)
set_option maxRecDepth 20000 in
theorem gX12_without_X12_reckons : GoodIn wsX12_without (wsV RX12 107 RX12 yX12_reckons wsX12_reckons) := goodIn_app (goodIn_of _ (by decide +kernel)) ggX12_without_X12_reckons
theorem dX12_without_11 : decode cX12_without 11 = .ok (.aload_n 0, 1) := by decide +kernel
theorem dX12_without_12 : decode cX12_without 12 = .ok (.invokevirtual 107, 3) := by decide +kernel
theorem dX12_without_15 : decode cX12_without 15 = .ok (.aload_n 0, 1) := by decide +kernel
theorem dX12_without_16 : decode cX12_without 16 = .ok (.getfield 63, 3) := by decide +kernel
theorem dX12_without_19 : decode cX12_without 19 = .ok (.iconst 1, 1) := by decide +kernel
theorem dX12_without_20 : decode cX12_without 20 = .ok (.isub, 1) := by decide +kernel
theorem dX12_without_21 : decode cX12_without 21 = .ok (.iconst 2, 1) := by decide +kernel
theorem dX12_without_22 : decode cX12_without 22 = .ok (.aload_n 0, 1) := by decide +kernel
theorem dX12_without_23 : decode cX12_without 23 = .ok (.getfield 17, 3) := by decide +kernel
theorem dX12_without_26 : decode cX12_without 26 = .ok (.aload_n 0, 1) := by decide +kernel
theorem dX12_without_27 : decode cX12_without 27 = .ok (.invokevirtual 70, 3) := by decide +kernel
theorem dX12_without_30 : decode cX12_without 30 = .ok (.iconst 1, 1) := by decide +kernel
theorem dX12_without_31 : decode cX12_without 31 = .ok (.iload_n 1, 1) := by decide +kernel
theorem dX12_without_32 : decode cX12_without 32 = .ok (.ishl, 1) := by decide +kernel
theorem dX12_without_33 : decode cX12_without 33 = .ok (.iconst (-1), 1) := by decide +kernel
theorem dX12_without_34 : decode cX12_without 34 = .ok (.ixor, 1) := by decide +kernel
theorem dX12_without_35 : decode cX12_without 35 = .ok (.iand, 1) := by decide +kernel
theorem dX12_without_36 : decode cX12_without 36 = .ok (.iaload, 1) := by decide +kernel
theorem dX12_without_37 : decode cX12_without 37 = .ok (.imul, 1) := by decide +kernel
theorem dX12_without_38 : decode cX12_without 38 = .ok (.isub, 1) := by decide +kernel
theorem dX12_without_39 : decode cX12_without 39 = .ok (.ireturn, 1) := by decide +kernel
set_option maxHeartbeats 4000000 in
set_option maxRecDepth 100000 in
theorem w_X12_without (l : Launch) (D : va_G) (cI cS : ClassId) (sz : Nat) (b : Nat → Nat) (L v : SU) (hL : TyL L) (hV : TyV v) (x0 : Int32) : Met l yX12_without wsX12_without ({ frames := 3, cells := 0, slots := 0, locals := 120 }) (PQ D cI cS (wM cI b L v) sz [.ref (b 0), .int x0]) (QF (S := SU) D (wM cI b L v) (wM cI b L) sz (fun r u => TyV u ∧ Rg (-2147483648) 2147483647 r ∧ True)) 0 0 (va_A (wM cI b L v) sz) := by
  refine Met.ofW (cc := cX12_without) (maxL := 2) (ret := (some .int)) (by decide) rfl ?_
  intro p e s m args below meth c s₁ B hml hv
  obtain ⟨rfl, hsz, hP, hKK, hD0⟩ := hv
  have hx := B.exec
  have hb := B.bytes
  have hr := B.returns
  have hts := atoms_spec (ws := wsX12_without) B.pre
  have hown : s.vm.findClass RX12 = some m.cls := findClass_of_methodNamed B.named
  have hlocks := B.notSynchronized
  have hK := hKK.1
  have hin12 : ∀ w ∈ wsX120, w ∈ wsX12_without := by decide +kernel
  subst hsz
  have hD := hD0.self (sz := s.heap.size)
  obtain ⟨A, hAe⟩ : ∃ A, A = va_A (wM cI b L v) s.heap.size := ⟨_, rfl⟩
  rw [← hAe] at hD
  have hA : ∀ q : Nat, s.heap.size ≤ q → A q := fun q h => by rw [hAe]; exact Or.inr h
  have hS : va_S A s.heap s.heap [] := va_S.rf
  have hl := lv_entry ([.ref (b 0), .int x0]) (n := 2) (Nat.le_of_ble_eq_true rfl)
  rw [lg_entry_eq]
  generalize (lg_sl ([.ref (b 0), .int x0]) ++ List.replicate (2 - (lg_sl ([.ref (b 0), .int x0])).length) Slot.unset).toArray = ls at hl ⊢
  have hl : lv_has ls 2 [(0, .ref (b 0)), (1, .int x0)] := hl
  refine lv_aload_n hx hb dX12_without_0 rfl (lv_at hl 0 rfl) ?_
  refine lv_iload_n hx hb dX12_without_1 rfl (lv_at hl 1 rfl) ?_
  refine wk_sv 0 (As := [.int x0]) (rest := []) ⟨hx, hb, hml, hown, hts⟩ (w_X12_isPoint l D cI cS b L v hL hV x0) hKK hP (ci := 12) rfl rfl (cwV 1 hts gX12_without_X12_isPoint rfl rfl rfl (by decide +kernel) ⟨Nat.le_of_ble_eq_true rfl, Nat.le_of_ble_eq_true rfl⟩) rfl hl.1 rfl (Nat.le_of_ble_eq_true rfl) dX12_without_2 ⟨Nat.le_of_ble_eq_true rfl, Nat.le_of_ble_eq_true rfl⟩ (fun r8737 hr8737 => ?_)
  refine lv_if_ne (tgt := 11) hx hb dX12_without_5 (by decide) (fun c8738 => ?_) (fun c8738 => ?_)
  · have g8739 : Rg 0 11 x0 := (hr8737.2 c8738)
    have g8740 : Rg 1 1 r8737 := rg_ne_lo (k := 0) hr8737.1 (by decide) c8738 (by decide)
    refine lv_aload_n hx hb dX12_without_11 rfl (lv_at hl 0 rfl) ?_
    refine wk_qv (wM cI b L) v (As := []) (rest := []) ⟨hx, hb, hml, hown, hts⟩ (w_X12_reckons l D cI cS _ b L v hL hV) hKK hP hD hS hA 0 (ci := 12) rfl rfl (cwV 0 hts gX12_without_X12_reckons rfl rfl rfl (by decide +kernel) ⟨Nat.le_of_ble_eq_true rfl, Nat.le_of_ble_eq_true rfl⟩) rfl hl.1 rfl (Nat.le_of_ble_eq_true rfl) dX12_without_12 ⟨Nat.le_of_ble_eq_true rfl, Nat.le_of_ble_eq_true rfl⟩ (fun v H locs hr8741 hP hD hS => ?_)
    have hV := hr8741.1
    refine lv_aload_n hx hb dX12_without_15 rfl (lv_at hl 0 rfl) ?_
    refine va_get (D := D) (ci := 12) (v := .int (L 0 0)) (C := RX12) (T := TX12) (N := 24) hx hb hts hin12 hown hK hP 0 rfl rfl 0 (by decide) (hts (.fieldLink RX12 63 "MissedPointsModel" "many" "I") (by decide +kernel)) (fun _ h9 => h9) rfl dX12_without_16 ?_
    refine lv_iconst (v := 1) hx hb dX12_without_19 (by decide) ?_
    refine wk_isub (e := (-1)) (f := 11) hx hb dX12_without_20 hL.1 (by decide : Rg 1 1 (1 : Int32)) (by decide) (fun r8742 hr8742 er8742 qr8742 => ?_)
    refine lv_iconst (v := 2) hx hb dX12_without_21 (by decide) ?_
    refine lv_aload_n hx hb dX12_without_22 rfl (lv_at hl 0 rfl) ?_
    refine va_get (D := D) (ci := 12) (v := .ref (b 2)) (C := RX12) (T := TX12) (N := 24) hx hb hts hin12 hown hK hP 0 rfl rfl 3 (by decide) (hts (.fieldLink RX12 17 "MissedPointsModel" "pairs" "[I") (by decide +kernel)) (fun _ h9 => h9) rfl dX12_without_23 ?_
    refine lv_aload_n hx hb dX12_without_26 rfl (lv_at hl 0 rfl) ?_
    refine wk_sv 0 (As := []) (rest := [.ref (b 2), .int 2, .int r8742]) ⟨hx, hb, hml, hown, hts⟩ (w_X12_all l D cI cS b L v hL hV) hKK hP (ci := 12) rfl rfl (cwV 0 hts gX12_without_X12_all rfl rfl rfl (by decide +kernel) ⟨Nat.le_of_ble_eq_true rfl, Nat.le_of_ble_eq_true rfl⟩) rfl hl.1 rfl (Nat.le_of_ble_eq_true rfl) dX12_without_27 ⟨Nat.le_of_ble_eq_true rfl, Nat.le_of_ble_eq_true rfl⟩ (fun r8743 hr8743 => ?_)
    refine lv_iconst (v := 1) hx hb dX12_without_30 (by decide) ?_
    refine lv_iload_n hx hb dX12_without_31 rfl (lv_at hl 1 rfl) ?_
    refine wk_ishl1 (f := 2048) hx hb dX12_without_32 g8739 (by decide) (fun r8744 hr8744 qr8744 => ?_)
    refine lv_iconst (v := (-1)) hx hb dX12_without_33 (by decide) ?_
    refine lv_ixor hx hb dX12_without_34 ?_
    refine wk_topP (P := fun r => r = r8744 ^^^ ((-1) : Int32)) rfl (fun r8745 qr8745 => ?_)
    refine wk_iandl hx hb dX12_without_35 hr8743.1 (by decide) (fun r8746 hr8746 qr8746 => ?_)
    refine wk_aldA hx hb hK hP 2 0 rfl rfl (rg_in hr8746 (by decide) (by decide)) dX12_without_36 (fun r8747 => ?_)
    refine lv_imul hx hb dX12_without_37 ?_
    refine wk_topP (P := fun r => r = (2 : Int32) * r8747) rfl (fun r8748 qr8748 => ?_)
    refine lv_isub hx hb dX12_without_38 ?_
    refine wk_topP (P := fun r => r = r8742 - r8748) rfl (fun r8749 qr8749 => ?_)
    subst hAe
    exact W.iret (v := r8749) hx hb hr (fun t ht hW => ⟨⟨_, v, rfl, ⟨hV, (rg_any r8749), trivial⟩, by rw [ht]; exact hP, hD⟩, hS.F ht⟩) hS.2.2 dX12_without_39
  · have g8750 : Rg 0 0 r8737 := wk_eql hr8737.1 (by decide : Rg 0 0 (0 : Int32)) c8738 (by decide)
    refine lv_bipush (v := (-2)) hx hb dX12_without_8 (by decide) ?_
    subst hAe
    exact W.iret (v := (-2)) hx hb hr (fun t ht hW => ⟨⟨_, v, rfl, ⟨hV, (by decide : Rg (-2147483648) 2147483647 ((-2) : Int32)), trivial⟩, by rw [ht]; exact hP, hD⟩, hS.F ht⟩) hS.2.2 dX12_without_10
set_option maxHeartbeats 4000000 in
set_option maxRecDepth 100000 in
theorem w_X12_mends (l : Launch) (D : va_G) (cI cS : ClassId) (sz : Nat) (b : Nat → Nat) (L v : SU) (hL : TyL L) (hV : TyV v) (x0 : Int32) : Met l yX12_mends wsX12_mends ({ frames := 4, cells := 0, slots := 0, locals := 160 }) (PQ D cI cS (wM cI b L v) sz [.ref (b 0), .int x0]) (QF (S := SU) D (wM cI b L v) (wM cI b L) sz (fun r u => TyV u ∧ Rg (-2147483648) 2147483647 r ∧ True)) 0 0 (va_A (wM cI b L v) sz) := by
  refine Met.ofW (cc := cX12_mends) (maxL := 2) (ret := (some .int)) (by decide) rfl ?_
  intro p e s m args below meth c s₁ B hml hv
  obtain ⟨rfl, hsz, hP, hKK, hD0⟩ := hv
  have hx := B.exec
  have hb := B.bytes
  have hr := B.returns
  have hts := atoms_spec (ws := wsX12_mends) B.pre
  have hown : s.vm.findClass RX12 = some m.cls := findClass_of_methodNamed B.named
  have hlocks := B.notSynchronized
  have hK := hKK.1
  subst hsz
  have hD := hD0.self (sz := s.heap.size)
  obtain ⟨A, hAe⟩ : ∃ A, A = va_A (wM cI b L v) s.heap.size := ⟨_, rfl⟩
  rw [← hAe] at hD
  have hA : ∀ q : Nat, s.heap.size ≤ q → A q := fun q h => by rw [hAe]; exact Or.inr h
  have hS : va_S A s.heap s.heap [] := va_S.rf
  have hl := lv_entry ([.ref (b 0), .int x0]) (n := 2) (Nat.le_of_ble_eq_true rfl)
  rw [lg_entry_eq]
  generalize (lg_sl ([.ref (b 0), .int x0]) ++ List.replicate (2 - (lg_sl ([.ref (b 0), .int x0])).length) Slot.unset).toArray = ls at hl ⊢
  have hl : lv_has ls 2 [(0, .ref (b 0)), (1, .int x0)] := hl
  refine lv_iload_n hx hb dX12_mends_0 rfl (lv_at hl 1 rfl) ?_
  refine lv_iconst (v := 0) hx hb dX12_mends_1 (by decide) ?_
  refine lv_iconst (v := 1) hx hb dX12_mends_2 (by decide) ?_
  refine lz_ss (As := [.int x0, .int 0, .int 1]) (rest := []) ⟨hx, hb, hml, hown, hts⟩ (w_X12_in l D cI cS x0 (0 : Int32) (1 : Int32)) hKK (hP.sub (ws' := []) [] rfl) (va_cwS 3 hts gX12_mends_X12_in rfl rfl rfl (by decide +kernel) ⟨Nat.le_of_ble_eq_true rfl, Nat.le_of_ble_eq_true rfl⟩) rfl hl.1 rfl (Nat.le_of_ble_eq_true rfl) dX12_mends_3 ⟨Nat.le_of_ble_eq_true rfl, Nat.le_of_ble_eq_true rfl⟩ (fun r8757 hr8757 => ?_)
  refine lv_if_eq (tgt := 19) hx hb dX12_mends_6 (by decide) (fun c8758 => ?_) (fun c8758 => ?_)
  · have g8759 : Rg 0 0 r8757 := wk_eql hr8757.1 (by decide : Rg 0 0 (0 : Int32)) c8758 (by decide)
    refine lv_bipush (v := (-2)) hx hb dX12_mends_19 (by decide) ?_
    subst hAe
    exact W.iret (v := (-2)) hx hb hr (fun t ht hW => ⟨⟨_, v, rfl, ⟨hV, (by decide : Rg (-2147483648) 2147483647 ((-2) : Int32)), trivial⟩, by rw [ht]; exact hP, hD⟩, hS.F ht⟩) hS.2.2 dX12_mends_21
  · have g8760 : Rg 0 1 x0 := wk_in3 (rg_any x0) (by decide : Rg 0 0 (0 : Int32)) (by decide : Rg 1 1 (1 : Int32)) (hr8757.2 c8758) (by decide)
    have g8761 : Rg 1 1 r8757 := rg_ne_lo (k := 0) hr8757.1 (by decide) c8758 (by decide)
    refine lv_aload_n hx hb dX12_mends_9 rfl (lv_at hl 0 rfl) ?_
    refine lv_iconst (v := 0) hx hb dX12_mends_10 (by decide) ?_
    refine lv_iconst (v := 0) hx hb dX12_mends_11 (by decide) ?_
    refine lv_iload_n hx hb dX12_mends_12 rfl (lv_at hl 1 rfl) ?_
    refine wk_qi (wM cI b L) v (As := [.int 0, .int 0, .int x0]) (rest := []) ⟨hx, hb, hml, hown, hts⟩ (w_X12_twos l D cI cS _ b L v hL hV (0 : Int32) (0 : Int32) x0 (by decide : Rg 0 1 (0 : Int32))) hKK hP hD hS hA 0 (ci := 12) rfl rfl (cwV 3 hts gX12_mends_X12_twos rfl rfl rfl (by decide +kernel) ⟨Nat.le_of_ble_eq_true rfl, Nat.le_of_ble_eq_true rfl⟩) rfl hl.1 rfl (Nat.le_of_ble_eq_true rfl) dX12_mends_13 ⟨Nat.le_of_ble_eq_true rfl, Nat.le_of_ble_eq_true rfl⟩ (fun r8762 v H locs hr8762 hP hD hS => ?_)
    have hV := hr8762.1
    refine lv_goto (tgt := 21) hx hb dX12_mends_16 (by decide) ?_
    subst hAe
    exact W.iret (v := r8762) hx hb hr (fun t ht hW => ⟨⟨_, v, rfl, ⟨hV, hr8762.2.1, trivial⟩, by rw [ht]; exact hP, hD⟩, hS.F ht⟩) hS.2.2 dX12_mends_21
set_option maxHeartbeats 4000000 in
set_option maxRecDepth 100000 in
theorem w_X12_breaks (l : Launch) (D : va_G) (cI cS : ClassId) (sz : Nat) (b : Nat → Nat) (L v : SU) (hL : TyL L) (hV : TyV v) (x0 : Int32) : Met l yX12_breaks wsX12_breaks ({ frames := 4, cells := 0, slots := 0, locals := 160 }) (PQ D cI cS (wM cI b L v) sz [.ref (b 0), .int x0]) (QF (S := SU) D (wM cI b L v) (wM cI b L) sz (fun r u => TyV u ∧ Rg (-2147483648) 2147483647 r ∧ True)) 0 0 (va_A (wM cI b L v) sz) := by
  refine Met.ofW (cc := cX12_breaks) (maxL := 2) (ret := (some .int)) (by decide) rfl ?_
  intro p e s m args below meth c s₁ B hml hv
  obtain ⟨rfl, hsz, hP, hKK, hD0⟩ := hv
  have hx := B.exec
  have hb := B.bytes
  have hr := B.returns
  have hts := atoms_spec (ws := wsX12_breaks) B.pre
  have hown : s.vm.findClass RX12 = some m.cls := findClass_of_methodNamed B.named
  have hlocks := B.notSynchronized
  have hK := hKK.1
  subst hsz
  have hD := hD0.self (sz := s.heap.size)
  obtain ⟨A, hAe⟩ : ∃ A, A = va_A (wM cI b L v) s.heap.size := ⟨_, rfl⟩
  rw [← hAe] at hD
  have hA : ∀ q : Nat, s.heap.size ≤ q → A q := fun q h => by rw [hAe]; exact Or.inr h
  have hS : va_S A s.heap s.heap [] := va_S.rf
  have hl := lv_entry ([.ref (b 0), .int x0]) (n := 2) (Nat.le_of_ble_eq_true rfl)
  rw [lg_entry_eq]
  generalize (lg_sl ([.ref (b 0), .int x0]) ++ List.replicate (2 - (lg_sl ([.ref (b 0), .int x0])).length) Slot.unset).toArray = ls at hl ⊢
  have hl : lv_has ls 2 [(0, .ref (b 0)), (1, .int x0)] := hl
  refine lv_iload_n hx hb dX12_breaks_0 rfl (lv_at hl 1 rfl) ?_
  refine lv_iconst (v := 0) hx hb dX12_breaks_1 (by decide) ?_
  refine lv_iconst (v := 1) hx hb dX12_breaks_2 (by decide) ?_
  refine lz_ss (As := [.int x0, .int 0, .int 1]) (rest := []) ⟨hx, hb, hml, hown, hts⟩ (w_X12_in l D cI cS x0 (0 : Int32) (1 : Int32)) hKK (hP.sub (ws' := []) [] rfl) (va_cwS 3 hts gX12_breaks_X12_in rfl rfl rfl (by decide +kernel) ⟨Nat.le_of_ble_eq_true rfl, Nat.le_of_ble_eq_true rfl⟩) rfl hl.1 rfl (Nat.le_of_ble_eq_true rfl) dX12_breaks_3 ⟨Nat.le_of_ble_eq_true rfl, Nat.le_of_ble_eq_true rfl⟩ (fun r8769 hr8769 => ?_)
  refine lv_if_eq (tgt := 19) hx hb dX12_breaks_6 (by decide) (fun c8770 => ?_) (fun c8770 => ?_)
  · have g8771 : Rg 0 0 r8769 := wk_eql hr8769.1 (by decide : Rg 0 0 (0 : Int32)) c8770 (by decide)
    refine lv_bipush (v := (-2)) hx hb dX12_breaks_19 (by decide) ?_
    subst hAe
    exact W.iret (v := (-2)) hx hb hr (fun t ht hW => ⟨⟨_, v, rfl, ⟨hV, (by decide : Rg (-2147483648) 2147483647 ((-2) : Int32)), trivial⟩, by rw [ht]; exact hP, hD⟩, hS.F ht⟩) hS.2.2 dX12_breaks_21
  · have g8772 : Rg 0 1 x0 := wk_in3 (rg_any x0) (by decide : Rg 0 0 (0 : Int32)) (by decide : Rg 1 1 (1 : Int32)) (hr8769.2 c8770) (by decide)
    have g8773 : Rg 1 1 r8769 := rg_ne_lo (k := 0) hr8769.1 (by decide) c8770 (by decide)
    refine lv_aload_n hx hb dX12_breaks_9 rfl (lv_at hl 0 rfl) ?_
    refine lv_iconst (v := 1) hx hb dX12_breaks_10 (by decide) ?_
    refine lv_iconst (v := 2) hx hb dX12_breaks_11 (by decide) ?_
    refine lv_iload_n hx hb dX12_breaks_12 rfl (lv_at hl 1 rfl) ?_
    refine wk_qi (wM cI b L) v (As := [.int 1, .int 2, .int x0]) (rest := []) ⟨hx, hb, hml, hown, hts⟩ (w_X12_twos l D cI cS _ b L v hL hV (1 : Int32) (2 : Int32) x0 (by decide : Rg 0 1 (1 : Int32))) hKK hP hD hS hA 0 (ci := 12) rfl rfl (cwV 3 hts gX12_breaks_X12_twos rfl rfl rfl (by decide +kernel) ⟨Nat.le_of_ble_eq_true rfl, Nat.le_of_ble_eq_true rfl⟩) rfl hl.1 rfl (Nat.le_of_ble_eq_true rfl) dX12_breaks_13 ⟨Nat.le_of_ble_eq_true rfl, Nat.le_of_ble_eq_true rfl⟩ (fun r8774 v H locs hr8774 hP hD hS => ?_)
    have hV := hr8774.1
    refine lv_goto (tgt := 21) hx hb dX12_breaks_16 (by decide) ?_
    subst hAe
    exact W.iret (v := r8774) hx hb hr (fun t ht hW => ⟨⟨_, v, rfl, ⟨hV, hr8774.2.1, trivial⟩, by rw [ht]; exact hP, hD⟩, hS.F ht⟩) hS.2.2 dX12_breaks_21
set_option maxRecDepth 20000 in
theorem ggX12_wrongPairing_X12_has : GoodIn wsX12_wrongPairing wsX12_has := goodIn_r _ [20] (by decide +kernel) (by decide +kernel)
set_option maxRecDepth 20000 in
theorem gX12_wrongPairing_X12_has : GoodIn wsX12_wrongPairing (va_wsS RX12 59 yX12_has wsX12_has) := goodIn_app (goodIn_of _ (by decide +kernel)) ggX12_wrongPairing_X12_has
set_option maxRecDepth 20000 in
theorem ggX12_wrongPairing_X12_isPoint : GoodIn wsX12_wrongPairing wsX12_isPoint := goodIn_r _ [17, 3, 11, 12, 9, 13, 21, 22, 23, 24, 25, 26, 27, 28, 29, 30, 31, 32, 33, 34, 35, 36, 37, 38, 39, 40, 41, 42, 43, 44] (by decide +kernel) (by decide +kernel)
set_option maxRecDepth 20000 in
theorem gX12_wrongPairing_X12_isPoint : GoodIn wsX12_wrongPairing (wsV RX12 74 RX12 yX12_isPoint wsX12_isPoint) := goodIn_app (goodIn_of _ (by decide +kernel)) ggX12_wrongPairing_X12_isPoint
theorem dX12_wrongPairing_102 : decode cX12_wrongPairing 102 = .ok (.bipush (-3), 2) := by decide +kernel
theorem dX12_wrongPairing_104 : decode cX12_wrongPairing 104 = .ok (.ireturn, 1) := by decide +kernel
theorem dX12_wrongPairing_105 : decode cX12_wrongPairing 105 = .ok (.aload_n 0, 1) := by decide +kernel
theorem dX12_wrongPairing_106 : decode cX12_wrongPairing 106 = .ok (.getfield 26, 3) := by decide +kernel
theorem dX12_wrongPairing_109 : decode cX12_wrongPairing 109 = .ok (.iload_n 2, 1) := by decide +kernel
theorem dX12_wrongPairing_110 : decode cX12_wrongPairing 110 = .ok (.iload_n 3, 1) := by decide +kernel
theorem dX12_wrongPairing_111 : decode cX12_wrongPairing 111 = .ok (.iastore, 1) := by decide +kernel
theorem dX12_wrongPairing_112 : decode cX12_wrongPairing 112 = .ok (.iinc 2 1, 3) := by decide +kernel
theorem dX12_wrongPairing_115 : decode cX12_wrongPairing 115 = .ok (.goto (-74), 3) := by decide +kernel
theorem dX12_wrongPairing_118 : decode cX12_wrongPairing 118 = .ok (.iconst 0, 1) := by decide +kernel
theorem dX12_wrongPairing_119 : decode cX12_wrongPairing 119 = .ok (.ireturn, 1) := by decide +kernel
theorem dX12_wrongPairing_23 : decode cX12_wrongPairing 23 = .ok (.aload_n 0, 1) := by decide +kernel
theorem dX12_wrongPairing_24 : decode cX12_wrongPairing 24 = .ok (.getfield 41, 3) := by decide +kernel
theorem dX12_wrongPairing_27 : decode cX12_wrongPairing 27 = .ok (.iload_n 1, 1) := by decide +kernel
theorem dX12_wrongPairing_28 : decode cX12_wrongPairing 28 = .ok (.iaload, 1) := by decide +kernel
theorem dX12_wrongPairing_29 : decode cX12_wrongPairing 29 = .ok (.aload_n 0, 1) := by decide +kernel
theorem dX12_wrongPairing_30 : decode cX12_wrongPairing 30 = .ok (.getfield 63, 3) := by decide +kernel
theorem dX12_wrongPairing_33 : decode cX12_wrongPairing 33 = .ok (.if_icmp .eq 6, 3) := by decide +kernel
theorem dX12_wrongPairing_36 : decode cX12_wrongPairing 36 = .ok (.bipush (-3), 2) := by decide +kernel
theorem dX12_wrongPairing_38 : decode cX12_wrongPairing 38 = .ok (.ireturn, 1) := by decide +kernel
theorem dX12_wrongPairing_39 : decode cX12_wrongPairing 39 = .ok (.iconst 0, 1) := by decide +kernel
theorem dX12_wrongPairing_40 : decode cX12_wrongPairing 40 = .ok (.istore_n 2, 1) := by decide +kernel
theorem dX12_wrongPairing_41 : decode cX12_wrongPairing 41 = .ok (.iload_n 2, 1) := by decide +kernel
theorem dX12_wrongPairing_42 : decode cX12_wrongPairing 42 = .ok (.aload_n 0, 1) := by decide +kernel
theorem dX12_wrongPairing_43 : decode cX12_wrongPairing 43 = .ok (.getfield 63, 3) := by decide +kernel
theorem dX12_wrongPairing_46 : decode cX12_wrongPairing 46 = .ok (.if_icmp .ge 72, 3) := by decide +kernel
theorem dX12_wrongPairing_49 : decode cX12_wrongPairing 49 = .ok (.aload_n 0, 1) := by decide +kernel
theorem dX12_wrongPairing_50 : decode cX12_wrongPairing 50 = .ok (.getfield 44, 3) := by decide +kernel
theorem dX12_wrongPairing_53 : decode cX12_wrongPairing 53 = .ok (.bipush 40, 2) := by decide +kernel
theorem dX12_wrongPairing_55 : decode cX12_wrongPairing 55 = .ok (.iload_n 1, 1) := by decide +kernel
theorem dX12_wrongPairing_56 : decode cX12_wrongPairing 56 = .ok (.imul, 1) := by decide +kernel
theorem dX12_wrongPairing_57 : decode cX12_wrongPairing 57 = .ok (.iload_n 2, 1) := by decide +kernel
theorem dX12_wrongPairing_58 : decode cX12_wrongPairing 58 = .ok (.iadd, 1) := by decide +kernel
theorem dX12_wrongPairing_59 : decode cX12_wrongPairing 59 = .ok (.iaload, 1) := by decide +kernel
theorem dX12_wrongPairing_60 : decode cX12_wrongPairing 60 = .ok (.istore_n 3, 1) := by decide +kernel
theorem dX12_wrongPairing_61 : decode cX12_wrongPairing 61 = .ok (.iload_n 3, 1) := by decide +kernel
theorem dX12_wrongPairing_62 : decode cX12_wrongPairing 62 = .ok (.iconst (-1), 1) := by decide +kernel
theorem dX12_wrongPairing_63 : decode cX12_wrongPairing 63 = .ok (.if_icmp .eq 42, 3) := by decide +kernel
theorem dX12_wrongPairing_66 : decode cX12_wrongPairing 66 = .ok (.aload_n 0, 1) := by decide +kernel
theorem dX12_wrongPairing_67 : decode cX12_wrongPairing 67 = .ok (.iload_n 3, 1) := by decide +kernel
theorem dX12_wrongPairing_68 : decode cX12_wrongPairing 68 = .ok (.invokevirtual 74, 3) := by decide +kernel
theorem dX12_wrongPairing_71 : decode cX12_wrongPairing 71 = .ok (.ifCond .eq 31, 3) := by decide +kernel
theorem dX12_wrongPairing_74 : decode cX12_wrongPairing 74 = .ok (.aload_n 0, 1) := by decide +kernel
theorem dX12_wrongPairing_75 : decode cX12_wrongPairing 75 = .ok (.getfield 13, 3) := by decide +kernel
theorem dX12_wrongPairing_78 : decode cX12_wrongPairing 78 = .ok (.iload_n 2, 1) := by decide +kernel
theorem dX12_wrongPairing_79 : decode cX12_wrongPairing 79 = .ok (.iaload, 1) := by decide +kernel
theorem dX12_wrongPairing_80 : decode cX12_wrongPairing 80 = .ok (.iload_n 3, 1) := by decide +kernel
theorem dX12_wrongPairing_81 : decode cX12_wrongPairing 81 = .ok (.invokestatic 59, 3) := by decide +kernel
theorem dX12_wrongPairing_84 : decode cX12_wrongPairing 84 = .ok (.ifCond .eq 18, 3) := by decide +kernel
theorem dX12_wrongPairing_87 : decode cX12_wrongPairing 87 = .ok (.aload_n 0, 1) := by decide +kernel
theorem dX12_wrongPairing_88 : decode cX12_wrongPairing 88 = .ok (.getfield 44, 3) := by decide +kernel
theorem dX12_wrongPairing_91 : decode cX12_wrongPairing 91 = .ok (.bipush 40, 2) := by decide +kernel
theorem dX12_wrongPairing_93 : decode cX12_wrongPairing 93 = .ok (.iload_n 1, 1) := by decide +kernel
theorem dX12_wrongPairing_94 : decode cX12_wrongPairing 94 = .ok (.imul, 1) := by decide +kernel
theorem dX12_wrongPairing_95 : decode cX12_wrongPairing 95 = .ok (.iload_n 3, 1) := by decide +kernel
theorem dX12_wrongPairing_96 : decode cX12_wrongPairing 96 = .ok (.iadd, 1) := by decide +kernel
theorem dX12_wrongPairing_97 : decode cX12_wrongPairing 97 = .ok (.iaload, 1) := by decide +kernel
theorem dX12_wrongPairing_98 : decode cX12_wrongPairing 98 = .ok (.iload_n 2, 1) := by decide +kernel
theorem dX12_wrongPairing_99 : decode cX12_wrongPairing 99 = .ok (.if_icmp .eq 6, 3) := by decide +kernel
set_option maxHeartbeats 4000000 in
set_option maxRecDepth 100000 in
theorem w_X12_wrongPairing (l : Launch) (D : va_G) (cI cS : ClassId) (sz : Nat) (b : Nat → Nat) (L v : SU) (hL : TyL L) (hV : TyV v) (x0 : Int32) : Met l yX12_wrongPairing wsX12_wrongPairing ({ frames := 2, cells := 0, slots := 0, locals := 80 }) (PQ D cI cS (wM cI b L v) sz [.ref (b 0), .int x0]) (QF (S := SU) D (wM cI b L v) (wM cI b L) sz (fun r u => TyV u ∧ Rg (-11) 0 r ∧ (r = 0 → Rg 0 3 x0))) 0 0 (va_A (wM cI b L v) sz) := by
  refine Met.ofW (cc := cX12_wrongPairing) (maxL := 4) (ret := (some .int)) (by decide) rfl ?_
  intro p e s m args below meth c s₁ B hml hv
  obtain ⟨rfl, hsz, hP, hKK, hD0⟩ := hv
  have hx := B.exec
  have hb := B.bytes
  have hr := B.returns
  have hts := atoms_spec (ws := wsX12_wrongPairing) B.pre
  have hown : s.vm.findClass RX12 = some m.cls := findClass_of_methodNamed B.named
  have hlocks := B.notSynchronized
  have hK := hKK.1
  have hin12 : ∀ w ∈ wsX120, w ∈ wsX12_wrongPairing := by decide +kernel
  subst hsz
  have hD := hD0.self (sz := s.heap.size)
  obtain ⟨A, hAe⟩ : ∃ A, A = va_A (wM cI b L v) s.heap.size := ⟨_, rfl⟩
  rw [← hAe] at hD
  have hA : ∀ q : Nat, s.heap.size ≤ q → A q := fun q h => by rw [hAe]; exact Or.inr h
  have hS : va_S A s.heap s.heap [] := va_S.rf
  have hl := lv_entry ([.ref (b 0), .int x0]) (n := 4) (Nat.le_of_ble_eq_true rfl)
  rw [lg_entry_eq]
  generalize (lg_sl ([.ref (b 0), .int x0]) ++ List.replicate (4 - (lg_sl ([.ref (b 0), .int x0])).length) Slot.unset).toArray = ls at hl ⊢
  have hl : lv_has ls 4 [(0, .ref (b 0)), (1, .int x0)] := hl
  have lp41 : ∀ (n41 : Nat) (y41_l2 : Int32) (v : SU) (H : Heap) (locs : List Loc) (ls : Array Slot), Rg 0 3 x0 → Rg 0 12 y41_l2 → TyV v → va_P D cls (wM cI b L v) H → va_D A (wM cI b L v) → va_S A s.heap H locs → lv_has ls 4 [(0, .ref (b 0)), (1, .int x0), (2, .int y41_l2)] → 12 - y41_l2.toInt < (n41 : Int) → W p l e (headSpec wsX12_wrongPairing ({ frames := 2, cells := 0, slots := 0, locals := 80 })).room s m ([.ref (b 0), .int x0]).toArray below meth c H locs 0 0 (MQ below (QF (S := SU) D (wM cI b L v) (wM cI b L) s.heap.size (fun r u => TyV u ∧ Rg (-11) 0 r ∧ (r = 0 → Rg 0 3 x0))) ([.ref (b 0), .int x0]).toArray s 0 0 (va_A (wM cI b L v) s.heap.size)) (F0 m 41 ls []) := by
    intro n41
    induction n41 with
    | zero =>
      intro y41_l2 v H locs ls g41_l1 g41_l2 hV hP hD hS hl hm41
      exact absurd rfl (me_z g41_l2 hm41)
    | succ n41 ih41 =>
      intro y41_l2 v H locs ls g41_l1 g41_l2 hV hP hD hS hl hm41
      refine lv_iload_n hx hb dX12_wrongPairing_41 rfl (lv_at hl 2 rfl) ?_
      refine lv_aload_n hx hb dX12_wrongPairing_42 rfl (lv_at hl 0 rfl) ?_
      refine va_get (D := D) (ci := 12) (v := .int (L 0 0)) (C := RX12) (T := TX12) (N := 24) hx hb hts hin12 hown hK hP 0 rfl rfl 0 (by decide) (hts (.fieldLink RX12 63 "MissedPointsModel" "many" "I") (by decide +kernel)) (fun _ h9 => h9) rfl dX12_wrongPairing_43 ?_
      refine lv_icmp_ge (tgt := 118) hx hb dX12_wrongPairing_46 (by decide) (fun c9126 => ?_) (fun c9126 => ?_)
      · refine lv_iconst (v := 0) hx hb dX12_wrongPairing_118 (by decide) ?_
        subst hAe
        exact W.iret (v := 0) hx hb hr (fun t ht hW => ⟨⟨_, v, rfl, ⟨hV, (by decide : Rg (-11) 0 (0 : Int32)), fun _ => g41_l1⟩, by rw [ht]; exact hP, hD⟩, hS.F ht⟩) hS.2.2 dX12_wrongPairing_119
      · have g9127 : Rg 1 12 (L 0 0) := rg_ltr g41_l2 hL.1 (rg_nle c9126) (by decide)
        have g9128 : Rg 0 11 y41_l2 := rg_ltl g41_l2 hL.1 (rg_nle c9126) (by decide)
        refine lv_aload_n hx hb dX12_wrongPairing_49 rfl (lv_at hl 0 rfl) ?_
        refine va_get (D := D) (ci := 12) (v := .ref (b 11)) (C := RX12) (T := TX12) (N := 24) hx hb hts hin12 hown hK hP 0 rfl rfl 18 (by decide) (hts (.fieldLink RX12 44 "MissedPointsModel" "items" "[I") (by decide +kernel)) (fun _ h9 => h9) rfl dX12_wrongPairing_50 ?_
        refine lv_bipush (v := 40) hx hb dX12_wrongPairing_53 (by decide) ?_
        refine lv_iload_n hx hb dX12_wrongPairing_55 rfl (lv_at hl 1 rfl) ?_
        refine wk_imul (f := 120) hx hb dX12_wrongPairing_56 (by decide : Rg 0 40 (40 : Int32)) g41_l1 (by decide) (fun r9129 hr9129 er9129 qr9129 => ?_)
        refine lv_iload_n hx hb dX12_wrongPairing_57 rfl (lv_at hl 2 rfl) ?_
        refine wk_iadd (e := 0) (f := 131) hx hb dX12_wrongPairing_58 hr9129 g9128 (by decide) (fun r9130 hr9130 er9130 qr9130 => ?_)
        refine wk_aldA hx hb hK hP 11 0 rfl rfl (rg_in hr9130 (by decide) (by decide)) dX12_wrongPairing_59 (fun r9131 => ?_)
        refine lv_istore_n (lv' := [(3, .int r9131), (0, .ref (b 0)), (1, .int x0), (2, .int y41_l2)]) hx hb dX12_wrongPairing_60 rfl hl (by decide) rfl (fun ls hl => ?_)
        refine lv_iload_n hx hb dX12_wrongPairing_61 rfl (lv_at hl 0 rfl) ?_
        refine lv_iconst (v := (-1)) hx hb dX12_wrongPairing_62 (by decide) ?_
        refine lv_icmp_eq (tgt := 105) hx hb dX12_wrongPairing_63 (by decide) (fun c9132 => ?_) (fun c9132 => ?_)
        · have g9133 : Rg (-1) (-1) r9131 := wk_eql (rg_any r9131) (by decide : Rg (-1) (-1) ((-1) : Int32)) c9132 (by decide)
          refine lv_aload_n hx hb dX12_wrongPairing_105 rfl (lv_at hl 1 rfl) ?_
          refine va_get (D := D) (ci := 12) (v := .ref (b 5)) (C := RX12) (T := TX12) (N := 24) hx hb hts hin12 hown hK hP 0 rfl rfl 6 (by decide) (hts (.fieldLink RX12 26 "MissedPointsModel" "mates" "[I") (by decide +kernel)) (fun _ h9 => h9) rfl dX12_wrongPairing_106 ?_
          refine lv_iload_n hx hb dX12_wrongPairing_109 rfl (lv_at hl 3 rfl) ?_
          refine lv_iload_n hx hb dX12_wrongPairing_110 rfl (lv_at hl 0 rfl) ?_
          refine ms_5 hx hb hK hP hD hS hV rfl (rg_in g9128 (by decide) (by decide)) (rg_w g9133 (by decide) (by decide)) dX12_wrongPairing_111 (fun v H locs hV ev9134 hP hD hS => ?_)
          refine wk_iinc (lv' := fun r => [(2, .int r), (3, .int r9131), (0, .ref (b 0)), (1, .int x0)]) (e := 1) (f := 12) hx hb dX12_wrongPairing_112 hl (k := 3) rfl (by decide) g9128 (by decide) (fun _ => rfl) (fun r9135 ls hr9135 er9135 hl => ?_)
          refine lv_goto (tgt := 41) hx hb dX12_wrongPairing_115 (by decide) ?_
          exact ih41 _ r9135 v _ _ ls g41_l1 (rg_w hr9135 (by decide) (by decide)) hV hP hD hS (lv_sub (l' := [(0, .ref (b 0)), (1, .int x0), (2, .int r9135)]) hl [2, 3, 0] rfl) (me_up hm41 er9135 (by decide))
        · refine lv_aload_n hx hb dX12_wrongPairing_66 rfl (lv_at hl 1 rfl) ?_
          refine lv_iload_n hx hb dX12_wrongPairing_67 rfl (lv_at hl 0 rfl) ?_
          refine wk_sv 0 (As := [.int r9131]) (rest := []) ⟨hx, hb, hml, hown, hts⟩ (w_X12_isPoint l D cI cS b L v hL hV r9131) hKK hP (ci := 12) rfl rfl (cwV 1 hts gX12_wrongPairing_X12_isPoint rfl rfl rfl (by decide +kernel) ⟨Nat.le_of_ble_eq_true rfl, Nat.le_of_ble_eq_true rfl⟩) rfl hl.1 rfl (Nat.le_of_ble_eq_true rfl) dX12_wrongPairing_68 ⟨Nat.le_of_ble_eq_true rfl, Nat.le_of_ble_eq_true rfl⟩ (fun r9136 hr9136 => ?_)
          refine lv_if_eq (tgt := 102) hx hb dX12_wrongPairing_71 (by decide) (fun c9137 => ?_) (fun c9137 => ?_)
          · have g9138 : Rg 0 0 r9136 := wk_eql hr9136.1 (by decide : Rg 0 0 (0 : Int32)) c9137 (by decide)
            refine lv_bipush (v := (-3)) hx hb dX12_wrongPairing_102 (by decide) ?_
            subst hAe
            exact W.iret (v := (-3)) hx hb hr (fun t ht hW => ⟨⟨_, v, rfl, ⟨hV, (by decide : Rg (-11) 0 ((-3) : Int32)), fun h9 => absurd h9 (by decide)⟩, by rw [ht]; exact hP, hD⟩, hS.F ht⟩) hS.2.2 dX12_wrongPairing_104
          · have g9139 : Rg 0 11 r9131 := (hr9136.2 c9137)
            have g9140 : Rg 1 1 r9136 := rg_ne_lo (k := 0) hr9136.1 (by decide) c9137 (by decide)
            refine lv_aload_n hx hb dX12_wrongPairing_74 rfl (lv_at hl 1 rfl) ?_
            refine va_get (D := D) (ci := 12) (v := .ref (b 1)) (C := RX12) (T := TX12) (N := 24) hx hb hts hin12 hown hK hP 0 rfl rfl 2 (by decide) (hts (.fieldLink RX12 13 "MissedPointsModel" "near" "[I") (by decide +kernel)) (fun _ h9 => h9) rfl dX12_wrongPairing_75 ?_
            refine lv_iload_n hx hb dX12_wrongPairing_78 rfl (lv_at hl 3 rfl) ?_
            refine wk_ald hx hb hK hP 1 0 rfl rfl (rg_in g9128 (by decide) (by decide)) dX12_wrongPairing_79 hV.2.1 (fun r9141 hr9141 => ?_)
            refine lv_iload_n hx hb dX12_wrongPairing_80 rfl (lv_at hl 0 rfl) ?_
            refine lz_ss (As := [.int r9141, .int r9131]) (rest := []) ⟨hx, hb, hml, hown, hts⟩ (w_X12_has l D cI cS r9141 r9131) hKK (hP.sub (ws' := []) [] rfl) (va_cwS 2 hts gX12_wrongPairing_X12_has rfl rfl rfl (by decide +kernel) ⟨Nat.le_of_ble_eq_true rfl, Nat.le_of_ble_eq_true rfl⟩) rfl hl.1 rfl (Nat.le_of_ble_eq_true rfl) dX12_wrongPairing_81 ⟨Nat.le_of_ble_eq_true rfl, Nat.le_of_ble_eq_true rfl⟩ (fun r9142 hr9142 => ?_)
            refine lv_if_eq (tgt := 102) hx hb dX12_wrongPairing_84 (by decide) (fun c9143 => ?_) (fun c9143 => ?_)
            · have g9144 : Rg 0 0 r9142 := wk_eql hr9142.1 (by decide : Rg 0 0 (0 : Int32)) c9143 (by decide)
              refine lv_bipush (v := (-3)) hx hb dX12_wrongPairing_102 (by decide) ?_
              subst hAe
              exact W.iret (v := (-3)) hx hb hr (fun t ht hW => ⟨⟨_, v, rfl, ⟨hV, (by decide : Rg (-11) 0 ((-3) : Int32)), fun h9 => absurd h9 (by decide)⟩, by rw [ht]; exact hP, hD⟩, hS.F ht⟩) hS.2.2 dX12_wrongPairing_104
            · have g9145 : Rg 1 1 r9142 := rg_ne_lo (k := 0) hr9142.1 (by decide) c9143 (by decide)
              refine lv_aload_n hx hb dX12_wrongPairing_87 rfl (lv_at hl 1 rfl) ?_
              refine va_get (D := D) (ci := 12) (v := .ref (b 11)) (C := RX12) (T := TX12) (N := 24) hx hb hts hin12 hown hK hP 0 rfl rfl 18 (by decide) (hts (.fieldLink RX12 44 "MissedPointsModel" "items" "[I") (by decide +kernel)) (fun _ h9 => h9) rfl dX12_wrongPairing_88 ?_
              refine lv_bipush (v := 40) hx hb dX12_wrongPairing_91 (by decide) ?_
              refine lv_iload_n hx hb dX12_wrongPairing_93 rfl (lv_at hl 2 rfl) ?_
              refine wk_imul (f := 120) hx hb dX12_wrongPairing_94 (by decide : Rg 0 40 (40 : Int32)) g41_l1 (by decide) (fun r9146 hr9146 er9146 qr9146 => ?_)
              refine lv_iload_n hx hb dX12_wrongPairing_95 rfl (lv_at hl 0 rfl) ?_
              refine wk_iadd (e := 0) (f := 131) hx hb dX12_wrongPairing_96 hr9146 g9139 (by decide) (fun r9147 hr9147 er9147 qr9147 => ?_)
              refine wk_aldA hx hb hK hP 11 0 rfl rfl (rg_in hr9147 (by decide) (by decide)) dX12_wrongPairing_97 (fun r9148 => ?_)
              refine lv_iload_n hx hb dX12_wrongPairing_98 rfl (lv_at hl 3 rfl) ?_
              refine lv_icmp_eq (tgt := 105) hx hb dX12_wrongPairing_99 (by decide) (fun c9149 => ?_) (fun c9149 => ?_)
              · have g9150 : Rg 0 11 r9148 := wk_eql (rg_any r9148) g9128 c9149 (by decide)
                refine lv_aload_n hx hb dX12_wrongPairing_105 rfl (lv_at hl 1 rfl) ?_
                refine va_get (D := D) (ci := 12) (v := .ref (b 5)) (C := RX12) (T := TX12) (N := 24) hx hb hts hin12 hown hK hP 0 rfl rfl 6 (by decide) (hts (.fieldLink RX12 26 "MissedPointsModel" "mates" "[I") (by decide +kernel)) (fun _ h9 => h9) rfl dX12_wrongPairing_106 ?_
                refine lv_iload_n hx hb dX12_wrongPairing_109 rfl (lv_at hl 3 rfl) ?_
                refine lv_iload_n hx hb dX12_wrongPairing_110 rfl (lv_at hl 0 rfl) ?_
                refine ms_5 hx hb hK hP hD hS hV rfl (rg_in g9128 (by decide) (by decide)) (rg_w g9139 (by decide) (by decide)) dX12_wrongPairing_111 (fun v H locs hV ev9151 hP hD hS => ?_)
                refine wk_iinc (lv' := fun r => [(2, .int r), (3, .int r9131), (0, .ref (b 0)), (1, .int x0)]) (e := 1) (f := 12) hx hb dX12_wrongPairing_112 hl (k := 3) rfl (by decide) g9128 (by decide) (fun _ => rfl) (fun r9152 ls hr9152 er9152 hl => ?_)
                refine lv_goto (tgt := 41) hx hb dX12_wrongPairing_115 (by decide) ?_
                exact ih41 _ r9152 v _ _ ls g41_l1 (rg_w hr9152 (by decide) (by decide)) hV hP hD hS (lv_sub (l' := [(0, .ref (b 0)), (1, .int x0), (2, .int r9152)]) hl [2, 3, 0] rfl) (me_up hm41 er9152 (by decide))
              · refine lv_bipush (v := (-3)) hx hb dX12_wrongPairing_102 (by decide) ?_
                subst hAe
                exact W.iret (v := (-3)) hx hb hr (fun t ht hW => ⟨⟨_, v, rfl, ⟨hV, (by decide : Rg (-11) 0 ((-3) : Int32)), fun h9 => absurd h9 (by decide)⟩, by rw [ht]; exact hP, hD⟩, hS.F ht⟩) hS.2.2 dX12_wrongPairing_104
  refine lv_iload_n hx hb dX12_wrongPairing_0 rfl (lv_at hl 1 rfl) ?_
  refine lz_ss (As := [.int x0]) (rest := []) ⟨hx, hb, hml, hown, hts⟩ (w_X12_isSheet l D cI cS x0) hKK (hP.sub (ws' := []) [] rfl) (va_cwS 1 hts gX12_wrongPairing_X12_isSheet rfl rfl rfl (by decide +kernel) ⟨Nat.le_of_ble_eq_true rfl, Nat.le_of_ble_eq_true rfl⟩) rfl hl.1 rfl (Nat.le_of_ble_eq_true rfl) dX12_wrongPairing_1 ⟨Nat.le_of_ble_eq_true rfl, Nat.le_of_ble_eq_true rfl⟩ (fun r9153 hr9153 => ?_)
  refine lv_if_ne (tgt := 10) hx hb dX12_wrongPairing_4 (by decide) (fun c9154 => ?_) (fun c9154 => ?_)
  · have g9155 : Rg 0 3 x0 := (hr9153.2 c9154)
    have g9156 : Rg 1 1 r9153 := rg_ne_lo (k := 0) hr9153.1 (by decide) c9154 (by decide)
    refine lv_aload_n hx hb dX12_wrongPairing_10 rfl (lv_at hl 0 rfl) ?_
    refine va_get (D := D) (ci := 12) (v := .ref (b 9)) (C := RX12) (T := TX12) (N := 24) hx hb hts hin12 hown hK hP 0 rfl rfl 16 (by decide) (hts (.fieldLink RX12 38 "MissedPointsModel" "sort" "[I") (by decide +kernel)) (fun _ h9 => h9) rfl dX12_wrongPairing_11 ?_
    refine lv_iload_n hx hb dX12_wrongPairing_14 rfl (lv_at hl 1 rfl) ?_
    refine wk_ald hx hb hK hP 9 0 rfl rfl (rg_in g9155 (by decide) (by decide)) dX12_wrongPairing_15 hL.2.2.1 (fun r9157 hr9157 => ?_)
    refine lv_iconst (v := (-1)) hx hb dX12_wrongPairing_16 (by decide) ?_
    refine lv_icmp_ne (tgt := 23) hx hb dX12_wrongPairing_17 (by decide) (fun c9158 => ?_) (fun c9158 => ?_)
    · have g9159 : Rg 0 1 r9157 := rg_ne_lo (k := (-1)) hr9157 (by decide) c9158 (by decide)
      refine lv_aload_n hx hb dX12_wrongPairing_23 rfl (lv_at hl 0 rfl) ?_
      refine va_get (D := D) (ci := 12) (v := .ref (b 10)) (C := RX12) (T := TX12) (N := 24) hx hb hts hin12 hown hK hP 0 rfl rfl 17 (by decide) (hts (.fieldLink RX12 41 "MissedPointsModel" "size" "[I") (by decide +kernel)) (fun _ h9 => h9) rfl dX12_wrongPairing_24 ?_
      refine lv_iload_n hx hb dX12_wrongPairing_27 rfl (lv_at hl 1 rfl) ?_
      refine wk_ald hx hb hK hP 10 0 rfl rfl (rg_in g9155 (by decide) (by decide)) dX12_wrongPairing_28 hL.2.2.2.1 (fun r9160 hr9160 => ?_)
      refine lv_aload_n hx hb dX12_wrongPairing_29 rfl (lv_at hl 0 rfl) ?_
      refine va_get (D := D) (ci := 12) (v := .int (L 0 0)) (C := RX12) (T := TX12) (N := 24) hx hb hts hin12 hown hK hP 0 rfl rfl 0 (by decide) (hts (.fieldLink RX12 63 "MissedPointsModel" "many" "I") (by decide +kernel)) (fun _ h9 => h9) rfl dX12_wrongPairing_30 ?_
      refine lv_icmp_eq (tgt := 39) hx hb dX12_wrongPairing_33 (by decide) (fun c9161 => ?_) (fun c9161 => ?_)
      · have g9162 : Rg 0 12 r9160 := wk_eql hr9160 hL.1 c9161 (by decide)
        refine lv_iconst (v := 0) hx hb dX12_wrongPairing_39 (by decide) ?_
        refine lv_istore_n (lv' := [(2, .int 0), (0, .ref (b 0)), (1, .int x0)]) hx hb dX12_wrongPairing_40 rfl hl (by decide) rfl (fun ls hl => ?_)
        exact lp41 13 (0 : Int32) v _ _ ls g9155 (by decide : Rg 0 12 (0 : Int32)) hV hP hD hS (lv_sub (l' := [(0, .ref (b 0)), (1, .int x0), (2, .int 0)]) hl [1, 2, 0] rfl) (me_i (by decide : Rg 0 12 (0 : Int32)) (by decide))
      · refine lv_bipush (v := (-3)) hx hb dX12_wrongPairing_36 (by decide) ?_
        subst hAe
        exact W.iret (v := (-3)) hx hb hr (fun t ht hW => ⟨⟨_, v, rfl, ⟨hV, (by decide : Rg (-11) 0 ((-3) : Int32)), fun h9 => absurd h9 (by decide)⟩, by rw [ht]; exact hP, hD⟩, hS.F ht⟩) hS.2.2 dX12_wrongPairing_38
    · have g9163 : Rg (-1) (-1) r9157 := wk_eql hr9157 (by decide : Rg (-1) (-1) ((-1) : Int32)) c9158 (by decide)
      refine lv_bipush (v := (-11)) hx hb dX12_wrongPairing_20 (by decide) ?_
      subst hAe
      exact W.iret (v := (-11)) hx hb hr (fun t ht hW => ⟨⟨_, v, rfl, ⟨hV, (by decide : Rg (-11) 0 ((-11) : Int32)), fun h9 => absurd h9 (by decide)⟩, by rw [ht]; exact hP, hD⟩, hS.F ht⟩) hS.2.2 dX12_wrongPairing_22
  · have g9164 : Rg 0 0 r9153 := wk_eql hr9153.1 (by decide : Rg 0 0 (0 : Int32)) c9154 (by decide)
    refine lv_bipush (v := (-2)) hx hb dX12_wrongPairing_7 (by decide) ?_
    subst hAe
    exact W.iret (v := (-2)) hx hb hr (fun t ht hW => ⟨⟨_, v, rfl, ⟨hV, (by decide : Rg (-11) 0 ((-2) : Int32)), fun h9 => absurd h9 (by decide)⟩, by rw [ht]; exact hP, hD⟩, hS.F ht⟩) hS.2.2 dX12_wrongPairing_9
theorem dX12_isTold_10 : decode cX12_isTold 10 = .ok (.iconst 1, 1) := by decide +kernel
theorem dX12_isTold_11 : decode cX12_isTold 11 = .ok (.goto 14, 3) := by decide +kernel
theorem dX12_isTold_20 : decode cX12_isTold 20 = .ok (.iconst 0, 1) := by decide +kernel
theorem dX12_isTold_21 : decode cX12_isTold 21 = .ok (.goto 4, 3) := by decide +kernel
set_option maxHeartbeats 4000000 in
set_option maxRecDepth 100000 in
theorem w_X12_isTold (l : Launch) (D : va_G) (cI cS : ClassId) (sz : Nat) (b : Nat → Nat) (L v : SU) (hL : TyL L) (hV : TyV v) (x0 : Int32) : Met l yX12_isTold wsX12_isTold ({ frames := 3, cells := 0, slots := 0, locals := 120 }) (PQ D cI cS (wM cI b L v) sz [.ref (b 0), .int x0]) (QF (S := SU) D (wM cI b L v) (wM cI b L) sz (fun r u => TyV u ∧ Rg (-11) 1 r ∧ True)) 0 0 (va_A (wM cI b L v) sz) := by
  refine Met.ofW (cc := cX12_isTold) (maxL := 3) (ret := (some .int)) (by decide) rfl ?_
  intro p e s m args below meth c s₁ B hml hv
  obtain ⟨rfl, hsz, hP, hKK, hD0⟩ := hv
  have hx := B.exec
  have hb := B.bytes
  have hr := B.returns
  have hts := atoms_spec (ws := wsX12_isTold) B.pre
  have hown : s.vm.findClass RX12 = some m.cls := findClass_of_methodNamed B.named
  have hlocks := B.notSynchronized
  have hK := hKK.1
  subst hsz
  have hD := hD0.self (sz := s.heap.size)
  obtain ⟨A, hAe⟩ : ∃ A, A = va_A (wM cI b L v) s.heap.size := ⟨_, rfl⟩
  rw [← hAe] at hD
  have hA : ∀ q : Nat, s.heap.size ≤ q → A q := fun q h => by rw [hAe]; exact Or.inr h
  have hS : va_S A s.heap s.heap [] := va_S.rf
  have hl := lv_entry ([.ref (b 0), .int x0]) (n := 3) (Nat.le_of_ble_eq_true rfl)
  rw [lg_entry_eq]
  generalize (lg_sl ([.ref (b 0), .int x0]) ++ List.replicate (3 - (lg_sl ([.ref (b 0), .int x0])).length) Slot.unset).toArray = ls at hl ⊢
  have hl : lv_has ls 3 [(0, .ref (b 0)), (1, .int x0)] := hl
  refine lv_aload_n hx hb dX12_isTold_0 rfl (lv_at hl 0 rfl) ?_
  refine lv_iload_n hx hb dX12_isTold_1 rfl (lv_at hl 1 rfl) ?_
  refine wk_qi (wM cI b L) v (As := [.int x0]) (rest := []) ⟨hx, hb, hml, hown, hts⟩ (w_X12_wrongPairing l D cI cS _ b L v hL hV x0) hKK hP hD hS hA 0 (ci := 12) rfl rfl (cwV 1 hts gX12_isTold_X12_wrongPairing rfl rfl rfl (by decide +kernel) ⟨Nat.le_of_ble_eq_true rfl, Nat.le_of_ble_eq_true rfl⟩) rfl hl.1 rfl (Nat.le_of_ble_eq_true rfl) dX12_isTold_2 ⟨Nat.le_of_ble_eq_true rfl, Nat.le_of_ble_eq_true rfl⟩ (fun r9172 v H locs hr9172 hP hD hS => ?_)
  have hV := hr9172.1
  refine lv_istore_n (lv' := [(2, .int r9172), (0, .ref (b 0)), (1, .int x0)]) hx hb dX12_isTold_5 rfl hl (by decide) rfl (fun ls hl => ?_)
  refine lv_iload_n hx hb dX12_isTold_6 rfl (lv_at hl 0 rfl) ?_
  refine lv_if_ne (tgt := 14) hx hb dX12_isTold_7 (by decide) (fun c9173 => ?_) (fun c9173 => ?_)
  · have g9174 : Rg (-11) (-1) r9172 := rg_ne_hi (k := 0) hr9172.2.1 (by decide) c9173 (by decide)
    refine lv_iload_n hx hb dX12_isTold_14 rfl (lv_at hl 0 rfl) ?_
    refine lv_bipush (v := (-3)) hx hb dX12_isTold_15 (by decide) ?_
    refine lv_icmp_ne (tgt := 24) hx hb dX12_isTold_17 (by decide) (fun c9175 => ?_) (fun c9175 => ?_)
    · refine lv_iload_n hx hb dX12_isTold_24 rfl (lv_at hl 0 rfl) ?_
      subst hAe
      exact W.iret (v := r9172) hx hb hr (fun t ht hW => ⟨⟨_, v, rfl, ⟨hV, (rg_w g9174 (by decide) (by decide)), trivial⟩, by rw [ht]; exact hP, hD⟩, hS.F ht⟩) hS.2.2 dX12_isTold_25
    · have g9176 : Rg (-3) (-3) r9172 := wk_eql g9174 (by decide : Rg (-3) (-3) ((-3) : Int32)) c9175 (by decide)
      refine lv_iconst (v := 0) hx hb dX12_isTold_20 (by decide) ?_
      refine lv_goto (tgt := 25) hx hb dX12_isTold_21 (by decide) ?_
      subst hAe
      exact W.iret (v := 0) hx hb hr (fun t ht hW => ⟨⟨_, v, rfl, ⟨hV, (by decide : Rg (-11) 1 (0 : Int32)), trivial⟩, by rw [ht]; exact hP, hD⟩, hS.F ht⟩) hS.2.2 dX12_isTold_25
  · have g9177 : Rg 0 3 x0 := (hr9172.2.2 c9173)
    have g9178 : Rg 0 0 r9172 := wk_eql hr9172.2.1 (by decide : Rg 0 0 (0 : Int32)) c9173 (by decide)
    refine lv_iconst (v := 1) hx hb dX12_isTold_10 (by decide) ?_
    refine lv_goto (tgt := 25) hx hb dX12_isTold_11 (by decide) ?_
    subst hAe
    exact W.iret (v := 1) hx hb hr (fun t ht hW => ⟨⟨_, v, rfl, ⟨hV, (by decide : Rg (-11) 1 (1 : Int32)), trivial⟩, by rw [ht]; exact hP, hD⟩, hS.F ht⟩) hS.2.2 dX12_isTold_25
theorem dX12_misses_12 : decode cX12_misses 12 = .ok (.iconst 0, 1) := by decide +kernel
theorem dX12_misses_13 : decode cX12_misses 13 = .ok (.istore_n 3, 1) := by decide +kernel
theorem dX12_misses_14 : decode cX12_misses 14 = .ok (.iconst 0, 1) := by decide +kernel
theorem dX12_misses_15 : decode cX12_misses 15 = .ok (.istore 4, 2) := by decide +kernel
theorem dX12_misses_17 : decode cX12_misses 17 = .ok (.iload 4, 2) := by decide +kernel
theorem dX12_misses_19 : decode cX12_misses 19 = .ok (.aload_n 0, 1) := by decide +kernel
theorem dX12_misses_20 : decode cX12_misses 20 = .ok (.getfield 63, 3) := by decide +kernel
theorem dX12_misses_23 : decode cX12_misses 23 = .ok (.if_icmp .ge 31, 3) := by decide +kernel
theorem dX12_misses_26 : decode cX12_misses 26 = .ok (.iload_n 3, 1) := by decide +kernel
theorem dX12_misses_27 : decode cX12_misses 27 = .ok (.aload_n 0, 1) := by decide +kernel
theorem dX12_misses_28 : decode cX12_misses 28 = .ok (.getfield 26, 3) := by decide +kernel
theorem dX12_misses_31 : decode cX12_misses 31 = .ok (.iload 4, 2) := by decide +kernel
theorem dX12_misses_33 : decode cX12_misses 33 = .ok (.iaload, 1) := by decide +kernel
theorem dX12_misses_34 : decode cX12_misses 34 = .ok (.iconst (-1), 1) := by decide +kernel
theorem dX12_misses_35 : decode cX12_misses 35 = .ok (.if_icmp .ne 10, 3) := by decide +kernel
theorem dX12_misses_38 : decode cX12_misses 38 = .ok (.iconst 1, 1) := by decide +kernel
theorem dX12_misses_39 : decode cX12_misses 39 = .ok (.iload 4, 2) := by decide +kernel
theorem dX12_misses_41 : decode cX12_misses 41 = .ok (.ishl, 1) := by decide +kernel
theorem dX12_misses_42 : decode cX12_misses 42 = .ok (.goto 4, 3) := by decide +kernel
theorem dX12_misses_45 : decode cX12_misses 45 = .ok (.iconst 0, 1) := by decide +kernel
theorem dX12_misses_46 : decode cX12_misses 46 = .ok (.ior, 1) := by decide +kernel
theorem dX12_misses_47 : decode cX12_misses 47 = .ok (.istore_n 3, 1) := by decide +kernel
theorem dX12_misses_48 : decode cX12_misses 48 = .ok (.iinc 4 1, 3) := by decide +kernel
theorem dX12_misses_51 : decode cX12_misses 51 = .ok (.goto (-34), 3) := by decide +kernel
theorem dX12_misses_54 : decode cX12_misses 54 = .ok (.iload_n 3, 1) := by decide +kernel
theorem dX12_misses_55 : decode cX12_misses 55 = .ok (.ireturn, 1) := by decide +kernel
set_option maxHeartbeats 4000000 in
set_option maxRecDepth 100000 in
theorem w_X12_misses (l : Launch) (D : va_G) (cI cS : ClassId) (sz : Nat) (b : Nat → Nat) (L v : SU) (hL : TyL L) (hV : TyV v) (x0 : Int32) : Met l yX12_misses wsX12_misses ({ frames := 3, cells := 0, slots := 0, locals := 120 }) (PQ D cI cS (wM cI b L v) sz [.ref (b 0), .int x0]) (QF (S := SU) D (wM cI b L v) (wM cI b L) sz (fun r u => TyV u ∧ Rg (-11) 4095 r ∧ True)) 0 0 (va_A (wM cI b L v) sz) := by
  refine Met.ofW (cc := cX12_misses) (maxL := 5) (ret := (some .int)) (by decide) rfl ?_
  intro p e s m args below meth c s₁ B hml hv
  obtain ⟨rfl, hsz, hP, hKK, hD0⟩ := hv
  have hx := B.exec
  have hb := B.bytes
  have hr := B.returns
  have hts := atoms_spec (ws := wsX12_misses) B.pre
  have hown : s.vm.findClass RX12 = some m.cls := findClass_of_methodNamed B.named
  have hlocks := B.notSynchronized
  have hK := hKK.1
  have hin12 : ∀ w ∈ wsX120, w ∈ wsX12_misses := by decide +kernel
  subst hsz
  have hD := hD0.self (sz := s.heap.size)
  obtain ⟨A, hAe⟩ : ∃ A, A = va_A (wM cI b L v) s.heap.size := ⟨_, rfl⟩
  rw [← hAe] at hD
  have hA : ∀ q : Nat, s.heap.size ≤ q → A q := fun q h => by rw [hAe]; exact Or.inr h
  have hS : va_S A s.heap s.heap [] := va_S.rf
  have hl := lv_entry ([.ref (b 0), .int x0]) (n := 5) (Nat.le_of_ble_eq_true rfl)
  rw [lg_entry_eq]
  generalize (lg_sl ([.ref (b 0), .int x0]) ++ List.replicate (5 - (lg_sl ([.ref (b 0), .int x0])).length) Slot.unset).toArray = ls at hl ⊢
  have hl : lv_has ls 5 [(0, .ref (b 0)), (1, .int x0)] := hl
  have lp17 : ∀ (n17 : Nat) (y17_l3 y17_l4 : Int32) (v : SU) (H : Heap) (locs : List Loc) (ls : Array Slot), Rg 0 4095 y17_l3 → Rg 0 12 y17_l4 → TyV v → va_P D cls (wM cI b L v) H → va_D A (wM cI b L v) → va_S A s.heap H locs → lv_has ls 5 [(0, .ref (b 0)), (3, .int y17_l3), (4, .int y17_l4)] → 12 - y17_l4.toInt < (n17 : Int) → W p l e (headSpec wsX12_misses ({ frames := 3, cells := 0, slots := 0, locals := 120 })).room s m ([.ref (b 0), .int x0]).toArray below meth c H locs 0 0 (MQ below (QF (S := SU) D (wM cI b L v) (wM cI b L) s.heap.size (fun r u => TyV u ∧ Rg (-11) 4095 r ∧ True)) ([.ref (b 0), .int x0]).toArray s 0 0 (va_A (wM cI b L v) s.heap.size)) (F0 m 17 ls []) := by
    intro n17
    induction n17 with
    | zero =>
      intro y17_l3 y17_l4 v H locs ls g17_l3 g17_l4 hV hP hD hS hl hm17
      exact absurd rfl (me_z g17_l4 hm17)
    | succ n17 ih17 =>
      intro y17_l3 y17_l4 v H locs ls g17_l3 g17_l4 hV hP hD hS hl hm17
      refine lv_iload hx hb dX12_misses_17 (lv_at hl 2 rfl) ?_
      refine lv_aload_n hx hb dX12_misses_19 rfl (lv_at hl 0 rfl) ?_
      refine va_get (D := D) (ci := 12) (v := .int (L 0 0)) (C := RX12) (T := TX12) (N := 24) hx hb hts hin12 hown hK hP 0 rfl rfl 0 (by decide) (hts (.fieldLink RX12 63 "MissedPointsModel" "many" "I") (by decide +kernel)) (fun _ h9 => h9) rfl dX12_misses_20 ?_
      refine lv_icmp_ge (tgt := 54) hx hb dX12_misses_23 (by decide) (fun c9329 => ?_) (fun c9329 => ?_)
      · refine lv_iload_n hx hb dX12_misses_54 rfl (lv_at hl 1 rfl) ?_
        subst hAe
        exact W.iret (v := y17_l3) hx hb hr (fun t ht hW => ⟨⟨_, v, rfl, ⟨hV, (rg_w g17_l3 (by decide) (by decide)), trivial⟩, by rw [ht]; exact hP, hD⟩, hS.F ht⟩) hS.2.2 dX12_misses_55
      · have g9330 : Rg 1 12 (L 0 0) := rg_ltr g17_l4 hL.1 (rg_nle c9329) (by decide)
        have g9331 : Rg 0 11 y17_l4 := rg_ltl g17_l4 hL.1 (rg_nle c9329) (by decide)
        refine lv_iload_n hx hb dX12_misses_26 rfl (lv_at hl 1 rfl) ?_
        refine lv_aload_n hx hb dX12_misses_27 rfl (lv_at hl 0 rfl) ?_
        refine va_get (D := D) (ci := 12) (v := .ref (b 5)) (C := RX12) (T := TX12) (N := 24) hx hb hts hin12 hown hK hP 0 rfl rfl 6 (by decide) (hts (.fieldLink RX12 26 "MissedPointsModel" "mates" "[I") (by decide +kernel)) (fun _ h9 => h9) rfl dX12_misses_28 ?_
        refine lv_iload hx hb dX12_misses_31 (lv_at hl 2 rfl) ?_
        refine wk_ald hx hb hK hP 5 0 rfl rfl (rg_in g9331 (by decide) (by decide)) dX12_misses_33 hV.2.2.2.1 (fun r9332 hr9332 => ?_)
        refine lv_iconst (v := (-1)) hx hb dX12_misses_34 (by decide) ?_
        refine lv_icmp_ne (tgt := 45) hx hb dX12_misses_35 (by decide) (fun c9333 => ?_) (fun c9333 => ?_)
        · have g9334 : Rg 0 11 r9332 := rg_ne_lo (k := (-1)) hr9332 (by decide) c9333 (by decide)
          refine lv_iconst (v := 0) hx hb dX12_misses_45 (by decide) ?_
          refine wk_ior 12 (e := 0) (f := 4095) hx hb dX12_misses_46 g17_l3 (by decide : Rg 0 0 (0 : Int32)) (by decide) (fun r9335 hr9335 qr9335 => ?_)
          refine lv_istore_n (lv' := [(3, .int r9335), (0, .ref (b 0)), (4, .int y17_l4)]) hx hb dX12_misses_47 rfl hl (by decide) rfl (fun ls hl => ?_)
          refine wk_iinc (lv' := fun r => [(4, .int r), (3, .int r9335), (0, .ref (b 0))]) (e := 1) (f := 12) hx hb dX12_misses_48 hl (k := 2) rfl (by decide) g9331 (by decide) (fun _ => rfl) (fun r9336 ls hr9336 er9336 hl => ?_)
          refine lv_goto (tgt := 17) hx hb dX12_misses_51 (by decide) ?_
          exact ih17 _ r9335 r9336 v _ _ ls hr9335 (rg_w hr9336 (by decide) (by decide)) hV hP hD hS (lv_sub (l' := [(0, .ref (b 0)), (3, .int r9335), (4, .int r9336)]) hl [2, 1, 0] rfl) (me_up hm17 er9336 (by decide))
        · have g9337 : Rg (-1) (-1) r9332 := wk_eql hr9332 (by decide : Rg (-1) (-1) ((-1) : Int32)) c9333 (by decide)
          refine lv_iconst (v := 1) hx hb dX12_misses_38 (by decide) ?_
          refine lv_iload hx hb dX12_misses_39 (lv_at hl 2 rfl) ?_
          refine wk_ishl1 (f := 2048) hx hb dX12_misses_41 g9331 (by decide) (fun r9338 hr9338 qr9338 => ?_)
          refine lv_goto (tgt := 46) hx hb dX12_misses_42 (by decide) ?_
          refine wk_ior 12 (e := 1) (f := 4095) hx hb dX12_misses_46 g17_l3 hr9338 (by decide) (fun r9339 hr9339 qr9339 => ?_)
          refine lv_istore_n (lv' := [(3, .int r9339), (0, .ref (b 0)), (4, .int y17_l4)]) hx hb dX12_misses_47 rfl hl (by decide) rfl (fun ls hl => ?_)
          refine wk_iinc (lv' := fun r => [(4, .int r), (3, .int r9339), (0, .ref (b 0))]) (e := 1) (f := 12) hx hb dX12_misses_48 hl (k := 2) rfl (by decide) g9331 (by decide) (fun _ => rfl) (fun r9340 ls hr9340 er9340 hl => ?_)
          refine lv_goto (tgt := 17) hx hb dX12_misses_51 (by decide) ?_
          exact ih17 _ r9339 r9340 v _ _ ls (rg_w hr9339 (by decide) (by decide)) (rg_w hr9340 (by decide) (by decide)) hV hP hD hS (lv_sub (l' := [(0, .ref (b 0)), (3, .int r9339), (4, .int r9340)]) hl [2, 1, 0] rfl) (me_up hm17 er9340 (by decide))
  refine lv_aload_n hx hb dX12_misses_0 rfl (lv_at hl 0 rfl) ?_
  refine lv_iload_n hx hb dX12_misses_1 rfl (lv_at hl 1 rfl) ?_
  refine wk_qi (wM cI b L) v (As := [.int x0]) (rest := []) ⟨hx, hb, hml, hown, hts⟩ (w_X12_wrongPairing l D cI cS _ b L v hL hV x0) hKK hP hD hS hA 0 (ci := 12) rfl rfl (cwV 1 hts gX12_misses_X12_wrongPairing rfl rfl rfl (by decide +kernel) ⟨Nat.le_of_ble_eq_true rfl, Nat.le_of_ble_eq_true rfl⟩) rfl hl.1 rfl (Nat.le_of_ble_eq_true rfl) dX12_misses_2 ⟨Nat.le_of_ble_eq_true rfl, Nat.le_of_ble_eq_true rfl⟩ (fun r9341 v H locs hr9341 hP hD hS => ?_)
  have hV := hr9341.1
  refine lv_istore_n (lv' := [(2, .int r9341), (0, .ref (b 0)), (1, .int x0)]) hx hb dX12_misses_5 rfl hl (by decide) rfl (fun ls hl => ?_)
  refine lv_iload_n hx hb dX12_misses_6 rfl (lv_at hl 0 rfl) ?_
  refine lv_if_eq (tgt := 12) hx hb dX12_misses_7 (by decide) (fun c9342 => ?_) (fun c9342 => ?_)
  · have g9343 : Rg 0 3 x0 := (hr9341.2.2 c9342)
    have g9344 : Rg 0 0 r9341 := wk_eql hr9341.2.1 (by decide : Rg 0 0 (0 : Int32)) c9342 (by decide)
    refine lv_iconst (v := 0) hx hb dX12_misses_12 (by decide) ?_
    refine lv_istore_n (lv' := [(3, .int 0), (2, .int r9341), (0, .ref (b 0)), (1, .int x0)]) hx hb dX12_misses_13 rfl hl (by decide) rfl (fun ls hl => ?_)
    refine lv_iconst (v := 0) hx hb dX12_misses_14 (by decide) ?_
    refine lv_istore (lv' := [(4, .int 0), (3, .int 0), (2, .int r9341), (0, .ref (b 0)), (1, .int x0)]) hx hb dX12_misses_15 hl (by decide) rfl (fun ls hl => ?_)
    exact lp17 13 (0 : Int32) (0 : Int32) v _ _ ls (by decide : Rg 0 4095 (0 : Int32)) (by decide : Rg 0 12 (0 : Int32)) hV hP hD hS (lv_sub (l' := [(0, .ref (b 0)), (3, .int 0), (4, .int 0)]) hl [3, 1, 0] rfl) (me_i (by decide : Rg 0 12 (0 : Int32)) (by decide))
  · have g9345 : Rg (-11) (-1) r9341 := rg_ne_hi (k := 0) hr9341.2.1 (by decide) c9342 (by decide)
    refine lv_iload_n hx hb dX12_misses_10 rfl (lv_at hl 0 rfl) ?_
    subst hAe
    exact W.iret (v := r9341) hx hb hr (fun t ht hW => ⟨⟨_, v, rfl, ⟨hV, (rg_w g9345 (by decide) (by decide)), trivial⟩, by rw [ht]; exact hP, hD⟩, hS.F ht⟩) hS.2.2 dX12_misses_11
