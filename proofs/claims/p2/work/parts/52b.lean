set_option maxHeartbeats 4000000 in
set_option maxRecDepth 100000 in
theorem w_X12_setOf (l : Launch) (D : va_G) (cI cS : ClassId) (sz : Nat) (b : Nat → Nat) (L v0 : SU) (hL : TyL L) (hV : TyV v0) (x0 : Int32) : Met l yX12_setOf wsX12_setOf ({ frames := 3, cells := 0, slots := 0, locals := 120 }) (PQ D cI cS (wM cI b L v0) sz [.ref (b 0), .int x0]) (QF (S := SU) D (wM cI b L v0) (wM cI b L) sz (fun r u => TyV u ∧ Rg 0 4095 r ∧ True)) 0 0 (va_A (wM cI b L v0) sz) := by
  refine Met.ofW (cc := cX12_setOf) (maxL := 2) (ret := (some .int)) (by decide) rfl ?_
  intro p e s m args below meth c s₁ B hml hv
  obtain ⟨rfl, hsz, hP, hKK, hD0⟩ := hv
  have hx := B.exec
  have hb := B.bytes
  have hr := B.returns
  have hts := atoms_spec (ws := wsX12_setOf) B.pre
  have hown : s.vm.findClass RX12 = some m.cls := findClass_of_methodNamed B.named
  have hlocks := B.notSynchronized
  have hK := hKK.1
  subst hsz
  have hD := hD0.self (sz := s.heap.size)
  obtain ⟨A, hAe⟩ : ∃ A, A = va_A (wM cI b L v0) s.heap.size := ⟨_, rfl⟩
  rw [← hAe] at hD
  have hA : ∀ q : Nat, s.heap.size ≤ q → A q := fun q h => by rw [hAe]; exact Or.inr h
  have hS : va_S A s.heap s.heap [] := va_S.rf
  have hl := lv_entry ([.ref (b 0), .int x0]) (n := 2) (Nat.le_of_ble_eq_true rfl)
  rw [lg_entry_eq]
  generalize (lg_sl ([.ref (b 0), .int x0]) ++ List.replicate (2 - (lg_sl ([.ref (b 0), .int x0])).length) Slot.unset).toArray = ls at hl ⊢
  have hl : lv_has ls 2 [(0, .ref (b 0)), (1, .int x0)] := hl
  obtain ⟨v, hv9⟩ : ∃ v : SU, v = v0 := ⟨_, rfl⟩
  rw [← hv9] at hP hD hV
  refine lv_aload_n hx hb dX12_setOf_0 rfl (lv_at hl 0 rfl) ?_
  refine wk_qv (wM cI b L) v (As := []) (rest := []) ⟨hx, hb, hml, hown, hts⟩ (w_X12_reckons l D cI cS _ b L v hL hV) hKK hP hD hS hA 0 (ci := 12) rfl rfl (cwV 0 hts gX12_setOf_X12_reckons rfl rfl rfl (by decide +kernel) ⟨Nat.le_of_ble_eq_true rfl, Nat.le_of_ble_eq_true rfl⟩) rfl hl.1 rfl (Nat.le_of_ble_eq_true rfl) dX12_setOf_1 ⟨Nat.le_of_ble_eq_true rfl, Nat.le_of_ble_eq_true rfl⟩ (fun v H locs hr5065 hP hD hS => ?_)
  have hV := hr5065.1
  refine lv_aload_n hx hb dX12_setOf_4 rfl (lv_at hl 0 rfl) ?_
  refine lv_iload_n hx hb dX12_setOf_5 rfl (lv_at hl 1 rfl) ?_
  refine lv_if_ne (tgt := 13) hx hb dX12_setOf_6 (by decide) (fun c5066 => ?_) (fun c5066 => ?_)
  · refine lv_iconst (v := 2) hx hb dX12_setOf_13 (by decide) ?_
    refine wk_sv 0 (As := [.int 2]) (rest := []) ⟨hx, hb, hml, hown, hts⟩ (w_X12_markedSet l D cI cS b L v hL hV (2 : Int32)) hKK hP (ci := 12) rfl rfl (cwV 1 hts gX12_setOf_X12_markedSet rfl rfl rfl (by decide +kernel) ⟨Nat.le_of_ble_eq_true rfl, Nat.le_of_ble_eq_true rfl⟩) rfl hl.1 rfl (Nat.le_of_ble_eq_true rfl) dX12_setOf_14 ⟨Nat.le_of_ble_eq_true rfl, Nat.le_of_ble_eq_true rfl⟩ (fun r5067 hr5067 => ?_)
    subst hAe
    exact W.iret (v := r5067) hx hb hr (fun t ht hW => ⟨⟨_, v, rfl, ⟨hV, hr5067.1, trivial⟩, by rw [ht]; exact hP, hD⟩, hS.F ht⟩) hS.2.2 dX12_setOf_17
  · have g5068 : Rg 0 0 x0 := wk_eql (rg_any x0) (by decide : Rg 0 0 (0 : Int32)) c5066 (by decide)
    refine lv_iconst (v := 0) hx hb dX12_setOf_9 (by decide) ?_
    refine lv_goto (tgt := 14) hx hb dX12_setOf_10 (by decide) ?_
    refine wk_sv 0 (As := [.int 0]) (rest := []) ⟨hx, hb, hml, hown, hts⟩ (w_X12_markedSet l D cI cS b L v hL hV (0 : Int32)) hKK hP (ci := 12) rfl rfl (cwV 1 hts gX12_setOf_X12_markedSet rfl rfl rfl (by decide +kernel) ⟨Nat.le_of_ble_eq_true rfl, Nat.le_of_ble_eq_true rfl⟩) rfl hl.1 rfl (Nat.le_of_ble_eq_true rfl) dX12_setOf_14 ⟨Nat.le_of_ble_eq_true rfl, Nat.le_of_ble_eq_true rfl⟩ (fun r5069 hr5069 => ?_)
    subst hAe
    exact W.iret (v := r5069) hx hb hr (fun t ht hW => ⟨⟨_, v, rfl, ⟨hV, hr5069.1, trivial⟩, by rw [ht]; exact hP, hD⟩, hS.F ht⟩) hS.2.2 dX12_setOf_17
set_option maxHeartbeats 4000000 in
set_option maxRecDepth 100000 in
theorem w_X12_pieces (l : Launch) (D : va_G) (cI cS : ClassId) (sz : Nat) (b : Nat → Nat) (L v0 : SU) (hL : TyL L) (hV : TyV v0) (x0 : Int32) : Met l yX12_pieces wsX12_pieces ({ frames := 4, cells := 0, slots := 0, locals := 160 }) (PQ D cI cS (wM cI b L v0) sz [.ref (b 0), .int x0]) (QF (S := SU) D (wM cI b L v0) (wM cI b L) sz (fun r u => TyV u ∧ Rg (-2147483648) 2147483647 r ∧ True)) 0 0 (va_A (wM cI b L v0) sz) := by
  refine Met.ofW (cc := cX12_pieces) (maxL := 2) (ret := (some .int)) (by decide) rfl ?_
  intro p e s m args below meth c s₁ B hml hv
  obtain ⟨rfl, hsz, hP, hKK, hD0⟩ := hv
  have hx := B.exec
  have hb := B.bytes
  have hr := B.returns
  have hts := atoms_spec (ws := wsX12_pieces) B.pre
  have hown : s.vm.findClass RX12 = some m.cls := findClass_of_methodNamed B.named
  have hlocks := B.notSynchronized
  have hK := hKK.1
  subst hsz
  have hD := hD0.self (sz := s.heap.size)
  obtain ⟨A, hAe⟩ : ∃ A, A = va_A (wM cI b L v0) s.heap.size := ⟨_, rfl⟩
  rw [← hAe] at hD
  have hA : ∀ q : Nat, s.heap.size ≤ q → A q := fun q h => by rw [hAe]; exact Or.inr h
  have hS : va_S A s.heap s.heap [] := va_S.rf
  have hl := lv_entry ([.ref (b 0), .int x0]) (n := 2) (Nat.le_of_ble_eq_true rfl)
  rw [lg_entry_eq]
  generalize (lg_sl ([.ref (b 0), .int x0]) ++ List.replicate (2 - (lg_sl ([.ref (b 0), .int x0])).length) Slot.unset).toArray = ls at hl ⊢
  have hl : lv_has ls 2 [(0, .ref (b 0)), (1, .int x0)] := hl
  obtain ⟨v, hv9⟩ : ∃ v : SU, v = v0 := ⟨_, rfl⟩
  rw [← hv9] at hP hD hV
  refine lv_iload_n hx hb dX12_pieces_0 rfl (lv_at hl 1 rfl) ?_
  refine lv_iconst (v := 0) hx hb dX12_pieces_1 (by decide) ?_
  refine lv_iconst (v := 1) hx hb dX12_pieces_2 (by decide) ?_
  refine lz_ss (As := [.int x0, .int 0, .int 1]) (rest := []) ⟨hx, hb, hml, hown, hts⟩ (w_X12_in l D cI cS x0 (0 : Int32) (1 : Int32)) hKK (hP.sub (ws' := []) [] rfl) (va_cwS 3 hts gX12_pieces_X12_in rfl rfl rfl (by decide +kernel) ⟨Nat.le_of_ble_eq_true rfl, Nat.le_of_ble_eq_true rfl⟩) rfl hl.1 rfl (Nat.le_of_ble_eq_true rfl) dX12_pieces_3 ⟨Nat.le_of_ble_eq_true rfl, Nat.le_of_ble_eq_true rfl⟩ (fun r5077 hr5077 => ?_)
  refine lv_if_eq (tgt := 21) hx hb dX12_pieces_6 (by decide) (fun c5078 => ?_) (fun c5078 => ?_)
  · have g5079 : Rg 0 0 r5077 := wk_eql hr5077.1 (by decide : Rg 0 0 (0 : Int32)) c5078 (by decide)
    refine lv_bipush (v := (-2)) hx hb dX12_pieces_21 (by decide) ?_
    subst hAe
    exact W.iret (v := (-2)) hx hb hr (fun t ht hW => ⟨⟨_, v, rfl, ⟨hV, (by decide : Rg (-2147483648) 2147483647 ((-2) : Int32)), trivial⟩, by rw [ht]; exact hP, hD⟩, hS.F ht⟩) hS.2.2 dX12_pieces_23
  · have g5080 : Rg 0 1 x0 := wk_in3 (rg_any x0) (by decide : Rg 0 0 (0 : Int32)) (by decide : Rg 1 1 (1 : Int32)) (hr5077.2 c5078) (by decide)
    have g5081 : Rg 1 1 r5077 := rg_ne_lo (k := 0) hr5077.1 (by decide) c5078 (by decide)
    refine lv_aload_n hx hb dX12_pieces_9 rfl (lv_at hl 0 rfl) ?_
    refine lv_aload_n hx hb dX12_pieces_10 rfl (lv_at hl 0 rfl) ?_
    refine lv_iload_n hx hb dX12_pieces_11 rfl (lv_at hl 1 rfl) ?_
    refine wk_qi (wM cI b L) v (As := [.int x0]) (rest := [.ref (b 0)]) ⟨hx, hb, hml, hown, hts⟩ (w_X12_setOf l D cI cS _ b L v hL hV x0) hKK hP hD hS hA 0 (ci := 12) rfl rfl (cwV 1 hts gX12_pieces_X12_setOf rfl rfl rfl (by decide +kernel) ⟨Nat.le_of_ble_eq_true rfl, Nat.le_of_ble_eq_true rfl⟩) rfl hl.1 rfl (Nat.le_of_ble_eq_true rfl) dX12_pieces_12 ⟨Nat.le_of_ble_eq_true rfl, Nat.le_of_ble_eq_true rfl⟩ (fun r5082 v H locs hr5082 hP hD hS => ?_)
    have hV := hr5082.1
    refine wk_sv 0 (As := [.int r5082]) (rest := []) ⟨hx, hb, hml, hown, hts⟩ (w_X12_piecesOf l D cI cS b L v hL hV r5082 hr5082.2.1) hKK hP (ci := 12) rfl rfl (cwV 1 hts gX12_pieces_X12_piecesOf rfl rfl rfl (by decide +kernel) ⟨Nat.le_of_ble_eq_true rfl, Nat.le_of_ble_eq_true rfl⟩) rfl hl.1 rfl (Nat.le_of_ble_eq_true rfl) dX12_pieces_15 ⟨Nat.le_of_ble_eq_true rfl, Nat.le_of_ble_eq_true rfl⟩ (fun r5083 hr5083 => ?_)
    refine lv_goto (tgt := 23) hx hb dX12_pieces_18 (by decide) ?_
    subst hAe
    exact W.iret (v := r5083) hx hb hr (fun t ht hW => ⟨⟨_, v, rfl, ⟨hV, hr5083.1, trivial⟩, by rw [ht]; exact hP, hD⟩, hS.F ht⟩) hS.2.2 dX12_pieces_23
set_option maxRecDepth 20000 in
theorem ggX12_pieceAt_X12_pieceOf : GoodIn wsX12_pieceAt wsX12_pieceOf := goodIn_r _ [35, 12, 13, 21, 22, 4, 23, 36, 37, 38, 39, 40, 41, 42, 43, 44, 45, 46, 47, 48, 49, 50, 51, 52, 53, 54, 55, 56, 57, 58, 59] (by decide +kernel) (by decide +kernel)
set_option maxRecDepth 20000 in
theorem gX12_pieceAt_X12_pieceOf : GoodIn wsX12_pieceAt (wsV RX12 129 RX12 yX12_pieceOf wsX12_pieceOf) := goodIn_app (goodIn_of _ (by decide +kernel)) ggX12_pieceAt_X12_pieceOf
theorem dX12_pieceAt_19 : decode cX12_pieceAt 19 = .ok (.iload_n 3, 1) := by decide +kernel
theorem dX12_pieceAt_20 : decode cX12_pieceAt 20 = .ok (.aload_n 0, 1) := by decide +kernel
theorem dX12_pieceAt_21 : decode cX12_pieceAt 21 = .ok (.iload_n 3, 1) := by decide +kernel
theorem dX12_pieceAt_22 : decode cX12_pieceAt 22 = .ok (.invokevirtual 129, 3) := by decide +kernel
theorem dX12_pieceAt_25 : decode cX12_pieceAt 25 = .ok (.iconst (-1), 1) := by decide +kernel
theorem dX12_pieceAt_26 : decode cX12_pieceAt 26 = .ok (.ixor, 1) := by decide +kernel
theorem dX12_pieceAt_27 : decode cX12_pieceAt 27 = .ok (.iand, 1) := by decide +kernel
theorem dX12_pieceAt_28 : decode cX12_pieceAt 28 = .ok (.istore_n 3, 1) := by decide +kernel
theorem dX12_pieceAt_29 : decode cX12_pieceAt 29 = .ok (.iinc 4 1, 3) := by decide +kernel
theorem dX12_pieceAt_32 : decode cX12_pieceAt 32 = .ok (.goto (-23), 3) := by decide +kernel
theorem dX12_pieceAt_47 : decode cX12_pieceAt 47 = .ok (.aload_n 0, 1) := by decide +kernel
theorem dX12_pieceAt_48 : decode cX12_pieceAt 48 = .ok (.iload_n 3, 1) := by decide +kernel
theorem dX12_pieceAt_49 : decode cX12_pieceAt 49 = .ok (.invokevirtual 129, 3) := by decide +kernel
set_option maxHeartbeats 4000000 in
set_option maxRecDepth 100000 in
theorem w_X12_pieceAt (l : Launch) (D : va_G) (cI cS : ClassId) (sz : Nat) (b : Nat → Nat) (L v0 : SU) (hL : TyL L) (hV : TyV v0) (x0 x1 : Int32) (px0 : Rg 0 1 x0) : Met l yX12_pieceAt wsX12_pieceAt ({ frames := 4, cells := 0, slots := 0, locals := 160 }) (PQ D cI cS (wM cI b L v0) sz [.ref (b 0), .int x0, .int x1]) (QF (S := SU) D (wM cI b L v0) (wM cI b L) sz (fun r u => TyV u ∧ Rg 0 4095 r ∧ True)) 0 0 (va_A (wM cI b L v0) sz) := by
  refine Met.ofW (cc := cX12_pieceAt) (maxL := 5) (ret := (some .int)) (by decide) rfl ?_
  intro p e s m args below meth c s₁ B hml hv
  obtain ⟨rfl, hsz, hP, hKK, hD0⟩ := hv
  have hx := B.exec
  have hb := B.bytes
  have hr := B.returns
  have hts := atoms_spec (ws := wsX12_pieceAt) B.pre
  have hown : s.vm.findClass RX12 = some m.cls := findClass_of_methodNamed B.named
  have hlocks := B.notSynchronized
  have hK := hKK.1
  subst hsz
  have hD := hD0.self (sz := s.heap.size)
  obtain ⟨A, hAe⟩ : ∃ A, A = va_A (wM cI b L v0) s.heap.size := ⟨_, rfl⟩
  rw [← hAe] at hD
  have hA : ∀ q : Nat, s.heap.size ≤ q → A q := fun q h => by rw [hAe]; exact Or.inr h
  have hS : va_S A s.heap s.heap [] := va_S.rf
  have hl := lv_entry ([.ref (b 0), .int x0, .int x1]) (n := 5) (Nat.le_of_ble_eq_true rfl)
  rw [lg_entry_eq]
  generalize (lg_sl ([.ref (b 0), .int x0, .int x1]) ++ List.replicate (5 - (lg_sl ([.ref (b 0), .int x0, .int x1])).length) Slot.unset).toArray = ls at hl ⊢
  have hl : lv_has ls 5 [(0, .ref (b 0)), (1, .int x0), (2, .int x1)] := hl
  obtain ⟨v, hv9⟩ : ∃ v : SU, v = v0 := ⟨_, rfl⟩
  rw [← hv9] at hP hD hV
  have lp9 : ∀ (n9 : Nat) (y9_l3 y9_l4 : Int32) (v : SU) (H : Heap) (locs : List Loc) (ls : Array Slot), Rg 0 4095 y9_l3 → Rg 0 2147483647 y9_l4 → TyV v → va_P D cls (wM cI b L v) H → va_D A (wM cI b L v) → va_S A s.heap H locs → lv_has ls 5 [(0, .ref (b 0)), (2, .int x1), (3, .int y9_l3), (4, .int y9_l4)] → y9_l3.toInt < (n9 : Int) → W p l e (headSpec wsX12_pieceAt ({ frames := 4, cells := 0, slots := 0, locals := 160 })).room s m ([.ref (b 0), .int x0, .int x1]).toArray below meth c H locs 0 0 (MQ below (QF (S := SU) D (wM cI b L v0) (wM cI b L) s.heap.size (fun r u => TyV u ∧ Rg 0 4095 r ∧ True)) ([.ref (b 0), .int x0, .int x1]).toArray s 0 0 (va_A (wM cI b L v0) s.heap.size)) (F0 m 9 ls []) := by
    intro n9
    induction n9 with
    | zero =>
      intro y9_l3 y9_l4 v H locs ls g9_l3 g9_l4 hV hP hD hS hl hm9
      exact absurd rfl (me_0 g9_l3 (by decide) hm9)
    | succ n9 ih9 =>
      intro y9_l3 y9_l4 v H locs ls g9_l3 g9_l4 hV hP hD hS hl hm9
      refine lv_iload hx hb dX12_pieceAt_9 (lv_at hl 3 rfl) ?_
      refine lv_iload_n hx hb dX12_pieceAt_11 rfl (lv_at hl 1 rfl) ?_
      refine lv_icmp_ge (tgt := 35) hx hb dX12_pieceAt_12 (by decide) (fun c5644 => ?_) (fun c5644 => ?_)
      · refine lv_iload_n hx hb dX12_pieceAt_35 rfl (lv_at hl 1 rfl) ?_
        refine lv_if_lt (tgt := 43) hx hb dX12_pieceAt_36 (by decide) (fun c5645 => ?_) (fun c5645 => ?_)
        · have g5646 : Rg (-2147483648) (-1) x1 := rg_ltl (rg_any x1) (by decide : Rg 0 0 (0 : Int32)) c5645 (by decide)
          refine lv_iconst (v := 0) hx hb dX12_pieceAt_43 (by decide) ?_
          refine lv_goto (tgt := 52) hx hb dX12_pieceAt_44 (by decide) ?_
          subst hAe
          exact W.iret (v := 0) hx hb hr (fun t ht hW => ⟨⟨_, v, rfl, ⟨hV, (by decide : Rg 0 4095 (0 : Int32)), trivial⟩, by rw [ht]; exact hP, hD⟩, hS.F ht⟩) hS.2.2 dX12_pieceAt_52
        · have g5647 : Rg 0 2147483647 x1 := rg_ler (by decide : Rg 0 0 (0 : Int32)) (rg_any x1) (rg_nlt c5645) (by decide)
          refine lv_iload_n hx hb dX12_pieceAt_39 rfl (lv_at hl 2 rfl) ?_
          refine lv_if_ne (tgt := 47) hx hb dX12_pieceAt_40 (by decide) (fun c5648 => ?_) (fun c5648 => ?_)
          · have g5649 : Rg 1 4095 y9_l3 := rg_ne_lo (k := 0) g9_l3 (by decide) c5648 (by decide)
            refine lv_aload_n hx hb dX12_pieceAt_47 rfl (lv_at hl 0 rfl) ?_
            refine lv_iload_n hx hb dX12_pieceAt_48 rfl (lv_at hl 2 rfl) ?_
            refine wk_sv 0 (As := [.int y9_l3]) (rest := []) ⟨hx, hb, hml, hown, hts⟩ (w_X12_pieceOf l D cI cS b L v hL hV y9_l3 g5649) hKK hP (ci := 12) rfl rfl (cwV 1 hts gX12_pieceAt_X12_pieceOf rfl rfl rfl (by decide +kernel) ⟨Nat.le_of_ble_eq_true rfl, Nat.le_of_ble_eq_true rfl⟩) rfl hl.1 rfl (Nat.le_of_ble_eq_true rfl) dX12_pieceAt_49 ⟨Nat.le_of_ble_eq_true rfl, Nat.le_of_ble_eq_true rfl⟩ (fun r5650 hr5650 => ?_)
            subst hAe
            exact W.iret (v := r5650) hx hb hr (fun t ht hW => ⟨⟨_, v, rfl, ⟨hV, hr5650.1, trivial⟩, by rw [ht]; exact hP, hD⟩, hS.F ht⟩) hS.2.2 dX12_pieceAt_52
          · have g5651 : Rg 0 0 y9_l3 := wk_eql g9_l3 (by decide : Rg 0 0 (0 : Int32)) c5648 (by decide)
            refine lv_iconst (v := 0) hx hb dX12_pieceAt_43 (by decide) ?_
            refine lv_goto (tgt := 52) hx hb dX12_pieceAt_44 (by decide) ?_
            subst hAe
            exact W.iret (v := 0) hx hb hr (fun t ht hW => ⟨⟨_, v, rfl, ⟨hV, (by decide : Rg 0 4095 (0 : Int32)), trivial⟩, by rw [ht]; exact hP, hD⟩, hS.F ht⟩) hS.2.2 dX12_pieceAt_52
      · have g5652 : Rg 1 2147483647 x1 := rg_ltr g9_l4 (rg_any x1) (rg_nle c5644) (by decide)
        have g5653 : Rg 0 2147483646 y9_l4 := rg_ltl g9_l4 (rg_any x1) (rg_nle c5644) (by decide)
        refine lv_iload_n hx hb dX12_pieceAt_15 rfl (lv_at hl 2 rfl) ?_
        refine lv_if_eq (tgt := 35) hx hb dX12_pieceAt_16 (by decide) (fun c5654 => ?_) (fun c5654 => ?_)
        · have g5655 : Rg 0 0 y9_l3 := wk_eql g9_l3 (by decide : Rg 0 0 (0 : Int32)) c5654 (by decide)
          refine lv_iload_n hx hb dX12_pieceAt_35 rfl (lv_at hl 1 rfl) ?_
          refine lv_if_lt (tgt := 43) hx hb dX12_pieceAt_36 (by decide) (fun c5656 => ?_) (fun c5656 => ?_)
          · exact absurd c5656 (wk_nlt g5652 (by decide : Rg 0 0 (0 : Int32)) (by decide))
          · refine lv_iload_n hx hb dX12_pieceAt_39 rfl (lv_at hl 2 rfl) ?_
            refine lv_if_ne (tgt := 47) hx hb dX12_pieceAt_40 (by decide) (fun c5657 => ?_) (fun c5657 => ?_)
            · exact absurd (wk_yeq g5655 (by decide : Rg 0 0 (0 : Int32)) (by decide)) c5657
            · refine lv_iconst (v := 0) hx hb dX12_pieceAt_43 (by decide) ?_
              refine lv_goto (tgt := 52) hx hb dX12_pieceAt_44 (by decide) ?_
              subst hAe
              exact W.iret (v := 0) hx hb hr (fun t ht hW => ⟨⟨_, v, rfl, ⟨hV, (by decide : Rg 0 4095 (0 : Int32)), trivial⟩, by rw [ht]; exact hP, hD⟩, hS.F ht⟩) hS.2.2 dX12_pieceAt_52
        · have g5658 : Rg 1 4095 y9_l3 := rg_ne_lo (k := 0) g9_l3 (by decide) c5654 (by decide)
          refine lv_iload_n hx hb dX12_pieceAt_19 rfl (lv_at hl 2 rfl) ?_
          refine lv_aload_n hx hb dX12_pieceAt_20 rfl (lv_at hl 0 rfl) ?_
          refine lv_iload_n hx hb dX12_pieceAt_21 rfl (lv_at hl 2 rfl) ?_
          refine wk_sv 0 (As := [.int y9_l3]) (rest := [.int y9_l3]) ⟨hx, hb, hml, hown, hts⟩ (w_X12_pieceOf l D cI cS b L v hL hV y9_l3 g5658) hKK hP (ci := 12) rfl rfl (cwV 1 hts gX12_pieceAt_X12_pieceOf rfl rfl rfl (by decide +kernel) ⟨Nat.le_of_ble_eq_true rfl, Nat.le_of_ble_eq_true rfl⟩) rfl hl.1 rfl (Nat.le_of_ble_eq_true rfl) dX12_pieceAt_22 ⟨Nat.le_of_ble_eq_true rfl, Nat.le_of_ble_eq_true rfl⟩ (fun r5659 hr5659 => ?_)
          refine lv_iconst (v := (-1)) hx hb dX12_pieceAt_25 (by decide) ?_
          refine lv_ixor hx hb dX12_pieceAt_26 ?_
          refine wk_topP (P := fun r => r = r5659 ^^^ ((-1) : Int32)) rfl (fun r5660 qr5660 => ?_)
          refine wk_iandl hx hb dX12_pieceAt_27 g5658 (by decide) (fun r5661 hr5661 qr5661 => ?_)
          refine lv_istore_n (lv' := [(3, .int r5661), (0, .ref (b 0)), (2, .int x1), (4, .int y9_l4)]) hx hb dX12_pieceAt_28 rfl hl (by decide) rfl (fun ls hl => ?_)
          refine wk_iinc (lv' := fun r => [(4, .int r), (3, .int r5661), (0, .ref (b 0)), (2, .int x1)]) (e1 := 1) (f := 2147483647) hx hb dX12_pieceAt_29 hl (k := 3) rfl (by decide) g5653 (by decide) (fun _ => rfl) (fun r5662 ls hr5662 er5662 hl => ?_)
          refine lv_goto (tgt := 9) hx hb dX12_pieceAt_32 (by decide) ?_
          exact ih9 r5661 r5662 v _ _ ls hr5661 (show Rg 0 2147483647 r5662 from rg_w hr5662 (by decide) (by decide)) hV hP hD hS (lv_sub (l' := [(0, .ref (b 0)), (2, .int x1), (3, .int r5661), (4, .int r5662)]) hl [2, 3, 1, 0] rfl) (me_lt hm9 (by rw [qr5661, qr5660]; exact an_piece g5658 hr5659.2))
  refine lv_aload_n hx hb dX12_pieceAt_0 rfl (lv_at hl 0 rfl) ?_
  refine lv_iload_n hx hb dX12_pieceAt_1 rfl (lv_at hl 1 rfl) ?_
  refine wk_qi (wM cI b L) v (As := [.int x0]) (rest := []) ⟨hx, hb, hml, hown, hts⟩ (w_X12_setOf l D cI cS _ b L v hL hV x0) hKK hP hD hS hA 0 (ci := 12) rfl rfl (cwV 1 hts gX12_pieceAt_X12_setOf rfl rfl rfl (by decide +kernel) ⟨Nat.le_of_ble_eq_true rfl, Nat.le_of_ble_eq_true rfl⟩) rfl hl.1 rfl (Nat.le_of_ble_eq_true rfl) dX12_pieceAt_2 ⟨Nat.le_of_ble_eq_true rfl, Nat.le_of_ble_eq_true rfl⟩ (fun r5663 v H locs hr5663 hP hD hS => ?_)
  have hV := hr5663.1
  refine lv_istore_n (lv' := [(3, .int r5663), (0, .ref (b 0)), (1, .int x0), (2, .int x1)]) hx hb dX12_pieceAt_5 rfl hl (by decide) rfl (fun ls hl => ?_)
  refine lv_iconst (v := 0) hx hb dX12_pieceAt_6 (by decide) ?_
  refine lv_istore (lv' := [(4, .int 0), (3, .int r5663), (0, .ref (b 0)), (1, .int x0), (2, .int x1)]) hx hb dX12_pieceAt_7 hl (by decide) rfl (fun ls hl => ?_)
  exact lp9 4096 r5663 (0 : Int32) v _ _ ls hr5663.2.1 (by decide : Rg 0 2147483647 (0 : Int32)) hV hP hD hS (lv_sub (l' := [(0, .ref (b 0)), (2, .int x1), (3, .int r5663), (4, .int 0)]) hl [2, 4, 1, 0] rfl) (me_k hr5663.2.1 (by decide))
set_option maxRecDepth 20000 in
theorem ggX12_nextTo_X12_has : GoodIn wsX12_nextTo wsX12_has := goodIn_r _ [6] (by decide +kernel) (by decide +kernel)
set_option maxRecDepth 20000 in
theorem gX12_nextTo_X12_has : GoodIn wsX12_nextTo (va_wsS RX12 59 yX12_has wsX12_has) := goodIn_app (goodIn_of _ (by decide +kernel)) ggX12_nextTo_X12_has
theorem dX12_nextTo_0 : decode cX12_nextTo 0 = .ok (.iconst 0, 1) := by decide +kernel
theorem dX12_nextTo_1 : decode cX12_nextTo 1 = .ok (.istore_n 2, 1) := by decide +kernel
theorem dX12_nextTo_12 : decode cX12_nextTo 12 = .ok (.iload_n 2, 1) := by decide +kernel
theorem dX12_nextTo_13 : decode cX12_nextTo 13 = .ok (.iload_n 1, 1) := by decide +kernel
theorem dX12_nextTo_14 : decode cX12_nextTo 14 = .ok (.iload_n 3, 1) := by decide +kernel
theorem dX12_nextTo_15 : decode cX12_nextTo 15 = .ok (.invokestatic 59, 3) := by decide +kernel
theorem dX12_nextTo_18 : decode cX12_nextTo 18 = .ok (.ifCond .eq 12, 3) := by decide +kernel
theorem dX12_nextTo_2 : decode cX12_nextTo 2 = .ok (.iconst 0, 1) := by decide +kernel
theorem dX12_nextTo_21 : decode cX12_nextTo 21 = .ok (.aload_n 0, 1) := by decide +kernel
theorem dX12_nextTo_22 : decode cX12_nextTo 22 = .ok (.getfield 13, 3) := by decide +kernel
theorem dX12_nextTo_25 : decode cX12_nextTo 25 = .ok (.iload_n 3, 1) := by decide +kernel
theorem dX12_nextTo_26 : decode cX12_nextTo 26 = .ok (.iaload, 1) := by decide +kernel
theorem dX12_nextTo_27 : decode cX12_nextTo 27 = .ok (.goto 4, 3) := by decide +kernel
theorem dX12_nextTo_3 : decode cX12_nextTo 3 = .ok (.istore_n 3, 1) := by decide +kernel
theorem dX12_nextTo_30 : decode cX12_nextTo 30 = .ok (.iconst 0, 1) := by decide +kernel
theorem dX12_nextTo_31 : decode cX12_nextTo 31 = .ok (.ior, 1) := by decide +kernel
theorem dX12_nextTo_32 : decode cX12_nextTo 32 = .ok (.istore_n 2, 1) := by decide +kernel
theorem dX12_nextTo_33 : decode cX12_nextTo 33 = .ok (.iinc 3 1, 3) := by decide +kernel
theorem dX12_nextTo_36 : decode cX12_nextTo 36 = .ok (.goto (-32), 3) := by decide +kernel
theorem dX12_nextTo_39 : decode cX12_nextTo 39 = .ok (.iload_n 2, 1) := by decide +kernel
theorem dX12_nextTo_4 : decode cX12_nextTo 4 = .ok (.iload_n 3, 1) := by decide +kernel
theorem dX12_nextTo_40 : decode cX12_nextTo 40 = .ok (.ireturn, 1) := by decide +kernel
theorem dX12_nextTo_5 : decode cX12_nextTo 5 = .ok (.aload_n 0, 1) := by decide +kernel
theorem dX12_nextTo_6 : decode cX12_nextTo 6 = .ok (.getfield 63, 3) := by decide +kernel
theorem dX12_nextTo_9 : decode cX12_nextTo 9 = .ok (.if_icmp .ge 30, 3) := by decide +kernel
set_option maxHeartbeats 4000000 in
set_option maxRecDepth 100000 in
theorem w_X12_nextTo (l : Launch) (D : va_G) (cI cS : ClassId) (b : Nat → Nat) (L v : SU) (hL : TyL L) (hV : TyV v) (x0 : Int32) (px0 : Rg 0 4095 x0) : Met l yX12_nextTo wsX12_nextTo ({ frames := 1, cells := 0, slots := 0, locals := 40 }) (PS D cI cS (wM cI b L v) [.ref (b 0), .int x0]) (vp_Si (fun r => Rg 0 4095 r ∧ True)) 0 0 (fun _ => False) := by
  refine Met.ofW (cc := cX12_nextTo) (maxL := 4) (ret := (some .int)) (by decide) rfl ?_
  intro p e s m args below meth c s₁ B hml hv
  obtain ⟨rfl, hP, hKK⟩ := hv
  have hx := B.exec
  have hb := B.bytes
  have hr := B.returns
  have hts := atoms_spec (ws := wsX12_nextTo) B.pre
  have hown : s.vm.findClass RX12 = some m.cls := findClass_of_methodNamed B.named
  have hlocks := B.notSynchronized
  have hK := hKK.1
  have hin12 : ∀ w ∈ wsX120, w ∈ wsX12_nextTo := by decide +kernel
  have hl := lv_entry ([.ref (b 0), .int x0]) (n := 4) (Nat.le_of_ble_eq_true rfl)
  rw [lg_entry_eq]
  generalize (lg_sl ([.ref (b 0), .int x0]) ++ List.replicate (4 - (lg_sl ([.ref (b 0), .int x0])).length) Slot.unset).toArray = ls at hl ⊢
  have hl : lv_has ls 4 [(0, .ref (b 0)), (1, .int x0)] := hl
  have lp4 : ∀ (n4 : Nat) (y4_l2 y4_l3 : Int32) (ls : Array Slot), Rg 0 4095 x0 → Rg 0 4095 y4_l2 → Rg 0 12 y4_l3 → lv_has ls 4 [(0, .ref (b 0)), (1, .int x0), (2, .int y4_l2), (3, .int y4_l3)] → 12 - y4_l3.toInt < (n4 : Int) → W p l e (headSpec wsX12_nextTo ({ frames := 1, cells := 0, slots := 0, locals := 40 })).room s m ([.ref (b 0), .int x0]).toArray below meth c s.heap [] 0 0 (MQ below (vp_Si (fun r => Rg 0 4095 r ∧ True)) ([.ref (b 0), .int x0]).toArray s 0 0 (fun _ => False)) (F0 m 4 ls []) := by
    intro n4
    induction n4 with
    | zero =>
      intro y4_l2 y4_l3 ls g4_l1 g4_l2 g4_l3 hl hm4
      exact absurd rfl (me_z g4_l3 hm4)
    | succ n4 ih4 =>
      intro y4_l2 y4_l3 ls g4_l1 g4_l2 g4_l3 hl hm4
      refine lv_iload_n hx hb dX12_nextTo_4 rfl (lv_at hl 3 rfl) ?_
      refine lv_aload_n hx hb dX12_nextTo_5 rfl (lv_at hl 0 rfl) ?_
      refine va_get (D := D) (ci := 12) (v := .int (L 0 0)) (C := RX12) (T := TX12) (N := 24) hx hb hts hin12 hown hK hP 0 rfl rfl 0 (by decide) (hts (.fieldLink RX12 63 "MissedPointsModel" "many" "I") (by decide +kernel)) (fun _ h9 => h9) rfl dX12_nextTo_6 ?_
      refine lv_icmp_ge (tgt := 39) hx hb dX12_nextTo_9 (by decide) (fun c5766 => ?_) (fun c5766 => ?_)
      · refine lv_iload_n hx hb dX12_nextTo_39 rfl (lv_at hl 2 rfl) ?_
        exact W.iret (v := y4_l2) hx hb hr (fun t ht hW => ⟨_, rfl, ⟨g4_l2, trivial⟩, ht⟩) (fun q hq => absurd hq List.not_mem_nil) dX12_nextTo_40
      · have g5767 : Rg 1 12 (L 0 0) := rg_ltr g4_l3 hL.1 (rg_nle c5766) (by decide)
        have g5768 : Rg 0 11 y4_l3 := rg_ltl g4_l3 hL.1 (rg_nle c5766) (by decide)
        refine lv_iload_n hx hb dX12_nextTo_12 rfl (lv_at hl 2 rfl) ?_
        refine lv_iload_n hx hb dX12_nextTo_13 rfl (lv_at hl 1 rfl) ?_
        refine lv_iload_n hx hb dX12_nextTo_14 rfl (lv_at hl 3 rfl) ?_
        refine lz_ss (As := [.int x0, .int y4_l3]) (rest := [.int y4_l2]) ⟨hx, hb, hml, hown, hts⟩ (w_X12_has l D cI cS x0 y4_l3) hKK (hP.sub (ws' := []) [] rfl) (va_cwS 2 hts gX12_nextTo_X12_has rfl rfl rfl (by decide +kernel) ⟨Nat.le_of_ble_eq_true rfl, Nat.le_of_ble_eq_true rfl⟩) rfl hl.1 rfl (Nat.le_of_ble_eq_true rfl) dX12_nextTo_15 ⟨Nat.le_of_ble_eq_true rfl, Nat.le_of_ble_eq_true rfl⟩ (fun r5769 hr5769 => ?_)
        refine lv_if_eq (tgt := 30) hx hb dX12_nextTo_18 (by decide) (fun c5770 => ?_) (fun c5770 => ?_)
        · have g5771 : Rg 0 0 r5769 := wk_eql hr5769.1 (by decide : Rg 0 0 (0 : Int32)) c5770 (by decide)
          refine lv_iconst (v := 0) hx hb dX12_nextTo_30 (by decide) ?_
          refine wk_ior 12 (e1 := 0) (f := 4095) hx hb dX12_nextTo_31 g4_l2 (by decide : Rg 0 0 (0 : Int32)) (by decide) (fun r5772 hr5772 qr5772 => ?_)
          refine lv_istore_n (lv' := [(2, .int r5772), (0, .ref (b 0)), (1, .int x0), (3, .int y4_l3)]) hx hb dX12_nextTo_32 rfl hl (by decide) rfl (fun ls hl => ?_)
          refine wk_iinc (lv' := fun r => [(3, .int r), (2, .int r5772), (0, .ref (b 0)), (1, .int x0)]) (e1 := 1) (f := 12) hx hb dX12_nextTo_33 hl (k := 3) rfl (by decide) g5768 (by decide) (fun _ => rfl) (fun r5773 ls hr5773 er5773 hl => ?_)
          refine lv_goto (tgt := 4) hx hb dX12_nextTo_36 (by decide) ?_
          exact ih4 r5772 r5773 ls g4_l1 hr5772 (show Rg 0 12 r5773 from rg_w hr5773 (by decide) (by decide)) (lv_sub (l' := [(0, .ref (b 0)), (1, .int x0), (2, .int r5772), (3, .int r5773)]) hl [2, 3, 1, 0] rfl) (me_up hm4 er5773 (by decide))
        · have g5774 : Rg 1 1 r5769 := rg_ne_lo (k := 0) hr5769.1 (by decide) c5770 (by decide)
          refine lv_aload_n hx hb dX12_nextTo_21 rfl (lv_at hl 0 rfl) ?_
          refine va_get (D := D) (ci := 12) (v := .ref (b 1)) (C := RX12) (T := TX12) (N := 24) hx hb hts hin12 hown hK hP 0 rfl rfl 2 (by decide) (hts (.fieldLink RX12 13 "MissedPointsModel" "near" "[I") (by decide +kernel)) (fun _ h9 => h9) rfl dX12_nextTo_22 ?_
          refine lv_iload_n hx hb dX12_nextTo_25 rfl (lv_at hl 3 rfl) ?_
          refine wk_ald hx hb hK hP 1 0 rfl rfl (rg_in g5768 (by decide) (by decide)) dX12_nextTo_26 hV.2.1 (fun r5775 hr5775 => ?_)
          refine lv_goto (tgt := 31) hx hb dX12_nextTo_27 (by decide) ?_
          refine wk_ior 12 (e1 := 0) (f := 4095) hx hb dX12_nextTo_31 g4_l2 hr5775 (by decide) (fun r5776 hr5776 qr5776 => ?_)
          refine lv_istore_n (lv' := [(2, .int r5776), (0, .ref (b 0)), (1, .int x0), (3, .int y4_l3)]) hx hb dX12_nextTo_32 rfl hl (by decide) rfl (fun ls hl => ?_)
          refine wk_iinc (lv' := fun r => [(3, .int r), (2, .int r5776), (0, .ref (b 0)), (1, .int x0)]) (e1 := 1) (f := 12) hx hb dX12_nextTo_33 hl (k := 3) rfl (by decide) g5768 (by decide) (fun _ => rfl) (fun r5777 ls hr5777 er5777 hl => ?_)
          refine lv_goto (tgt := 4) hx hb dX12_nextTo_36 (by decide) ?_
          exact ih4 r5776 r5777 ls g4_l1 hr5776 (show Rg 0 12 r5777 from rg_w hr5777 (by decide) (by decide)) (lv_sub (l' := [(0, .ref (b 0)), (1, .int x0), (2, .int r5776), (3, .int r5777)]) hl [2, 3, 1, 0] rfl) (me_up hm4 er5777 (by decide))
  refine lv_iconst (v := 0) hx hb dX12_nextTo_0 (by decide) ?_
  refine lv_istore_n (lv' := [(2, .int 0), (0, .ref (b 0)), (1, .int x0)]) hx hb dX12_nextTo_1 rfl hl (by decide) rfl (fun ls hl => ?_)
  refine lv_iconst (v := 0) hx hb dX12_nextTo_2 (by decide) ?_
  refine lv_istore_n (lv' := [(3, .int 0), (2, .int 0), (0, .ref (b 0)), (1, .int x0)]) hx hb dX12_nextTo_3 rfl hl (by decide) rfl (fun ls hl => ?_)
  exact lp4 13 (0 : Int32) (0 : Int32) ls px0 (by decide : Rg 0 4095 (0 : Int32)) (by decide : Rg 0 12 (0 : Int32)) (lv_sub (l' := [(0, .ref (b 0)), (1, .int x0), (2, .int 0), (3, .int 0)]) hl [2, 3, 1, 0] rfl) (me_i (by decide : Rg 0 12 (0 : Int32)) (by decide))
set_option maxRecDepth 20000 in
theorem ggX12_piece_X12_markedSet : GoodIn wsX12_piece wsX12_markedSet := goodIn_r _ [34, 19, 20, 35, 36, 37, 3, 38, 18, 21, 22, 23, 24, 47, 48, 49, 50, 51, 52, 53, 54, 55, 56, 57, 58, 59, 60, 61, 62, 63, 64, 65, 66, 67, 68, 69, 70] (by decide +kernel) (by decide +kernel)
set_option maxRecDepth 20000 in
theorem gX12_piece_X12_markedSet : GoodIn wsX12_piece (wsV RX12 126 RX12 yX12_markedSet wsX12_markedSet) := goodIn_app (goodIn_of _ (by decide +kernel)) ggX12_piece_X12_markedSet
set_option maxRecDepth 20000 in
theorem ggX12_piece_X12_nextTo : GoodIn wsX12_piece wsX12_nextTo := goodIn_r _ [46, 19, 20, 28, 29, 3, 30, 47, 48, 49, 50, 51, 52, 53, 54, 55, 56, 57, 58, 59, 60, 61, 62, 63, 64, 65, 66, 67, 68, 69, 70] (by decide +kernel) (by decide +kernel)
set_option maxRecDepth 20000 in
theorem gX12_piece_X12_nextTo : GoodIn wsX12_piece (wsV RX12 138 RX12 yX12_nextTo wsX12_nextTo) := goodIn_app (goodIn_of _ (by decide +kernel)) ggX12_piece_X12_nextTo
theorem dX12_piece_38 : decode cX12_piece 38 = .ok (.iload_n 3, 1) := by decide +kernel
theorem dX12_piece_39 : decode cX12_piece 39 = .ok (.ifCond .ne 8, 3) := by decide +kernel
theorem dX12_piece_42 : decode cX12_piece 42 = .ok (.iload 4, 2) := by decide +kernel
theorem dX12_piece_44 : decode cX12_piece 44 = .ok (.goto 15, 3) := by decide +kernel
theorem dX12_piece_47 : decode cX12_piece 47 = .ok (.aload_n 0, 1) := by decide +kernel
theorem dX12_piece_48 : decode cX12_piece 48 = .ok (.iload 4, 2) := by decide +kernel
theorem dX12_piece_50 : decode cX12_piece 50 = .ok (.invokevirtual 138, 3) := by decide +kernel
theorem dX12_piece_53 : decode cX12_piece 53 = .ok (.aload_n 0, 1) := by decide +kernel
theorem dX12_piece_54 : decode cX12_piece 54 = .ok (.iconst 1, 1) := by decide +kernel
theorem dX12_piece_55 : decode cX12_piece 55 = .ok (.invokevirtual 126, 3) := by decide +kernel
theorem dX12_piece_58 : decode cX12_piece 58 = .ok (.iand, 1) := by decide +kernel
set_option maxHeartbeats 4000000 in
set_option maxRecDepth 100000 in
theorem w_X12_piece (l : Launch) (D : va_G) (cI cS : ClassId) (sz : Nat) (b : Nat → Nat) (L v0 : SU) (hL : TyL L) (hV : TyV v0) (x0 x1 x2 : Int32) : Met l yX12_piece wsX12_piece ({ frames := 5, cells := 0, slots := 0, locals := 200 }) (PQ D cI cS (wM cI b L v0) sz [.ref (b 0), .int x0, .int x1, .int x2]) (QF (S := SU) D (wM cI b L v0) (wM cI b L) sz (fun r u => TyV u ∧ Rg (-2) 4095 r ∧ True)) 0 0 (va_A (wM cI b L v0) sz) := by
  refine Met.ofW (cc := cX12_piece) (maxL := 5) (ret := (some .int)) (by decide) rfl ?_
  intro p e s m args below meth c s₁ B hml hv
  obtain ⟨rfl, hsz, hP, hKK, hD0⟩ := hv
  have hx := B.exec
  have hb := B.bytes
  have hr := B.returns
  have hts := atoms_spec (ws := wsX12_piece) B.pre
  have hown : s.vm.findClass RX12 = some m.cls := findClass_of_methodNamed B.named
  have hlocks := B.notSynchronized
  have hK := hKK.1
  subst hsz
  have hD := hD0.self (sz := s.heap.size)
  obtain ⟨A, hAe⟩ : ∃ A, A = va_A (wM cI b L v0) s.heap.size := ⟨_, rfl⟩
  rw [← hAe] at hD
  have hA : ∀ q : Nat, s.heap.size ≤ q → A q := fun q h => by rw [hAe]; exact Or.inr h
  have hS : va_S A s.heap s.heap [] := va_S.rf
  have hl := lv_entry ([.ref (b 0), .int x0, .int x1, .int x2]) (n := 5) (Nat.le_of_ble_eq_true rfl)
  rw [lg_entry_eq]
  generalize (lg_sl ([.ref (b 0), .int x0, .int x1, .int x2]) ++ List.replicate (5 - (lg_sl ([.ref (b 0), .int x0, .int x1, .int x2])).length) Slot.unset).toArray = ls at hl ⊢
  have hl : lv_has ls 5 [(0, .ref (b 0)), (1, .int x0), (2, .int x1), (3, .int x2)] := hl
  obtain ⟨v, hv9⟩ : ∃ v : SU, v = v0 := ⟨_, rfl⟩
  rw [← hv9] at hP hD hV
  refine lv_iload_n hx hb dX12_piece_0 rfl (lv_at hl 1 rfl) ?_
  refine lv_iconst (v := 0) hx hb dX12_piece_1 (by decide) ?_
  refine lv_iconst (v := 1) hx hb dX12_piece_2 (by decide) ?_
  refine lz_ss (As := [.int x0, .int 0, .int 1]) (rest := []) ⟨hx, hb, hml, hown, hts⟩ (w_X12_in l D cI cS x0 (0 : Int32) (1 : Int32)) hKK (hP.sub (ws' := []) [] rfl) (va_cwS 3 hts gX12_piece_X12_in rfl rfl rfl (by decide +kernel) ⟨Nat.le_of_ble_eq_true rfl, Nat.le_of_ble_eq_true rfl⟩) rfl hl.1 rfl (Nat.le_of_ble_eq_true rfl) dX12_piece_3 ⟨Nat.le_of_ble_eq_true rfl, Nat.le_of_ble_eq_true rfl⟩ (fun r5798 hr5798 => ?_)
  refine lv_if_eq (tgt := 18) hx hb dX12_piece_6 (by decide) (fun c5799 => ?_) (fun c5799 => ?_)
  · have g5800 : Rg 0 0 r5798 := wk_eql hr5798.1 (by decide : Rg 0 0 (0 : Int32)) c5799 (by decide)
    refine lv_bipush (v := (-2)) hx hb dX12_piece_18 (by decide) ?_
    subst hAe
    exact W.iret (v := (-2)) hx hb hr (fun t ht hW => ⟨⟨_, v, rfl, ⟨hV, (by decide : Rg (-2) 4095 ((-2) : Int32)), trivial⟩, by rw [ht]; exact hP, hD⟩, hS.F ht⟩) hS.2.2 dX12_piece_20
  · have g5801 : Rg 0 1 x0 := wk_in3 (rg_any x0) (by decide : Rg 0 0 (0 : Int32)) (by decide : Rg 1 1 (1 : Int32)) (hr5798.2 c5799) (by decide)
    have g5802 : Rg 1 1 r5798 := rg_ne_lo (k := 0) hr5798.1 (by decide) c5799 (by decide)
    refine lv_iload_n hx hb dX12_piece_9 rfl (lv_at hl 3 rfl) ?_
    refine lv_iconst (v := 0) hx hb dX12_piece_10 (by decide) ?_
    refine lv_iconst (v := 1) hx hb dX12_piece_11 (by decide) ?_
    refine lz_ss (As := [.int x2, .int 0, .int 1]) (rest := []) ⟨hx, hb, hml, hown, hts⟩ (w_X12_in l D cI cS x2 (0 : Int32) (1 : Int32)) hKK (hP.sub (ws' := []) [] rfl) (va_cwS 3 hts gX12_piece_X12_in rfl rfl rfl (by decide +kernel) ⟨Nat.le_of_ble_eq_true rfl, Nat.le_of_ble_eq_true rfl⟩) rfl hl.1 rfl (Nat.le_of_ble_eq_true rfl) dX12_piece_12 ⟨Nat.le_of_ble_eq_true rfl, Nat.le_of_ble_eq_true rfl⟩ (fun r5803 hr5803 => ?_)
    refine lv_if_ne (tgt := 21) hx hb dX12_piece_15 (by decide) (fun c5804 => ?_) (fun c5804 => ?_)
    · have g5805 : Rg 0 1 x2 := wk_in3 (rg_any x2) (by decide : Rg 0 0 (0 : Int32)) (by decide : Rg 1 1 (1 : Int32)) (hr5803.2 c5804) (by decide)
      have g5806 : Rg 1 1 r5803 := rg_ne_lo (k := 0) hr5803.1 (by decide) c5804 (by decide)
      refine lv_aload_n hx hb dX12_piece_21 rfl (lv_at hl 0 rfl) ?_
      refine lv_iload_n hx hb dX12_piece_22 rfl (lv_at hl 1 rfl) ?_
      refine lv_iload_n hx hb dX12_piece_23 rfl (lv_at hl 2 rfl) ?_
      refine wk_qi (wM cI b L) v (As := [.int x0, .int x1]) (rest := []) ⟨hx, hb, hml, hown, hts⟩ (w_X12_pieceAt l D cI cS _ b L v hL hV x0 x1 g5801) hKK hP hD hS hA 0 (ci := 12) rfl rfl (cwV 2 hts gX12_piece_X12_pieceAt rfl rfl rfl (by decide +kernel) ⟨Nat.le_of_ble_eq_true rfl, Nat.le_of_ble_eq_true rfl⟩) rfl hl.1 rfl (Nat.le_of_ble_eq_true rfl) dX12_piece_24 ⟨Nat.le_of_ble_eq_true rfl, Nat.le_of_ble_eq_true rfl⟩ (fun r5807 v H locs hr5807 hP hD hS => ?_)
      have hV := hr5807.1
      refine lv_istore (lv' := [(4, .int r5807), (0, .ref (b 0)), (1, .int x0), (2, .int x1), (3, .int x2)]) hx hb dX12_piece_27 hl (by decide) rfl (fun ls hl => ?_)
      refine lv_iload hx hb dX12_piece_29 (lv_at hl 0 rfl) ?_
      refine lv_if_ne (tgt := 38) hx hb dX12_piece_31 (by decide) (fun c5808 => ?_) (fun c5808 => ?_)
      · have g5809 : Rg 1 4095 r5807 := rg_ne_lo (k := 0) hr5807.2.1 (by decide) c5808 (by decide)
        refine lv_iload_n hx hb dX12_piece_38 rfl (lv_at hl 4 rfl) ?_
        refine lv_if_ne (tgt := 47) hx hb dX12_piece_39 (by decide) (fun c5810 => ?_) (fun c5810 => ?_)
        · have g5811 : Rg 1 1 x2 := rg_ne_lo (k := 0) g5805 (by decide) c5810 (by decide)
          refine lv_aload_n hx hb dX12_piece_47 rfl (lv_at hl 1 rfl) ?_
          refine lv_iload hx hb dX12_piece_48 (lv_at hl 0 rfl) ?_
          refine wk_sv 0 (As := [.int r5807]) (rest := []) ⟨hx, hb, hml, hown, hts⟩ (w_X12_nextTo l D cI cS b L v hL hV r5807 (show Rg 0 4095 r5807 from rg_w g5809 (by decide) (by decide))) hKK hP (ci := 12) rfl rfl (cwV 1 hts gX12_piece_X12_nextTo rfl rfl rfl (by decide +kernel) ⟨Nat.le_of_ble_eq_true rfl, Nat.le_of_ble_eq_true rfl⟩) rfl hl.1 rfl (Nat.le_of_ble_eq_true rfl) dX12_piece_50 ⟨Nat.le_of_ble_eq_true rfl, Nat.le_of_ble_eq_true rfl⟩ (fun r5812 hr5812 => ?_)
          refine lv_aload_n hx hb dX12_piece_53 rfl (lv_at hl 1 rfl) ?_
          refine lv_iconst (v := 1) hx hb dX12_piece_54 (by decide) ?_
          refine wk_sv 0 (As := [.int 1]) (rest := [.int r5812]) ⟨hx, hb, hml, hown, hts⟩ (w_X12_markedSet l D cI cS b L v hL hV (1 : Int32)) hKK hP (ci := 12) rfl rfl (cwV 1 hts gX12_piece_X12_markedSet rfl rfl rfl (by decide +kernel) ⟨Nat.le_of_ble_eq_true rfl, Nat.le_of_ble_eq_true rfl⟩) rfl hl.1 rfl (Nat.le_of_ble_eq_true rfl) dX12_piece_55 ⟨Nat.le_of_ble_eq_true rfl, Nat.le_of_ble_eq_true rfl⟩ (fun r5813 hr5813 => ?_)
          refine wk_iandl hx hb dX12_piece_58 hr5812.1 (by decide) (fun r5814 hr5814 qr5814 => ?_)
          subst hAe
          exact W.iret (v := r5814) hx hb hr (fun t ht hW => ⟨⟨_, v, rfl, ⟨hV, (show Rg (-2) 4095 r5814 from rg_w hr5814 (by decide) (by decide)), trivial⟩, by rw [ht]; exact hP, hD⟩, hS.F ht⟩) hS.2.2 dX12_piece_59
        · have g5815 : Rg 0 0 x2 := wk_eql g5805 (by decide : Rg 0 0 (0 : Int32)) c5810 (by decide)
          refine lv_iload hx hb dX12_piece_42 (lv_at hl 0 rfl) ?_
          refine lv_goto (tgt := 59) hx hb dX12_piece_44 (by decide) ?_
          subst hAe
          exact W.iret (v := r5807) hx hb hr (fun t ht hW => ⟨⟨_, v, rfl, ⟨hV, (show Rg (-2) 4095 r5807 from rg_w g5809 (by decide) (by decide)), trivial⟩, by rw [ht]; exact hP, hD⟩, hS.F ht⟩) hS.2.2 dX12_piece_59
      · have g5816 : Rg 0 0 r5807 := wk_eql hr5807.2.1 (by decide : Rg 0 0 (0 : Int32)) c5808 (by decide)
        refine lv_iconst (v := (-1)) hx hb dX12_piece_34 (by decide) ?_
        refine lv_goto (tgt := 59) hx hb dX12_piece_35 (by decide) ?_
        subst hAe
        exact W.iret (v := (-1)) hx hb hr (fun t ht hW => ⟨⟨_, v, rfl, ⟨hV, (by decide : Rg (-2) 4095 ((-1) : Int32)), trivial⟩, by rw [ht]; exact hP, hD⟩, hS.F ht⟩) hS.2.2 dX12_piece_59
    · have g5817 : Rg 0 0 r5803 := wk_eql hr5803.1 (by decide : Rg 0 0 (0 : Int32)) c5804 (by decide)
      refine lv_bipush (v := (-2)) hx hb dX12_piece_18 (by decide) ?_
      subst hAe
      exact W.iret (v := (-2)) hx hb hr (fun t ht hW => ⟨⟨_, v, rfl, ⟨hV, (by decide : Rg (-2) 4095 ((-2) : Int32)), trivial⟩, by rw [ht]; exact hP, hD⟩, hS.F ht⟩) hS.2.2 dX12_piece_20
set_option maxRecDepth 20000 in
theorem ggX12_surplus_X12_nextTo : GoodIn wsX12_surplus wsX12_nextTo := goodIn_r _ [42, 8, 9, 17, 18, 4, 19, 43, 44, 45, 46, 47, 48, 49, 50, 51, 52, 53, 54, 55, 56, 57, 58, 59, 60, 61, 62, 63, 64, 65, 66] (by decide +kernel) (by decide +kernel)
set_option maxRecDepth 20000 in
theorem gX12_surplus_X12_nextTo : GoodIn wsX12_surplus (wsV RX12 138 RX12 yX12_nextTo wsX12_nextTo) := goodIn_app (goodIn_of _ (by decide +kernel)) ggX12_surplus_X12_nextTo
set_option maxRecDepth 20000 in
theorem ggX12_surplus_X12_pieceOf : GoodIn wsX12_surplus wsX12_pieceOf := goodIn_r _ [38, 8, 9, 17, 18, 4, 19, 43, 44, 45, 46, 47, 48, 49, 50, 51, 52, 53, 54, 55, 56, 57, 58, 59, 60, 61, 62, 63, 64, 65, 66] (by decide +kernel) (by decide +kernel)
set_option maxRecDepth 20000 in
theorem gX12_surplus_X12_pieceOf : GoodIn wsX12_surplus (wsV RX12 129 RX12 yX12_pieceOf wsX12_pieceOf) := goodIn_app (goodIn_of _ (by decide +kernel)) ggX12_surplus_X12_pieceOf
theorem dX12_surplus_43 : decode cX12_surplus 43 = .ok (.iload_n 2, 1) := by decide +kernel
theorem dX12_surplus_44 : decode cX12_surplus 44 = .ok (.aload_n 0, 1) := by decide +kernel
theorem dX12_surplus_45 : decode cX12_surplus 45 = .ok (.aload_n 0, 1) := by decide +kernel
theorem dX12_surplus_46 : decode cX12_surplus 46 = .ok (.iload_n 3, 1) := by decide +kernel
theorem dX12_surplus_47 : decode cX12_surplus 47 = .ok (.invokevirtual 129, 3) := by decide +kernel
theorem dX12_surplus_50 : decode cX12_surplus 50 = .ok (.invokevirtual 138, 3) := by decide +kernel
theorem dX12_surplus_53 : decode cX12_surplus 53 = .ok (.iload_n 1, 1) := by decide +kernel
theorem dX12_surplus_54 : decode cX12_surplus 54 = .ok (.iand, 1) := by decide +kernel
theorem dX12_surplus_55 : decode cX12_surplus 55 = .ok (.ifCond .eq 7, 3) := by decide +kernel
theorem dX12_surplus_58 : decode cX12_surplus 58 = .ok (.iconst 1, 1) := by decide +kernel
theorem dX12_surplus_59 : decode cX12_surplus 59 = .ok (.goto 4, 3) := by decide +kernel
theorem dX12_surplus_62 : decode cX12_surplus 62 = .ok (.iconst 0, 1) := by decide +kernel
theorem dX12_surplus_63 : decode cX12_surplus 63 = .ok (.iadd, 1) := by decide +kernel
theorem dX12_surplus_64 : decode cX12_surplus 64 = .ok (.istore_n 2, 1) := by decide +kernel
theorem dX12_surplus_65 : decode cX12_surplus 65 = .ok (.iload_n 3, 1) := by decide +kernel
theorem dX12_surplus_66 : decode cX12_surplus 66 = .ok (.aload_n 0, 1) := by decide +kernel
theorem dX12_surplus_67 : decode cX12_surplus 67 = .ok (.iload_n 3, 1) := by decide +kernel
theorem dX12_surplus_68 : decode cX12_surplus 68 = .ok (.invokevirtual 129, 3) := by decide +kernel
theorem dX12_surplus_71 : decode cX12_surplus 71 = .ok (.iconst (-1), 1) := by decide +kernel
theorem dX12_surplus_72 : decode cX12_surplus 72 = .ok (.ixor, 1) := by decide +kernel
theorem dX12_surplus_73 : decode cX12_surplus 73 = .ok (.iand, 1) := by decide +kernel
theorem dX12_surplus_74 : decode cX12_surplus 74 = .ok (.istore_n 3, 1) := by decide +kernel
theorem dX12_surplus_75 : decode cX12_surplus 75 = .ok (.goto (-36), 3) := by decide +kernel
set_option maxHeartbeats 4000000 in
set_option maxRecDepth 100000 in
theorem w_X12_surplus (l : Launch) (D : va_G) (cI cS : ClassId) (sz : Nat) (b : Nat → Nat) (L v0 : SU) (hL : TyL L) (hV : TyV v0) (x0 : Int32) : Met l yX12_surplus wsX12_surplus ({ frames := 3, cells := 0, slots := 0, locals := 120 }) (PQ D cI cS (wM cI b L v0) sz [.ref (b 0), .int x0]) (QF (S := SU) D (wM cI b L v0) (wM cI b L) sz (fun r u => TyV u ∧ Rg (-2147483648) 2147483647 r ∧ True)) 0 0 (va_A (wM cI b L v0) sz) := by
  refine Met.ofW (cc := cX12_surplus) (maxL := 4) (ret := (some .int)) (by decide) rfl ?_
  intro p e s m args below meth c s₁ B hml hv
  obtain ⟨rfl, hsz, hP, hKK, hD0⟩ := hv
  have hx := B.exec
  have hb := B.bytes
  have hr := B.returns
  have hts := atoms_spec (ws := wsX12_surplus) B.pre
  have hown : s.vm.findClass RX12 = some m.cls := findClass_of_methodNamed B.named
  have hlocks := B.notSynchronized
  have hK := hKK.1
  subst hsz
  have hD := hD0.self (sz := s.heap.size)
  obtain ⟨A, hAe⟩ : ∃ A, A = va_A (wM cI b L v0) s.heap.size := ⟨_, rfl⟩
  rw [← hAe] at hD
  have hA : ∀ q : Nat, s.heap.size ≤ q → A q := fun q h => by rw [hAe]; exact Or.inr h
  have hS : va_S A s.heap s.heap [] := va_S.rf
  have hl := lv_entry ([.ref (b 0), .int x0]) (n := 4) (Nat.le_of_ble_eq_true rfl)
  rw [lg_entry_eq]
  generalize (lg_sl ([.ref (b 0), .int x0]) ++ List.replicate (4 - (lg_sl ([.ref (b 0), .int x0])).length) Slot.unset).toArray = ls at hl ⊢
  have hl : lv_has ls 4 [(0, .ref (b 0)), (1, .int x0)] := hl
  obtain ⟨v, hv9⟩ : ∃ v : SU, v = v0 := ⟨_, rfl⟩
  rw [← hv9] at hP hD hV
  have lp39 : ∀ (n39 : Nat) (y39_l2 y39_l3 : Int32) (v : SU) (H : Heap) (locs : List Loc) (ls : Array Slot), Rg 0 4095 x0 → Rg 0 4095 y39_l3 → TyV v → va_P D cls (wM cI b L v) H → va_D A (wM cI b L v) → va_S A s.heap H locs → lv_has ls 4 [(0, .ref (b 0)), (1, .int x0), (2, .int y39_l2), (3, .int y39_l3)] → y39_l3.toInt < (n39 : Int) → W p l e (headSpec wsX12_surplus ({ frames := 3, cells := 0, slots := 0, locals := 120 })).room s m ([.ref (b 0), .int x0]).toArray below meth c H locs 0 0 (MQ below (QF (S := SU) D (wM cI b L v0) (wM cI b L) s.heap.size (fun r u => TyV u ∧ Rg (-2147483648) 2147483647 r ∧ True)) ([.ref (b 0), .int x0]).toArray s 0 0 (va_A (wM cI b L v0) s.heap.size)) (F0 m 39 ls []) := by
    intro n39
    induction n39 with
    | zero =>
      intro y39_l2 y39_l3 v H locs ls g39_l1 g39_l3 hV hP hD hS hl hm39
      exact absurd rfl (me_0 g39_l3 (by decide) hm39)
    | succ n39 ih39 =>
      intro y39_l2 y39_l3 v H locs ls g39_l1 g39_l3 hV hP hD hS hl hm39
      refine lv_iload_n hx hb dX12_surplus_39 rfl (lv_at hl 3 rfl) ?_
      refine lv_if_eq (tgt := 78) hx hb dX12_surplus_40 (by decide) (fun c5882 => ?_) (fun c5882 => ?_)
      · have g5883 : Rg 0 0 y39_l3 := wk_eql g39_l3 (by decide : Rg 0 0 (0 : Int32)) c5882 (by decide)
        refine lv_iload_n hx hb dX12_surplus_78 rfl (lv_at hl 2 rfl) ?_
        subst hAe
        exact W.iret (v := y39_l2) hx hb hr (fun t ht hW => ⟨⟨_, v, rfl, ⟨hV, (rg_any y39_l2), trivial⟩, by rw [ht]; exact hP, hD⟩, hS.F ht⟩) hS.2.2 dX12_surplus_79
      · have g5884 : Rg 1 4095 y39_l3 := rg_ne_lo (k := 0) g39_l3 (by decide) c5882 (by decide)
        refine lv_iload_n hx hb dX12_surplus_43 rfl (lv_at hl 2 rfl) ?_
        refine lv_aload_n hx hb dX12_surplus_44 rfl (lv_at hl 0 rfl) ?_
        refine lv_aload_n hx hb dX12_surplus_45 rfl (lv_at hl 0 rfl) ?_
        refine lv_iload_n hx hb dX12_surplus_46 rfl (lv_at hl 3 rfl) ?_
        refine wk_sv 0 (As := [.int y39_l3]) (rest := [.ref (b 0), .int y39_l2]) ⟨hx, hb, hml, hown, hts⟩ (w_X12_pieceOf l D cI cS b L v hL hV y39_l3 g5884) hKK hP (ci := 12) rfl rfl (cwV 1 hts gX12_surplus_X12_pieceOf rfl rfl rfl (by decide +kernel) ⟨Nat.le_of_ble_eq_true rfl, Nat.le_of_ble_eq_true rfl⟩) rfl hl.1 rfl (Nat.le_of_ble_eq_true rfl) dX12_surplus_47 ⟨Nat.le_of_ble_eq_true rfl, Nat.le_of_ble_eq_true rfl⟩ (fun r5885 hr5885 => ?_)
        refine wk_sv 0 (As := [.int r5885]) (rest := [.int y39_l2]) ⟨hx, hb, hml, hown, hts⟩ (w_X12_nextTo l D cI cS b L v hL hV r5885 hr5885.1) hKK hP (ci := 12) rfl rfl (cwV 1 hts gX12_surplus_X12_nextTo rfl rfl rfl (by decide +kernel) ⟨Nat.le_of_ble_eq_true rfl, Nat.le_of_ble_eq_true rfl⟩) rfl hl.1 rfl (Nat.le_of_ble_eq_true rfl) dX12_surplus_50 ⟨Nat.le_of_ble_eq_true rfl, Nat.le_of_ble_eq_true rfl⟩ (fun r5886 hr5886 => ?_)
        refine lv_iload_n hx hb dX12_surplus_53 rfl (lv_at hl 1 rfl) ?_
        refine wk_iandl hx hb dX12_surplus_54 hr5886.1 (by decide) (fun r5887 hr5887 qr5887 => ?_)
        refine lv_if_eq (tgt := 62) hx hb dX12_surplus_55 (by decide) (fun c5888 => ?_) (fun c5888 => ?_)
        · have g5889 : Rg 0 0 r5887 := wk_eql hr5887 (by decide : Rg 0 0 (0 : Int32)) c5888 (by decide)
          refine lv_iconst (v := 0) hx hb dX12_surplus_62 (by decide) ?_
          refine wk_iadd (e1 := (-2147483648)) (f := 2147483647) hx hb dX12_surplus_63 (rg_any y39_l2) (by decide : Rg 0 0 (0 : Int32)) (by decide) (fun r5890 hr5890 er5890 qr5890 => ?_)
          refine lv_istore_n (lv' := [(2, .int r5890), (0, .ref (b 0)), (1, .int x0), (3, .int y39_l3)]) hx hb dX12_surplus_64 rfl hl (by decide) rfl (fun ls hl => ?_)
          refine lv_iload_n hx hb dX12_surplus_65 rfl (lv_at hl 3 rfl) ?_
          refine lv_aload_n hx hb dX12_surplus_66 rfl (lv_at hl 1 rfl) ?_
          refine lv_iload_n hx hb dX12_surplus_67 rfl (lv_at hl 3 rfl) ?_
          refine wk_sv 0 (As := [.int y39_l3]) (rest := [.int y39_l3]) ⟨hx, hb, hml, hown, hts⟩ (w_X12_pieceOf l D cI cS b L v hL hV y39_l3 g5884) hKK hP (ci := 12) rfl rfl (cwV 1 hts gX12_surplus_X12_pieceOf rfl rfl rfl (by decide +kernel) ⟨Nat.le_of_ble_eq_true rfl, Nat.le_of_ble_eq_true rfl⟩) rfl hl.1 rfl (Nat.le_of_ble_eq_true rfl) dX12_surplus_68 ⟨Nat.le_of_ble_eq_true rfl, Nat.le_of_ble_eq_true rfl⟩ (fun r5891 hr5891 => ?_)
          refine lv_iconst (v := (-1)) hx hb dX12_surplus_71 (by decide) ?_
          refine lv_ixor hx hb dX12_surplus_72 ?_
          refine wk_topP (P := fun r => r = r5891 ^^^ ((-1) : Int32)) rfl (fun r5892 qr5892 => ?_)
          refine wk_iandl hx hb dX12_surplus_73 g5884 (by decide) (fun r5893 hr5893 qr5893 => ?_)
          refine lv_istore_n (lv' := [(3, .int r5893), (2, .int r5890), (0, .ref (b 0)), (1, .int x0)]) hx hb dX12_surplus_74 rfl hl (by decide) rfl (fun ls hl => ?_)
          refine lv_goto (tgt := 39) hx hb dX12_surplus_75 (by decide) ?_
          exact ih39 r5890 r5893 v _ _ ls g39_l1 hr5893 hV hP hD hS (lv_sub (l' := [(0, .ref (b 0)), (1, .int x0), (2, .int r5890), (3, .int r5893)]) hl [2, 3, 1, 0] rfl) (me_lt hm39 (by rw [qr5893, qr5892]; exact an_piece g5884 hr5891.2))
        · have g5894 : Rg 1 4095 r5887 := rg_ne_lo (k := 0) hr5887 (by decide) c5888 (by decide)
          refine lv_iconst (v := 1) hx hb dX12_surplus_58 (by decide) ?_
          refine lv_goto (tgt := 63) hx hb dX12_surplus_59 (by decide) ?_
          refine lv_iadd hx hb dX12_surplus_63 ?_
          refine wk_topP (P := fun r => r = y39_l2 + (1 : Int32)) rfl (fun r5895 qr5895 => ?_)
          refine lv_istore_n (lv' := [(2, .int r5895), (0, .ref (b 0)), (1, .int x0), (3, .int y39_l3)]) hx hb dX12_surplus_64 rfl hl (by decide) rfl (fun ls hl => ?_)
          refine lv_iload_n hx hb dX12_surplus_65 rfl (lv_at hl 3 rfl) ?_
          refine lv_aload_n hx hb dX12_surplus_66 rfl (lv_at hl 1 rfl) ?_
          refine lv_iload_n hx hb dX12_surplus_67 rfl (lv_at hl 3 rfl) ?_
          refine wk_sv 0 (As := [.int y39_l3]) (rest := [.int y39_l3]) ⟨hx, hb, hml, hown, hts⟩ (w_X12_pieceOf l D cI cS b L v hL hV y39_l3 g5884) hKK hP (ci := 12) rfl rfl (cwV 1 hts gX12_surplus_X12_pieceOf rfl rfl rfl (by decide +kernel) ⟨Nat.le_of_ble_eq_true rfl, Nat.le_of_ble_eq_true rfl⟩) rfl hl.1 rfl (Nat.le_of_ble_eq_true rfl) dX12_surplus_68 ⟨Nat.le_of_ble_eq_true rfl, Nat.le_of_ble_eq_true rfl⟩ (fun r5896 hr5896 => ?_)
          refine lv_iconst (v := (-1)) hx hb dX12_surplus_71 (by decide) ?_
          refine lv_ixor hx hb dX12_surplus_72 ?_
          refine wk_topP (P := fun r => r = r5896 ^^^ ((-1) : Int32)) rfl (fun r5897 qr5897 => ?_)
          refine wk_iandl hx hb dX12_surplus_73 g5884 (by decide) (fun r5898 hr5898 qr5898 => ?_)
          refine lv_istore_n (lv' := [(3, .int r5898), (2, .int r5895), (0, .ref (b 0)), (1, .int x0)]) hx hb dX12_surplus_74 rfl hl (by decide) rfl (fun ls hl => ?_)
          refine lv_goto (tgt := 39) hx hb dX12_surplus_75 (by decide) ?_
          exact ih39 r5895 r5898 v _ _ ls g39_l1 hr5898 hV hP hD hS (lv_sub (l' := [(0, .ref (b 0)), (1, .int x0), (2, .int r5895), (3, .int r5898)]) hl [2, 3, 1, 0] rfl) (me_lt hm39 (by rw [qr5898, qr5897]; exact an_piece g5884 hr5896.2))
  refine lv_aload_n hx hb dX12_surplus_0 rfl (lv_at hl 0 rfl) ?_
  refine wk_qv (wM cI b L) v (As := []) (rest := []) ⟨hx, hb, hml, hown, hts⟩ (w_X12_reckons l D cI cS _ b L v hL hV) hKK hP hD hS hA 0 (ci := 12) rfl rfl (cwV 0 hts gX12_surplus_X12_reckons rfl rfl rfl (by decide +kernel) ⟨Nat.le_of_ble_eq_true rfl, Nat.le_of_ble_eq_true rfl⟩) rfl hl.1 rfl (Nat.le_of_ble_eq_true rfl) dX12_surplus_1 ⟨Nat.le_of_ble_eq_true rfl, Nat.le_of_ble_eq_true rfl⟩ (fun v H locs hr5899 hP hD hS => ?_)
  have hV := hr5899.1
  refine lv_aload_n hx hb dX12_surplus_4 rfl (lv_at hl 0 rfl) ?_
  refine lv_iload_n hx hb dX12_surplus_5 rfl (lv_at hl 1 rfl) ?_
  refine wk_sv 0 (As := [.int x0]) (rest := []) ⟨hx, hb, hml, hown, hts⟩ (w_X12_isSet l D cI cS b L v hL hV x0) hKK hP (ci := 12) rfl rfl (cwV 1 hts gX12_surplus_X12_isSet rfl rfl rfl (by decide +kernel) ⟨Nat.le_of_ble_eq_true rfl, Nat.le_of_ble_eq_true rfl⟩) rfl hl.1 rfl (Nat.le_of_ble_eq_true rfl) dX12_surplus_6 ⟨Nat.le_of_ble_eq_true rfl, Nat.le_of_ble_eq_true rfl⟩ (fun r5900 hr5900 => ?_)
  refine lv_if_eq (tgt := 24) hx hb dX12_surplus_9 (by decide) (fun c5901 => ?_) (fun c5901 => ?_)
  · have g5902 : Rg 0 0 r5900 := wk_eql hr5900.1 (by decide : Rg 0 0 (0 : Int32)) c5901 (by decide)
    refine lv_bipush (v := (-2)) hx hb dX12_surplus_24 (by decide) ?_
    subst hAe
    exact W.iret (v := (-2)) hx hb hr (fun t ht hW => ⟨⟨_, v, rfl, ⟨hV, (by decide : Rg (-2147483648) 2147483647 ((-2) : Int32)), trivial⟩, by rw [ht]; exact hP, hD⟩, hS.F ht⟩) hS.2.2 dX12_surplus_26
  · have g5903 : Rg 0 4095 x0 := (hr5900.2 c5901)
    have g5904 : Rg 1 1 r5900 := rg_ne_lo (k := 0) hr5900.1 (by decide) c5901 (by decide)
    refine lv_iload_n hx hb dX12_surplus_12 rfl (lv_at hl 1 rfl) ?_
    refine lv_aload_n hx hb dX12_surplus_13 rfl (lv_at hl 0 rfl) ?_
    refine lv_iconst (v := 1) hx hb dX12_surplus_14 (by decide) ?_
    refine wk_sv 0 (As := [.int 1]) (rest := [.int x0]) ⟨hx, hb, hml, hown, hts⟩ (w_X12_markedSet l D cI cS b L v hL hV (1 : Int32)) hKK hP (ci := 12) rfl rfl (cwV 1 hts gX12_surplus_X12_markedSet rfl rfl rfl (by decide +kernel) ⟨Nat.le_of_ble_eq_true rfl, Nat.le_of_ble_eq_true rfl⟩) rfl hl.1 rfl (Nat.le_of_ble_eq_true rfl) dX12_surplus_15 ⟨Nat.le_of_ble_eq_true rfl, Nat.le_of_ble_eq_true rfl⟩ (fun r5905 hr5905 => ?_)
    refine lv_iconst (v := (-1)) hx hb dX12_surplus_18 (by decide) ?_
    refine lv_ixor hx hb dX12_surplus_19 ?_
    refine wk_topP (P := fun r => r = r5905 ^^^ ((-1) : Int32)) rfl (fun r5906 qr5906 => ?_)
    refine wk_iandl hx hb dX12_surplus_20 g5903 (by decide) (fun r5907 hr5907 qr5907 => ?_)
    refine lv_if_eq (tgt := 27) hx hb dX12_surplus_21 (by decide) (fun c5908 => ?_) (fun c5908 => ?_)
    · have g5909 : Rg 0 0 r5907 := wk_eql hr5907 (by decide : Rg 0 0 (0 : Int32)) c5908 (by decide)
      refine lv_iload_n hx hb dX12_surplus_27 rfl (lv_at hl 1 rfl) ?_
      refine lz_ss (As := [.int x0]) (rest := []) ⟨hx, hb, hml, hown, hts⟩ (w_X12_bits l D cI cS x0) hKK (hP.sub (ws' := []) [] rfl) (va_cwS 1 hts gX12_surplus_X12_bits rfl rfl rfl (by decide +kernel) ⟨Nat.le_of_ble_eq_true rfl, Nat.le_of_ble_eq_true rfl⟩) rfl hl.1 rfl (Nat.le_of_ble_eq_true rfl) dX12_surplus_28 ⟨Nat.le_of_ble_eq_true rfl, Nat.le_of_ble_eq_true rfl⟩ (fun r5910 hr5910 => ?_)
      refine lv_ineg hx hb dX12_surplus_31 ?_
      refine wk_topP (P := fun r => r = -r5910) rfl (fun r5911 qr5911 => ?_)
      refine lv_istore_n (lv' := [(2, .int r5911), (0, .ref (b 0)), (1, .int x0)]) hx hb dX12_surplus_32 rfl hl (by decide) rfl (fun ls hl => ?_)
      refine lv_aload_n hx hb dX12_surplus_33 rfl (lv_at hl 1 rfl) ?_
      refine lv_iconst (v := 0) hx hb dX12_surplus_34 (by decide) ?_
      refine wk_sv 0 (As := [.int 0]) (rest := []) ⟨hx, hb, hml, hown, hts⟩ (w_X12_markedSet l D cI cS b L v hL hV (0 : Int32)) hKK hP (ci := 12) rfl rfl (cwV 1 hts gX12_surplus_X12_markedSet rfl rfl rfl (by decide +kernel) ⟨Nat.le_of_ble_eq_true rfl, Nat.le_of_ble_eq_true rfl⟩) rfl hl.1 rfl (Nat.le_of_ble_eq_true rfl) dX12_surplus_35 ⟨Nat.le_of_ble_eq_true rfl, Nat.le_of_ble_eq_true rfl⟩ (fun r5912 hr5912 => ?_)
      refine lv_istore_n (lv' := [(3, .int r5912), (2, .int r5911), (0, .ref (b 0)), (1, .int x0)]) hx hb dX12_surplus_38 rfl hl (by decide) rfl (fun ls hl => ?_)
      exact lp39 4096 r5911 r5912 v _ _ ls g5903 hr5912.1 hV hP hD hS (lv_sub (l' := [(0, .ref (b 0)), (1, .int x0), (2, .int r5911), (3, .int r5912)]) hl [2, 3, 1, 0] rfl) (me_k hr5912.1 (by decide))
    · have g5913 : Rg 1 4095 r5907 := rg_ne_lo (k := 0) hr5907 (by decide) c5908 (by decide)
      refine lv_bipush (v := (-2)) hx hb dX12_surplus_24 (by decide) ?_
      subst hAe
      exact W.iret (v := (-2)) hx hb hr (fun t ht hW => ⟨⟨_, v, rfl, ⟨hV, (by decide : Rg (-2147483648) 2147483647 ((-2) : Int32)), trivial⟩, by rw [ht]; exact hP, hD⟩, hS.F ht⟩) hS.2.2 dX12_surplus_26
set_option maxRecDepth 20000 in
theorem ggX12_oddOf_X12_bits : GoodIn wsX12_oddOf wsX12_bits := goodIn_r _ [17] (by decide +kernel) (by decide +kernel)
set_option maxRecDepth 20000 in
theorem gX12_oddOf_X12_bits : GoodIn wsX12_oddOf (va_wsS RX12 85 yX12_bits wsX12_bits) := goodIn_app (goodIn_of _ (by decide +kernel)) ggX12_oddOf_X12_bits
set_option maxRecDepth 20000 in
theorem ggX12_oddOf_X12_pieceOf : GoodIn wsX12_oddOf wsX12_pieceOf := goodIn_r _ [10, 6, 11, 12, 13, 4, 14, 18, 19, 20, 21, 22, 23, 24, 25, 26, 27, 28, 29, 30, 31, 32, 33, 34, 35, 36, 37, 38, 39, 40, 41] (by decide +kernel) (by decide +kernel)
set_option maxRecDepth 20000 in
theorem gX12_oddOf_X12_pieceOf : GoodIn wsX12_oddOf (wsV RX12 129 RX12 yX12_pieceOf wsX12_pieceOf) := goodIn_app (goodIn_of _ (by decide +kernel)) ggX12_oddOf_X12_pieceOf
theorem dX12_oddOf_15 : decode cX12_oddOf 15 = .ok (.iload_n 2, 1) := by decide +kernel
theorem dX12_oddOf_16 : decode cX12_oddOf 16 = .ok (.aload_n 0, 1) := by decide +kernel
theorem dX12_oddOf_17 : decode cX12_oddOf 17 = .ok (.iload_n 3, 1) := by decide +kernel
theorem dX12_oddOf_18 : decode cX12_oddOf 18 = .ok (.invokevirtual 129, 3) := by decide +kernel
theorem dX12_oddOf_21 : decode cX12_oddOf 21 = .ok (.invokestatic 85, 3) := by decide +kernel
theorem dX12_oddOf_24 : decode cX12_oddOf 24 = .ok (.iconst 2, 1) := by decide +kernel
theorem dX12_oddOf_25 : decode cX12_oddOf 25 = .ok (.irem, 1) := by decide +kernel
theorem dX12_oddOf_26 : decode cX12_oddOf 26 = .ok (.iadd, 1) := by decide +kernel
theorem dX12_oddOf_27 : decode cX12_oddOf 27 = .ok (.istore_n 2, 1) := by decide +kernel
theorem dX12_oddOf_28 : decode cX12_oddOf 28 = .ok (.iload_n 3, 1) := by decide +kernel
theorem dX12_oddOf_29 : decode cX12_oddOf 29 = .ok (.aload_n 0, 1) := by decide +kernel
theorem dX12_oddOf_30 : decode cX12_oddOf 30 = .ok (.iload_n 3, 1) := by decide +kernel
theorem dX12_oddOf_31 : decode cX12_oddOf 31 = .ok (.invokevirtual 129, 3) := by decide +kernel
theorem dX12_oddOf_34 : decode cX12_oddOf 34 = .ok (.iconst (-1), 1) := by decide +kernel
theorem dX12_oddOf_35 : decode cX12_oddOf 35 = .ok (.ixor, 1) := by decide +kernel
theorem dX12_oddOf_36 : decode cX12_oddOf 36 = .ok (.iand, 1) := by decide +kernel
theorem dX12_oddOf_37 : decode cX12_oddOf 37 = .ok (.istore_n 3, 1) := by decide +kernel
theorem dX12_oddOf_38 : decode cX12_oddOf 38 = .ok (.goto (-27), 3) := by decide +kernel
set_option maxHeartbeats 4000000 in
set_option maxRecDepth 100000 in
theorem w_X12_oddOf (l : Launch) (D : va_G) (cI cS : ClassId) (b : Nat → Nat) (L v : SU) (hL : TyL L) (hV : TyV v) (x0 : Int32) (px0 : Rg 0 4095 x0) : Met l yX12_oddOf wsX12_oddOf ({ frames := 2, cells := 0, slots := 0, locals := 80 }) (PS D cI cS (wM cI b L v) [.ref (b 0), .int x0]) (vp_Si (fun r => Rg (-2147483648) 2147483647 r ∧ True)) 0 0 (fun _ => False) := by
  refine Met.ofW (cc := cX12_oddOf) (maxL := 4) (ret := (some .int)) (by decide) rfl ?_
  intro p e s m args below meth c s₁ B hml hv
  obtain ⟨rfl, hP, hKK⟩ := hv
  have hx := B.exec
  have hb := B.bytes
  have hr := B.returns
  have hts := atoms_spec (ws := wsX12_oddOf) B.pre
  have hown : s.vm.findClass RX12 = some m.cls := findClass_of_methodNamed B.named
  have hlocks := B.notSynchronized
  have hK := hKK.1
  have hl := lv_entry ([.ref (b 0), .int x0]) (n := 4) (Nat.le_of_ble_eq_true rfl)
  rw [lg_entry_eq]
  generalize (lg_sl ([.ref (b 0), .int x0]) ++ List.replicate (4 - (lg_sl ([.ref (b 0), .int x0])).length) Slot.unset).toArray = ls at hl ⊢
  have hl : lv_has ls 4 [(0, .ref (b 0)), (1, .int x0)] := hl
  have lp11 : ∀ (n11 : Nat) (y11_l2 y11_l3 : Int32) (ls : Array Slot), Rg 0 4095 y11_l3 → lv_has ls 4 [(0, .ref (b 0)), (2, .int y11_l2), (3, .int y11_l3)] → y11_l3.toInt < (n11 : Int) → W p l e (headSpec wsX12_oddOf ({ frames := 2, cells := 0, slots := 0, locals := 80 })).room s m ([.ref (b 0), .int x0]).toArray below meth c s.heap [] 0 0 (MQ below (vp_Si (fun r => Rg (-2147483648) 2147483647 r ∧ True)) ([.ref (b 0), .int x0]).toArray s 0 0 (fun _ => False)) (F0 m 11 ls []) := by
    intro n11
    induction n11 with
    | zero =>
      intro y11_l2 y11_l3 ls g11_l3 hl hm11
      exact absurd rfl (me_0 g11_l3 (by decide) hm11)
    | succ n11 ih11 =>
      intro y11_l2 y11_l3 ls g11_l3 hl hm11
      refine lv_iload_n hx hb dX12_oddOf_11 rfl (lv_at hl 2 rfl) ?_
      refine lv_if_eq (tgt := 41) hx hb dX12_oddOf_12 (by decide) (fun c5940 => ?_) (fun c5940 => ?_)
      · have g5941 : Rg 0 0 y11_l3 := wk_eql g11_l3 (by decide : Rg 0 0 (0 : Int32)) c5940 (by decide)
        refine lv_iload_n hx hb dX12_oddOf_41 rfl (lv_at hl 1 rfl) ?_
        exact W.iret (v := y11_l2) hx hb hr (fun t ht hW => ⟨_, rfl, ⟨(rg_any y11_l2), trivial⟩, ht⟩) (fun q hq => absurd hq List.not_mem_nil) dX12_oddOf_42
      · have g5942 : Rg 1 4095 y11_l3 := rg_ne_lo (k := 0) g11_l3 (by decide) c5940 (by decide)
        refine lv_iload_n hx hb dX12_oddOf_15 rfl (lv_at hl 1 rfl) ?_
        refine lv_aload_n hx hb dX12_oddOf_16 rfl (lv_at hl 0 rfl) ?_
        refine lv_iload_n hx hb dX12_oddOf_17 rfl (lv_at hl 2 rfl) ?_
        refine wk_sv 0 (As := [.int y11_l3]) (rest := [.int y11_l2]) ⟨hx, hb, hml, hown, hts⟩ (w_X12_pieceOf l D cI cS b L v hL hV y11_l3 g5942) hKK hP (ci := 12) rfl rfl (cwV 1 hts gX12_oddOf_X12_pieceOf rfl rfl rfl (by decide +kernel) ⟨Nat.le_of_ble_eq_true rfl, Nat.le_of_ble_eq_true rfl⟩) rfl hl.1 rfl (Nat.le_of_ble_eq_true rfl) dX12_oddOf_18 ⟨Nat.le_of_ble_eq_true rfl, Nat.le_of_ble_eq_true rfl⟩ (fun r5943 hr5943 => ?_)
        refine lz_ss (As := [.int r5943]) (rest := [.int y11_l2]) ⟨hx, hb, hml, hown, hts⟩ (w_X12_bits l D cI cS r5943) hKK (hP.sub (ws' := []) [] rfl) (va_cwS 1 hts gX12_oddOf_X12_bits rfl rfl rfl (by decide +kernel) ⟨Nat.le_of_ble_eq_true rfl, Nat.le_of_ble_eq_true rfl⟩) rfl hl.1 rfl (Nat.le_of_ble_eq_true rfl) dX12_oddOf_21 ⟨Nat.le_of_ble_eq_true rfl, Nat.le_of_ble_eq_true rfl⟩ (fun r5944 hr5944 => ?_)
        refine lv_iconst (v := 2) hx hb dX12_oddOf_24 (by decide) ?_
        refine lv_irem hx hb dX12_oddOf_25 (by decide) ?_
        refine wk_any (fun r5945 => ?_)
        refine lv_iadd hx hb dX12_oddOf_26 ?_
        refine wk_topP (P := fun r => r = y11_l2 + r5945) rfl (fun r5946 qr5946 => ?_)
        refine lv_istore_n (lv' := [(2, .int r5946), (0, .ref (b 0)), (3, .int y11_l3)]) hx hb dX12_oddOf_27 rfl hl (by decide) rfl (fun ls hl => ?_)
        refine lv_iload_n hx hb dX12_oddOf_28 rfl (lv_at hl 2 rfl) ?_
        refine lv_aload_n hx hb dX12_oddOf_29 rfl (lv_at hl 1 rfl) ?_
        refine lv_iload_n hx hb dX12_oddOf_30 rfl (lv_at hl 2 rfl) ?_
        refine wk_sv 0 (As := [.int y11_l3]) (rest := [.int y11_l3]) ⟨hx, hb, hml, hown, hts⟩ (w_X12_pieceOf l D cI cS b L v hL hV y11_l3 g5942) hKK hP (ci := 12) rfl rfl (cwV 1 hts gX12_oddOf_X12_pieceOf rfl rfl rfl (by decide +kernel) ⟨Nat.le_of_ble_eq_true rfl, Nat.le_of_ble_eq_true rfl⟩) rfl hl.1 rfl (Nat.le_of_ble_eq_true rfl) dX12_oddOf_31 ⟨Nat.le_of_ble_eq_true rfl, Nat.le_of_ble_eq_true rfl⟩ (fun r5947 hr5947 => ?_)
        refine lv_iconst (v := (-1)) hx hb dX12_oddOf_34 (by decide) ?_
        refine lv_ixor hx hb dX12_oddOf_35 ?_
        refine wk_topP (P := fun r => r = r5947 ^^^ ((-1) : Int32)) rfl (fun r5948 qr5948 => ?_)
        refine wk_iandl hx hb dX12_oddOf_36 g5942 (by decide) (fun r5949 hr5949 qr5949 => ?_)
        refine lv_istore_n (lv' := [(3, .int r5949), (2, .int r5946), (0, .ref (b 0))]) hx hb dX12_oddOf_37 rfl hl (by decide) rfl (fun ls hl => ?_)
        refine lv_goto (tgt := 11) hx hb dX12_oddOf_38 (by decide) ?_
        exact ih11 r5946 r5949 ls hr5949 (lv_sub (l' := [(0, .ref (b 0)), (2, .int r5946), (3, .int r5949)]) hl [2, 1, 0] rfl) (me_lt hm11 (by rw [qr5949, qr5948]; exact an_piece g5942 hr5947.2))
  refine lv_iconst (v := 0) hx hb dX12_oddOf_0 (by decide) ?_
  refine lv_istore_n (lv' := [(2, .int 0), (0, .ref (b 0)), (1, .int x0)]) hx hb dX12_oddOf_1 rfl hl (by decide) rfl (fun ls hl => ?_)
  refine lv_aload_n hx hb dX12_oddOf_2 rfl (lv_at hl 1 rfl) ?_
  refine wk_sv 0 (As := []) (rest := []) ⟨hx, hb, hml, hown, hts⟩ (w_X12_all l D cI cS b L v hL hV) hKK hP (ci := 12) rfl rfl (cwV 0 hts gX12_oddOf_X12_all rfl rfl rfl (by decide +kernel) ⟨Nat.le_of_ble_eq_true rfl, Nat.le_of_ble_eq_true rfl⟩) rfl hl.1 rfl (Nat.le_of_ble_eq_true rfl) dX12_oddOf_3 ⟨Nat.le_of_ble_eq_true rfl, Nat.le_of_ble_eq_true rfl⟩ (fun r5950 hr5950 => ?_)
  refine lv_iload_n hx hb dX12_oddOf_6 rfl (lv_at hl 2 rfl) ?_
  refine lv_iconst (v := (-1)) hx hb dX12_oddOf_7 (by decide) ?_
  refine lv_ixor hx hb dX12_oddOf_8 ?_
  refine wk_topP (P := fun r => r = x0 ^^^ ((-1) : Int32)) rfl (fun r5951 qr5951 => ?_)
  refine wk_iandl hx hb dX12_oddOf_9 hr5950.1 (by decide) (fun r5952 hr5952 qr5952 => ?_)
  refine lv_istore_n (lv' := [(3, .int r5952), (2, .int 0), (0, .ref (b 0)), (1, .int x0)]) hx hb dX12_oddOf_10 rfl hl (by decide) rfl (fun ls hl => ?_)
  exact lp11 4096 (0 : Int32) r5952 ls hr5952 (lv_sub (l' := [(0, .ref (b 0)), (2, .int 0), (3, .int r5952)]) hl [2, 1, 0] rfl) (me_k hr5952 (by decide))
set_option maxHeartbeats 4000000 in
set_option maxRecDepth 100000 in
theorem w_X12_odd (l : Launch) (D : va_G) (cI cS : ClassId) (b : Nat → Nat) (L v : SU) (hL : TyL L) (hV : TyV v) (x0 : Int32) : Met l yX12_odd wsX12_odd ({ frames := 3, cells := 0, slots := 0, locals := 120 }) (PS D cI cS (wM cI b L v) [.ref (b 0), .int x0]) (vp_Si (fun r => Rg (-2147483648) 2147483647 r ∧ True)) 0 0 (fun _ => False) := by
  refine Met.ofW (cc := cX12_odd) (maxL := 2) (ret := (some .int)) (by decide) rfl ?_
  intro p e s m args below meth c s₁ B hml hv
  obtain ⟨rfl, hP, hKK⟩ := hv
  have hx := B.exec
  have hb := B.bytes
  have hr := B.returns
  have hts := atoms_spec (ws := wsX12_odd) B.pre
  have hown : s.vm.findClass RX12 = some m.cls := findClass_of_methodNamed B.named
  have hlocks := B.notSynchronized
  have hK := hKK.1
  have hl := lv_entry ([.ref (b 0), .int x0]) (n := 2) (Nat.le_of_ble_eq_true rfl)
  rw [lg_entry_eq]
  generalize (lg_sl ([.ref (b 0), .int x0]) ++ List.replicate (2 - (lg_sl ([.ref (b 0), .int x0])).length) Slot.unset).toArray = ls at hl ⊢
  have hl : lv_has ls 2 [(0, .ref (b 0)), (1, .int x0)] := hl
  refine lv_aload_n hx hb dX12_odd_0 rfl (lv_at hl 0 rfl) ?_
  refine lv_iload_n hx hb dX12_odd_1 rfl (lv_at hl 1 rfl) ?_
  refine wk_sv 0 (As := [.int x0]) (rest := []) ⟨hx, hb, hml, hown, hts⟩ (w_X12_isSet l D cI cS b L v hL hV x0) hKK hP (ci := 12) rfl rfl (cwV 1 hts gX12_odd_X12_isSet rfl rfl rfl (by decide +kernel) ⟨Nat.le_of_ble_eq_true rfl, Nat.le_of_ble_eq_true rfl⟩) rfl hl.1 rfl (Nat.le_of_ble_eq_true rfl) dX12_odd_2 ⟨Nat.le_of_ble_eq_true rfl, Nat.le_of_ble_eq_true rfl⟩ (fun r5959 hr5959 => ?_)
  refine lv_if_eq (tgt := 16) hx hb dX12_odd_5 (by decide) (fun c5960 => ?_) (fun c5960 => ?_)
  · have g5961 : Rg 0 0 r5959 := wk_eql hr5959.1 (by decide : Rg 0 0 (0 : Int32)) c5960 (by decide)
    refine lv_bipush (v := (-2)) hx hb dX12_odd_16 (by decide) ?_
    exact W.iret (v := (-2)) hx hb hr (fun t ht hW => ⟨_, rfl, ⟨(by decide : Rg (-2147483648) 2147483647 ((-2) : Int32)), trivial⟩, ht⟩) (fun q hq => absurd hq List.not_mem_nil) dX12_odd_18
  · have g5962 : Rg 0 4095 x0 := (hr5959.2 c5960)
    have g5963 : Rg 1 1 r5959 := rg_ne_lo (k := 0) hr5959.1 (by decide) c5960 (by decide)
    refine lv_aload_n hx hb dX12_odd_8 rfl (lv_at hl 0 rfl) ?_
    refine lv_iload_n hx hb dX12_odd_9 rfl (lv_at hl 1 rfl) ?_
    refine wk_sv 0 (As := [.int x0]) (rest := []) ⟨hx, hb, hml, hown, hts⟩ (w_X12_oddOf l D cI cS b L v hL hV x0 g5962) hKK hP (ci := 12) rfl rfl (cwV 1 hts gX12_odd_X12_oddOf rfl rfl rfl (by decide +kernel) ⟨Nat.le_of_ble_eq_true rfl, Nat.le_of_ble_eq_true rfl⟩) rfl hl.1 rfl (Nat.le_of_ble_eq_true rfl) dX12_odd_10 ⟨Nat.le_of_ble_eq_true rfl, Nat.le_of_ble_eq_true rfl⟩ (fun r5964 hr5964 => ?_)
    refine lv_goto (tgt := 18) hx hb dX12_odd_13 (by decide) ?_
    exact W.iret (v := r5964) hx hb hr (fun t ht hW => ⟨_, rfl, ⟨hr5964.1, trivial⟩, ht⟩) (fun q hq => absurd hq List.not_mem_nil) dX12_odd_18
theorem dX12_barrier_34 : decode cX12_barrier 34 = .ok (.iconst 0, 1) := by decide +kernel
set_option maxHeartbeats 4000000 in
set_option maxRecDepth 100000 in
theorem w_X12_barrier (l : Launch) (D : va_G) (cI cS : ClassId) (sz : Nat) (b : Nat → Nat) (L v0 : SU) (hL : TyL L) (hV : TyV v0) (x0 : Int32) : Met l yX12_barrier wsX12_barrier ({ frames := 5, cells := 0, slots := 0, locals := 200 }) (PQ D cI cS (wM cI b L v0) sz [.ref (b 0), .int x0]) (QF (S := SU) D (wM cI b L v0) (wM cI b L) sz (fun r u => TyV u ∧ Rg (-2) 1 r ∧ (r = 0 → Rg 0 4095 x0))) 0 0 (va_A (wM cI b L v0) sz) := by
  refine Met.ofW (cc := cX12_barrier) (maxL := 2) (ret := (some .int)) (by decide) rfl ?_
  intro p e s m args below meth c s₁ B hml hv
  obtain ⟨rfl, hsz, hP, hKK, hD0⟩ := hv
  have hx := B.exec
  have hb := B.bytes
  have hr := B.returns
  have hts := atoms_spec (ws := wsX12_barrier) B.pre
  have hown : s.vm.findClass RX12 = some m.cls := findClass_of_methodNamed B.named
  have hlocks := B.notSynchronized
  have hK := hKK.1
  subst hsz
  have hD := hD0.self (sz := s.heap.size)
  obtain ⟨A, hAe⟩ : ∃ A, A = va_A (wM cI b L v0) s.heap.size := ⟨_, rfl⟩
  rw [← hAe] at hD
  have hA : ∀ q : Nat, s.heap.size ≤ q → A q := fun q h => by rw [hAe]; exact Or.inr h
  have hS : va_S A s.heap s.heap [] := va_S.rf
  have hl := lv_entry ([.ref (b 0), .int x0]) (n := 2) (Nat.le_of_ble_eq_true rfl)
  rw [lg_entry_eq]
  generalize (lg_sl ([.ref (b 0), .int x0]) ++ List.replicate (2 - (lg_sl ([.ref (b 0), .int x0])).length) Slot.unset).toArray = ls at hl ⊢
  have hl : lv_has ls 2 [(0, .ref (b 0)), (1, .int x0)] := hl
  obtain ⟨v, hv9⟩ : ∃ v : SU, v = v0 := ⟨_, rfl⟩
  rw [← hv9] at hP hD hV
  refine lv_aload_n hx hb dX12_barrier_0 rfl (lv_at hl 0 rfl) ?_
  refine lv_iload_n hx hb dX12_barrier_1 rfl (lv_at hl 1 rfl) ?_
  refine wk_sv 0 (As := [.int x0]) (rest := []) ⟨hx, hb, hml, hown, hts⟩ (w_X12_isSet l D cI cS b L v hL hV x0) hKK hP (ci := 12) rfl rfl (cwV 1 hts gX12_barrier_X12_isSet rfl rfl rfl (by decide +kernel) ⟨Nat.le_of_ble_eq_true rfl, Nat.le_of_ble_eq_true rfl⟩) rfl hl.1 rfl (Nat.le_of_ble_eq_true rfl) dX12_barrier_2 ⟨Nat.le_of_ble_eq_true rfl, Nat.le_of_ble_eq_true rfl⟩ (fun r5975 hr5975 => ?_)
  refine lv_if_ne (tgt := 13) hx hb dX12_barrier_5 (by decide) (fun c5976 => ?_) (fun c5976 => ?_)
  · have g5977 : Rg 0 4095 x0 := (hr5975.2 c5976)
    have g5978 : Rg 1 1 r5975 := rg_ne_lo (k := 0) hr5975.1 (by decide) c5976 (by decide)
    refine lv_aload_n hx hb dX12_barrier_13 rfl (lv_at hl 0 rfl) ?_
    refine lv_iload_n hx hb dX12_barrier_14 rfl (lv_at hl 1 rfl) ?_
    refine wk_sv 0 (As := [.int x0]) (rest := []) ⟨hx, hb, hml, hown, hts⟩ (w_X12_oddOf l D cI cS b L v hL hV x0 g5977) hKK hP (ci := 12) rfl rfl (cwV 1 hts gX12_barrier_X12_oddOf rfl rfl rfl (by decide +kernel) ⟨Nat.le_of_ble_eq_true rfl, Nat.le_of_ble_eq_true rfl⟩) rfl hl.1 rfl (Nat.le_of_ble_eq_true rfl) dX12_barrier_15 ⟨Nat.le_of_ble_eq_true rfl, Nat.le_of_ble_eq_true rfl⟩ (fun r5979 hr5979 => ?_)
    refine lv_iload_n hx hb dX12_barrier_18 rfl (lv_at hl 1 rfl) ?_
    refine lz_ss (As := [.int x0]) (rest := [.int r5979]) ⟨hx, hb, hml, hown, hts⟩ (w_X12_bits l D cI cS x0) hKK (hP.sub (ws' := []) [] rfl) (va_cwS 1 hts gX12_barrier_X12_bits rfl rfl rfl (by decide +kernel) ⟨Nat.le_of_ble_eq_true rfl, Nat.le_of_ble_eq_true rfl⟩) rfl hl.1 rfl (Nat.le_of_ble_eq_true rfl) dX12_barrier_19 ⟨Nat.le_of_ble_eq_true rfl, Nat.le_of_ble_eq_true rfl⟩ (fun r5980 hr5980 => ?_)
    refine lv_isub hx hb dX12_barrier_22 ?_
    refine wk_topP (P := fun r => r = r5979 - r5980) rfl (fun r5981 qr5981 => ?_)
    refine lv_aload_n hx hb dX12_barrier_23 rfl (lv_at hl 0 rfl) ?_
    refine wk_qi (wM cI b L) v (As := []) (rest := [.int r5981]) ⟨hx, hb, hml, hown, hts⟩ (w_X12_lack l D cI cS _ b L v hL hV) hKK hP hD hS hA 0 (ci := 12) rfl rfl (cwV 0 hts gX12_barrier_X12_lack rfl rfl rfl (by decide +kernel) ⟨Nat.le_of_ble_eq_true rfl, Nat.le_of_ble_eq_true rfl⟩) rfl hl.1 rfl (Nat.le_of_ble_eq_true rfl) dX12_barrier_24 ⟨Nat.le_of_ble_eq_true rfl, Nat.le_of_ble_eq_true rfl⟩ (fun r5982 v H locs hr5982 hP hD hS => ?_)
    have hV := hr5982.1
    refine lv_icmp_ne (tgt := 34) hx hb dX12_barrier_27 (by decide) (fun c5983 => ?_) (fun c5983 => ?_)
    · refine lv_iconst (v := 0) hx hb dX12_barrier_34 (by decide) ?_
      subst hAe
      exact W.iret (v := 0) hx hb hr (fun t ht hW => ⟨⟨_, v, rfl, ⟨hV, (by decide : Rg (-2) 1 (0 : Int32)), fun _ => g5977⟩, by rw [ht]; exact hP, hD⟩, hS.F ht⟩) hS.2.2 dX12_barrier_35
    · refine lv_iconst (v := 1) hx hb dX12_barrier_30 (by decide) ?_
      refine lv_goto (tgt := 35) hx hb dX12_barrier_31 (by decide) ?_
      subst hAe
      exact W.iret (v := 1) hx hb hr (fun t ht hW => ⟨⟨_, v, rfl, ⟨hV, (by decide : Rg (-2) 1 (1 : Int32)), fun h9 => absurd h9 (by decide)⟩, by rw [ht]; exact hP, hD⟩, hS.F ht⟩) hS.2.2 dX12_barrier_35
  · have g5984 : Rg 0 0 r5975 := wk_eql hr5975.1 (by decide : Rg 0 0 (0 : Int32)) c5976 (by decide)
    refine lv_bipush (v := (-2)) hx hb dX12_barrier_8 (by decide) ?_
    refine lv_goto (tgt := 35) hx hb dX12_barrier_10 (by decide) ?_
    subst hAe
    exact W.iret (v := (-2)) hx hb hr (fun t ht hW => ⟨⟨_, v, rfl, ⟨hV, (by decide : Rg (-2) 1 ((-2) : Int32)), fun h9 => absurd h9 (by decide)⟩, by rw [ht]; exact hP, hD⟩, hS.F ht⟩) hS.2.2 dX12_barrier_35
theorem dX12_barriers_56 : decode cX12_barriers 56 = .ok (.goto 41, 3) := by decide +kernel
theorem dX12_barriers_68 : decode cX12_barriers 68 = .ok (.iload 6, 2) := by decide +kernel
theorem dX12_barriers_70 : decode cX12_barriers 70 = .ok (.invokestatic 85, 3) := by decide +kernel
theorem dX12_barriers_73 : decode cX12_barriers 73 = .ok (.iload 4, 2) := by decide +kernel
theorem dX12_barriers_75 : decode cX12_barriers 75 = .ok (.invokestatic 85, 3) := by decide +kernel
theorem dX12_barriers_78 : decode cX12_barriers 78 = .ok (.if_icmp .le 8, 3) := by decide +kernel
theorem dX12_barriers_86 : decode cX12_barriers 86 = .ok (.iload 4, 2) := by decide +kernel
set_option maxHeartbeats 4000000 in
set_option maxRecDepth 100000 in
theorem w_X12_barriers (l : Launch) (D : va_G) (cI cS : ClassId) (sz : Nat) (b : Nat → Nat) (L v0 : SU) (hL : TyL L) (hV : TyV v0) (x0 : Int32) : Met l yX12_barriers wsX12_barriers ({ frames := 5, cells := 0, slots := 0, locals := 200 }) (PQ D cI cS (wM cI b L v0) sz [.ref (b 0), .int x0]) (QF (S := SU) D (wM cI b L v0) (wM cI b L) sz (fun r u => TyV u ∧ Rg (-2147483648) 2147483647 r ∧ True)) 0 0 (va_A (wM cI b L v0) sz) := by
  refine Met.ofW (cc := cX12_barriers) (maxL := 7) (ret := (some .int)) (by decide) rfl ?_
  intro p e s m args below meth c s₁ B hml hv
  obtain ⟨rfl, hsz, hP, hKK, hD0⟩ := hv
  have hx := B.exec
  have hb := B.bytes
  have hr := B.returns
  have hts := atoms_spec (ws := wsX12_barriers) B.pre
  have hown : s.vm.findClass RX12 = some m.cls := findClass_of_methodNamed B.named
  have hlocks := B.notSynchronized
  have hK := hKK.1
  subst hsz
  have hD := hD0.self (sz := s.heap.size)
  obtain ⟨A, hAe⟩ : ∃ A, A = va_A (wM cI b L v0) s.heap.size := ⟨_, rfl⟩
  rw [← hAe] at hD
  have hA : ∀ q : Nat, s.heap.size ≤ q → A q := fun q h => by rw [hAe]; exact Or.inr h
  have hS : va_S A s.heap s.heap [] := va_S.rf
  have hl := lv_entry ([.ref (b 0), .int x0]) (n := 7) (Nat.le_of_ble_eq_true rfl)
  rw [lg_entry_eq]
  generalize (lg_sl ([.ref (b 0), .int x0]) ++ List.replicate (7 - (lg_sl ([.ref (b 0), .int x0])).length) Slot.unset).toArray = ls at hl ⊢
  have hl : lv_has ls 7 [(0, .ref (b 0)), (1, .int x0)] := hl
  obtain ⟨v, hv9⟩ : ∃ v : SU, v = v0 := ⟨_, rfl⟩
  rw [← hv9] at hP hD hV
  have lp31 : ∀ (n31 : Nat) (y31_l2 y31_l3 y31_l4 y31_l5 y31_l6 : Int32) (v : SU) (H : Heap) (locs : List Loc) (ls : Array Slot), Rg 0 2 x0 → Rg (-1) 4095 y31_l4 → Rg 0 4095 y31_l5 → Rg 0 4096 y31_l6 → TyV v → va_P D cls (wM cI b L v) H → va_D A (wM cI b L v) → va_S A s.heap H locs → lv_has ls 7 [(0, .ref (b 0)), (1, .int x0), (2, .int y31_l2), (3, .int y31_l3), (4, .int y31_l4), (5, .int y31_l5), (6, .int y31_l6)] → 4096 - y31_l6.toInt < (n31 : Int) → W p l e (headSpec wsX12_barriers ({ frames := 5, cells := 0, slots := 0, locals := 200 })).room s m ([.ref (b 0), .int x0]).toArray below meth c H locs 0 0 (MQ below (QF (S := SU) D (wM cI b L v0) (wM cI b L) s.heap.size (fun r u => TyV u ∧ Rg (-2147483648) 2147483647 r ∧ True)) ([.ref (b 0), .int x0]).toArray s 0 0 (va_A (wM cI b L v0) s.heap.size)) (F0 m 31 ls []) := by
    intro n31
    induction n31 with
    | zero =>
      intro y31_l2 y31_l3 y31_l4 y31_l5 y31_l6 v H locs ls g31_l1 g31_l4 g31_l5 g31_l6 hV hP hD hS hl hm31
      exact absurd rfl (me_z g31_l6 hm31)
    | succ n31 ih31 =>
      intro y31_l2 y31_l3 y31_l4 y31_l5 y31_l6 v H locs ls g31_l1 g31_l4 g31_l5 g31_l6 hV hP hD hS hl hm31
      refine lv_iload hx hb dX12_barriers_31 (lv_at hl 6 rfl) ?_
      refine lv_aload_n hx hb dX12_barriers_33 rfl (lv_at hl 0 rfl) ?_
      refine wk_sv 0 (As := []) (rest := [.int y31_l6]) ⟨hx, hb, hml, hown, hts⟩ (w_X12_all l D cI cS b L v hL hV) hKK hP (ci := 12) rfl rfl (cwV 0 hts gX12_barriers_X12_all rfl rfl rfl (by decide +kernel) ⟨Nat.le_of_ble_eq_true rfl, Nat.le_of_ble_eq_true rfl⟩) rfl hl.1 rfl (Nat.le_of_ble_eq_true rfl) dX12_barriers_34 ⟨Nat.le_of_ble_eq_true rfl, Nat.le_of_ble_eq_true rfl⟩ (fun r6947 hr6947 => ?_)
      refine lv_icmp_gt (tgt := 103) hx hb dX12_barriers_37 (by decide) (fun c6948 => ?_) (fun c6948 => ?_)
      · have g6949 : Rg 1 4096 y31_l6 := rg_ltr hr6947.1 g31_l6 c6948 (by decide)
        refine lv_iload_n hx hb dX12_barriers_103 rfl (lv_at hl 1 rfl) ?_
        refine lv_if_ne (tgt := 111) hx hb dX12_barriers_104 (by decide) (fun c6950 => ?_) (fun c6950 => ?_)
        · have g6951 : Rg 1 2 x0 := rg_ne_lo (k := 0) g31_l1 (by decide) c6950 (by decide)
          refine lv_iload_n hx hb dX12_barriers_111 rfl (lv_at hl 1 rfl) ?_
          refine lv_iconst (v := 1) hx hb dX12_barriers_112 (by decide) ?_
          refine lv_icmp_ne (tgt := 121) hx hb dX12_barriers_113 (by decide) (fun c6952 => ?_) (fun c6952 => ?_)
          · have g6953 : Rg 2 2 x0 := rg_ne_lo (k := 1) g6951 (by decide) c6952 (by decide)
            refine lv_iload hx hb dX12_barriers_121 (lv_at hl 5 rfl) ?_
            subst hAe
            exact W.iret (v := y31_l5) hx hb hr (fun t ht hW => ⟨⟨_, v, rfl, ⟨hV, (rg_any y31_l5), trivial⟩, by rw [ht]; exact hP, hD⟩, hS.F ht⟩) hS.2.2 dX12_barriers_123
          · have g6954 : Rg 1 1 x0 := wk_eql g6951 (by decide : Rg 1 1 (1 : Int32)) c6952 (by decide)
            refine lv_iload hx hb dX12_barriers_116 (lv_at hl 4 rfl) ?_
            refine lv_goto (tgt := 123) hx hb dX12_barriers_118 (by decide) ?_
            subst hAe
            exact W.iret (v := y31_l4) hx hb hr (fun t ht hW => ⟨⟨_, v, rfl, ⟨hV, (rg_any y31_l4), trivial⟩, by rw [ht]; exact hP, hD⟩, hS.F ht⟩) hS.2.2 dX12_barriers_123
        · have g6955 : Rg 0 0 x0 := wk_eql g31_l1 (by decide : Rg 0 0 (0 : Int32)) c6950 (by decide)
          refine lv_iload_n hx hb dX12_barriers_107 rfl (lv_at hl 3 rfl) ?_
          refine lv_goto (tgt := 123) hx hb dX12_barriers_108 (by decide) ?_
          subst hAe
          exact W.iret (v := y31_l3) hx hb hr (fun t ht hW => ⟨⟨_, v, rfl, ⟨hV, (rg_any y31_l3), trivial⟩, by rw [ht]; exact hP, hD⟩, hS.F ht⟩) hS.2.2 dX12_barriers_123
      · have g6956 : Rg 0 4095 y31_l6 := rg_lel g31_l6 hr6947.1 (rg_nlt c6948) (by decide)
        refine lv_aload_n hx hb dX12_barriers_40 rfl (lv_at hl 0 rfl) ?_
        refine lv_iload hx hb dX12_barriers_41 (lv_at hl 6 rfl) ?_
        refine wk_sv 0 (As := [.int y31_l6]) (rest := []) ⟨hx, hb, hml, hown, hts⟩ (w_X12_oddOf l D cI cS b L v hL hV y31_l6 g6956) hKK hP (ci := 12) rfl rfl (cwV 1 hts gX12_barriers_X12_oddOf rfl rfl rfl (by decide +kernel) ⟨Nat.le_of_ble_eq_true rfl, Nat.le_of_ble_eq_true rfl⟩) rfl hl.1 rfl (Nat.le_of_ble_eq_true rfl) dX12_barriers_43 ⟨Nat.le_of_ble_eq_true rfl, Nat.le_of_ble_eq_true rfl⟩ (fun r6957 hr6957 => ?_)
        refine lv_iload hx hb dX12_barriers_46 (lv_at hl 6 rfl) ?_
        refine lz_ss (As := [.int y31_l6]) (rest := [.int r6957]) ⟨hx, hb, hml, hown, hts⟩ (w_X12_bits l D cI cS y31_l6) hKK (hP.sub (ws' := []) [] rfl) (va_cwS 1 hts gX12_barriers_X12_bits rfl rfl rfl (by decide +kernel) ⟨Nat.le_of_ble_eq_true rfl, Nat.le_of_ble_eq_true rfl⟩) rfl hl.1 rfl (Nat.le_of_ble_eq_true rfl) dX12_barriers_48 ⟨Nat.le_of_ble_eq_true rfl, Nat.le_of_ble_eq_true rfl⟩ (fun r6958 hr6958 => ?_)
        refine lv_isub hx hb dX12_barriers_51 ?_
        refine wk_topP (P := fun r => r = r6957 - r6958) rfl (fun r6959 qr6959 => ?_)
        refine lv_iload_n hx hb dX12_barriers_52 rfl (lv_at hl 2 rfl) ?_
        refine lv_icmp_eq (tgt := 59) hx hb dX12_barriers_53 (by decide) (fun c6960 => ?_) (fun c6960 => ?_)
        · refine wk_iincA (lv' := fun r => [(3, .int r), (0, .ref (b 0)), (1, .int x0), (2, .int y31_l2), (4, .int y31_l4), (5, .int y31_l5), (6, .int y31_l6)]) hx hb dX12_barriers_59 hl (k := 3) rfl (by decide) (fun _ => rfl) (fun r6961 ls hl => ?_)
          refine lv_iload hx hb dX12_barriers_62 (lv_at hl 4 rfl) ?_
          refine lv_iconst (v := (-1)) hx hb dX12_barriers_64 (by decide) ?_
          refine lv_icmp_eq (tgt := 81) hx hb dX12_barriers_65 (by decide) (fun c6962 => ?_) (fun c6962 => ?_)
          · have g6963 : Rg (-1) (-1) y31_l4 := wk_eql g31_l4 (by decide : Rg (-1) (-1) ((-1) : Int32)) c6962 (by decide)
            refine lv_iload hx hb dX12_barriers_81 (lv_at hl 6 rfl) ?_
            refine lv_goto (tgt := 88) hx hb dX12_barriers_83 (by decide) ?_
            refine lv_istore (lv' := [(4, .int y31_l6), (3, .int r6961), (0, .ref (b 0)), (1, .int x0), (2, .int y31_l2), (5, .int y31_l5), (6, .int y31_l6)]) hx hb dX12_barriers_88 hl (by decide) rfl (fun ls hl => ?_)
            refine lv_iload hx hb dX12_barriers_90 (lv_at hl 5 rfl) ?_
            refine lv_iload hx hb dX12_barriers_92 (lv_at hl 6 rfl) ?_
            refine wk_iandl hx hb dX12_barriers_94 g31_l5 (by decide) (fun r6964 hr6964 qr6964 => ?_)
            refine lv_istore (lv' := [(5, .int r6964), (4, .int y31_l6), (3, .int r6961), (0, .ref (b 0)), (1, .int x0), (2, .int y31_l2), (6, .int y31_l6)]) hx hb dX12_barriers_95 hl (by decide) rfl (fun ls hl => ?_)
            refine wk_iinc (lv' := fun r => [(6, .int r), (5, .int r6964), (4, .int y31_l6), (3, .int r6961), (0, .ref (b 0)), (1, .int x0), (2, .int y31_l2)]) (e1 := 1) (f := 4096) hx hb dX12_barriers_97 hl (k := 6) rfl (by decide) g6956 (by decide) (fun _ => rfl) (fun r6965 ls hr6965 er6965 hl => ?_)
            refine lv_goto (tgt := 31) hx hb dX12_barriers_100 (by decide) ?_
            exact ih31 y31_l2 r6961 y31_l6 r6964 r6965 v _ _ ls g31_l1 (show Rg (-1) 4095 y31_l6 from rg_w g6956 (by decide) (by decide)) hr6964 (show Rg 0 4096 r6965 from rg_w hr6965 (by decide) (by decide)) hV hP hD hS (lv_sub (l' := [(0, .ref (b 0)), (1, .int x0), (2, .int y31_l2), (3, .int r6961), (4, .int y31_l6), (5, .int r6964), (6, .int r6965)]) hl [4, 5, 6, 3, 2, 1, 0] rfl) (me_up hm31 er6965 (by decide))
          · have g6966 : Rg 0 4095 y31_l4 := rg_ne_lo (k := (-1)) g31_l4 (by decide) c6962 (by decide)
            refine lv_iload hx hb dX12_barriers_68 (lv_at hl 6 rfl) ?_
            refine lz_ss (As := [.int y31_l6]) (rest := []) ⟨hx, hb, hml, hown, hts⟩ (w_X12_bits l D cI cS y31_l6) hKK (hP.sub (ws' := []) [] rfl) (va_cwS 1 hts gX12_barriers_X12_bits rfl rfl rfl (by decide +kernel) ⟨Nat.le_of_ble_eq_true rfl, Nat.le_of_ble_eq_true rfl⟩) rfl hl.1 rfl (Nat.le_of_ble_eq_true rfl) dX12_barriers_70 ⟨Nat.le_of_ble_eq_true rfl, Nat.le_of_ble_eq_true rfl⟩ (fun r6967 hr6967 => ?_)
            refine lv_iload hx hb dX12_barriers_73 (lv_at hl 4 rfl) ?_
            refine lz_ss (As := [.int y31_l4]) (rest := [.int r6967]) ⟨hx, hb, hml, hown, hts⟩ (w_X12_bits l D cI cS y31_l4) hKK (hP.sub (ws' := []) [] rfl) (va_cwS 1 hts gX12_barriers_X12_bits rfl rfl rfl (by decide +kernel) ⟨Nat.le_of_ble_eq_true rfl, Nat.le_of_ble_eq_true rfl⟩) rfl hl.1 rfl (Nat.le_of_ble_eq_true rfl) dX12_barriers_75 ⟨Nat.le_of_ble_eq_true rfl, Nat.le_of_ble_eq_true rfl⟩ (fun r6968 hr6968 => ?_)
            refine lv_icmp_le (tgt := 86) hx hb dX12_barriers_78 (by decide) (fun c6969 => ?_) (fun c6969 => ?_)
            · refine lv_iload hx hb dX12_barriers_86 (lv_at hl 4 rfl) ?_
              refine lv_istore (lv' := [(4, .int y31_l4), (3, .int r6961), (0, .ref (b 0)), (1, .int x0), (2, .int y31_l2), (5, .int y31_l5), (6, .int y31_l6)]) hx hb dX12_barriers_88 hl (by decide) rfl (fun ls hl => ?_)
              refine lv_iload hx hb dX12_barriers_90 (lv_at hl 5 rfl) ?_
              refine lv_iload hx hb dX12_barriers_92 (lv_at hl 6 rfl) ?_
              refine wk_iandl hx hb dX12_barriers_94 g31_l5 (by decide) (fun r6970 hr6970 qr6970 => ?_)
              refine lv_istore (lv' := [(5, .int r6970), (4, .int y31_l4), (3, .int r6961), (0, .ref (b 0)), (1, .int x0), (2, .int y31_l2), (6, .int y31_l6)]) hx hb dX12_barriers_95 hl (by decide) rfl (fun ls hl => ?_)
              refine wk_iinc (lv' := fun r => [(6, .int r), (5, .int r6970), (4, .int y31_l4), (3, .int r6961), (0, .ref (b 0)), (1, .int x0), (2, .int y31_l2)]) (e1 := 1) (f := 4096) hx hb dX12_barriers_97 hl (k := 6) rfl (by decide) g6956 (by decide) (fun _ => rfl) (fun r6971 ls hr6971 er6971 hl => ?_)
              refine lv_goto (tgt := 31) hx hb dX12_barriers_100 (by decide) ?_
              exact ih31 y31_l2 r6961 y31_l4 r6970 r6971 v _ _ ls g31_l1 (show Rg (-1) 4095 y31_l4 from rg_w g6966 (by decide) (by decide)) hr6970 (show Rg 0 4096 r6971 from rg_w hr6971 (by decide) (by decide)) hV hP hD hS (lv_sub (l' := [(0, .ref (b 0)), (1, .int x0), (2, .int y31_l2), (3, .int r6961), (4, .int y31_l4), (5, .int r6970), (6, .int r6971)]) hl [4, 5, 6, 3, 2, 1, 0] rfl) (me_up hm31 er6971 (by decide))
            · refine lv_iload hx hb dX12_barriers_81 (lv_at hl 6 rfl) ?_
              refine lv_goto (tgt := 88) hx hb dX12_barriers_83 (by decide) ?_
              refine lv_istore (lv' := [(4, .int y31_l6), (3, .int r6961), (0, .ref (b 0)), (1, .int x0), (2, .int y31_l2), (5, .int y31_l5), (6, .int y31_l6)]) hx hb dX12_barriers_88 hl (by decide) rfl (fun ls hl => ?_)
              refine lv_iload hx hb dX12_barriers_90 (lv_at hl 5 rfl) ?_
              refine lv_iload hx hb dX12_barriers_92 (lv_at hl 6 rfl) ?_
              refine wk_iandl hx hb dX12_barriers_94 g31_l5 (by decide) (fun r6972 hr6972 qr6972 => ?_)
              refine lv_istore (lv' := [(5, .int r6972), (4, .int y31_l6), (3, .int r6961), (0, .ref (b 0)), (1, .int x0), (2, .int y31_l2), (6, .int y31_l6)]) hx hb dX12_barriers_95 hl (by decide) rfl (fun ls hl => ?_)
              refine wk_iinc (lv' := fun r => [(6, .int r), (5, .int r6972), (4, .int y31_l6), (3, .int r6961), (0, .ref (b 0)), (1, .int x0), (2, .int y31_l2)]) (e1 := 1) (f := 4096) hx hb dX12_barriers_97 hl (k := 6) rfl (by decide) g6956 (by decide) (fun _ => rfl) (fun r6973 ls hr6973 er6973 hl => ?_)
              refine lv_goto (tgt := 31) hx hb dX12_barriers_100 (by decide) ?_
              exact ih31 y31_l2 r6961 y31_l6 r6972 r6973 v _ _ ls g31_l1 (show Rg (-1) 4095 y31_l6 from rg_w g6956 (by decide) (by decide)) hr6972 (show Rg 0 4096 r6973 from rg_w hr6973 (by decide) (by decide)) hV hP hD hS (lv_sub (l' := [(0, .ref (b 0)), (1, .int x0), (2, .int y31_l2), (3, .int r6961), (4, .int y31_l6), (5, .int r6972), (6, .int r6973)]) hl [4, 5, 6, 3, 2, 1, 0] rfl) (me_up hm31 er6973 (by decide))
        · refine lv_goto (tgt := 97) hx hb dX12_barriers_56 (by decide) ?_
          refine wk_iinc (lv' := fun r => [(6, .int r), (0, .ref (b 0)), (1, .int x0), (2, .int y31_l2), (3, .int y31_l3), (4, .int y31_l4), (5, .int y31_l5)]) (e1 := 1) (f := 4096) hx hb dX12_barriers_97 hl (k := 6) rfl (by decide) g6956 (by decide) (fun _ => rfl) (fun r6974 ls hr6974 er6974 hl => ?_)
          refine lv_goto (tgt := 31) hx hb dX12_barriers_100 (by decide) ?_
          exact ih31 y31_l2 y31_l3 y31_l4 y31_l5 r6974 v _ _ ls g31_l1 g31_l4 g31_l5 (show Rg 0 4096 r6974 from rg_w hr6974 (by decide) (by decide)) hV hP hD hS (lv_sub (l' := [(0, .ref (b 0)), (1, .int x0), (2, .int y31_l2), (3, .int y31_l3), (4, .int y31_l4), (5, .int y31_l5), (6, .int r6974)]) hl [1, 2, 3, 4, 5, 6, 0] rfl) (me_up hm31 er6974 (by decide))
  refine lv_iload_n hx hb dX12_barriers_0 rfl (lv_at hl 1 rfl) ?_
  refine lv_iconst (v := 0) hx hb dX12_barriers_1 (by decide) ?_
  refine lv_iconst (v := 2) hx hb dX12_barriers_2 (by decide) ?_
  refine lz_ss (As := [.int x0, .int 0, .int 2]) (rest := []) ⟨hx, hb, hml, hown, hts⟩ (w_X12_in l D cI cS x0 (0 : Int32) (2 : Int32)) hKK (hP.sub (ws' := []) [] rfl) (va_cwS 3 hts gX12_barriers_X12_in rfl rfl rfl (by decide +kernel) ⟨Nat.le_of_ble_eq_true rfl, Nat.le_of_ble_eq_true rfl⟩) rfl hl.1 rfl (Nat.le_of_ble_eq_true rfl) dX12_barriers_3 ⟨Nat.le_of_ble_eq_true rfl, Nat.le_of_ble_eq_true rfl⟩ (fun r6975 hr6975 => ?_)
  refine lv_if_ne (tgt := 12) hx hb dX12_barriers_6 (by decide) (fun c6976 => ?_) (fun c6976 => ?_)
  · have g6977 : Rg 0 2 x0 := wk_in3 (rg_any x0) (by decide : Rg 0 0 (0 : Int32)) (by decide : Rg 2 2 (2 : Int32)) (hr6975.2 c6976) (by decide)
    have g6978 : Rg 1 1 r6975 := rg_ne_lo (k := 0) hr6975.1 (by decide) c6976 (by decide)
    refine lv_aload_n hx hb dX12_barriers_12 rfl (lv_at hl 0 rfl) ?_
    refine wk_qi (wM cI b L) v (As := []) (rest := []) ⟨hx, hb, hml, hown, hts⟩ (w_X12_lack l D cI cS _ b L v hL hV) hKK hP hD hS hA 0 (ci := 12) rfl rfl (cwV 0 hts gX12_barriers_X12_lack rfl rfl rfl (by decide +kernel) ⟨Nat.le_of_ble_eq_true rfl, Nat.le_of_ble_eq_true rfl⟩) rfl hl.1 rfl (Nat.le_of_ble_eq_true rfl) dX12_barriers_13 ⟨Nat.le_of_ble_eq_true rfl, Nat.le_of_ble_eq_true rfl⟩ (fun r6979 v H locs hr6979 hP hD hS => ?_)
    have hV := hr6979.1
    refine lv_istore_n (lv' := [(2, .int r6979), (0, .ref (b 0)), (1, .int x0)]) hx hb dX12_barriers_16 rfl hl (by decide) rfl (fun ls hl => ?_)
    refine lv_iconst (v := 0) hx hb dX12_barriers_17 (by decide) ?_
    refine lv_istore_n (lv' := [(3, .int 0), (2, .int r6979), (0, .ref (b 0)), (1, .int x0)]) hx hb dX12_barriers_18 rfl hl (by decide) rfl (fun ls hl => ?_)
    refine lv_iconst (v := (-1)) hx hb dX12_barriers_19 (by decide) ?_
    refine lv_istore (lv' := [(4, .int (-1)), (3, .int 0), (2, .int r6979), (0, .ref (b 0)), (1, .int x0)]) hx hb dX12_barriers_20 hl (by decide) rfl (fun ls hl => ?_)
    refine lv_aload_n hx hb dX12_barriers_22 rfl (lv_at hl 3 rfl) ?_
    refine wk_sv 0 (As := []) (rest := []) ⟨hx, hb, hml, hown, hts⟩ (w_X12_all l D cI cS b L v hL hV) hKK hP (ci := 12) rfl rfl (cwV 0 hts gX12_barriers_X12_all rfl rfl rfl (by decide +kernel) ⟨Nat.le_of_ble_eq_true rfl, Nat.le_of_ble_eq_true rfl⟩) rfl hl.1 rfl (Nat.le_of_ble_eq_true rfl) dX12_barriers_23 ⟨Nat.le_of_ble_eq_true rfl, Nat.le_of_ble_eq_true rfl⟩ (fun r6980 hr6980 => ?_)
    refine lv_istore (lv' := [(5, .int r6980), (4, .int (-1)), (3, .int 0), (2, .int r6979), (0, .ref (b 0)), (1, .int x0)]) hx hb dX12_barriers_26 hl (by decide) rfl (fun ls hl => ?_)
    refine lv_iconst (v := 0) hx hb dX12_barriers_28 (by decide) ?_
    refine lv_istore (lv' := [(6, .int 0), (5, .int r6980), (4, .int (-1)), (3, .int 0), (2, .int r6979), (0, .ref (b 0)), (1, .int x0)]) hx hb dX12_barriers_29 hl (by decide) rfl (fun ls hl => ?_)
    exact lp31 4097 r6979 (0 : Int32) (((-1) : Int32)) r6980 (0 : Int32) v _ _ ls g6977 (by decide : Rg (-1) 4095 ((-1) : Int32)) hr6980.1 (by decide : Rg 0 4096 (0 : Int32)) hV hP hD hS (lv_sub (l' := [(0, .ref (b 0)), (1, .int x0), (2, .int r6979), (3, .int 0), (4, .int (-1)), (5, .int r6980), (6, .int 0)]) hl [5, 6, 4, 3, 2, 1, 0] rfl) (me_i (by decide : Rg 0 4096 (0 : Int32)) (by decide))
  · have g6981 : Rg 0 0 r6975 := wk_eql hr6975.1 (by decide : Rg 0 0 (0 : Int32)) c6976 (by decide)
    refine lv_bipush (v := (-2)) hx hb dX12_barriers_9 (by decide) ?_
    subst hAe
    exact W.iret (v := (-2)) hx hb hr (fun t ht hW => ⟨⟨_, v, rfl, ⟨hV, (by decide : Rg (-2147483648) 2147483647 ((-2) : Int32)), trivial⟩, by rw [ht]; exact hP, hD⟩, hS.F ht⟩) hS.2.2 dX12_barriers_11
set_option maxRecDepth 20000 in
theorem ggX12_isCritical_X12_has : GoodIn wsX12_isCritical wsX12_has := goodIn_r _ [9] (by decide +kernel) (by decide +kernel)
set_option maxRecDepth 20000 in
theorem gX12_isCritical_X12_has : GoodIn wsX12_isCritical (va_wsS RX12 59 yX12_has wsX12_has) := goodIn_app (goodIn_of _ (by decide +kernel)) ggX12_isCritical_X12_has
theorem dX12_isCritical_10 : decode cX12_isCritical 10 = .ok (.iconst 1, 1) := by decide +kernel
theorem dX12_isCritical_11 : decode cX12_isCritical 11 = .ok (.goto 4, 3) := by decide +kernel
theorem dX12_isCritical_26 : decode cX12_isCritical 26 = .ok (.iload_n 2, 1) := by decide +kernel
theorem dX12_isCritical_27 : decode cX12_isCritical 27 = .ok (.ifCond .eq 38, 3) := by decide +kernel
theorem dX12_isCritical_30 : decode cX12_isCritical 30 = .ok (.iload_n 1, 1) := by decide +kernel
theorem dX12_isCritical_31 : decode cX12_isCritical 31 = .ok (.iload_n 3, 1) := by decide +kernel
theorem dX12_isCritical_32 : decode cX12_isCritical 32 = .ok (.invokestatic 59, 3) := by decide +kernel
theorem dX12_isCritical_35 : decode cX12_isCritical 35 = .ok (.ifCond .eq 26, 3) := by decide +kernel
theorem dX12_isCritical_38 : decode cX12_isCritical 38 = .ok (.iconst 2, 1) := by decide +kernel
theorem dX12_isCritical_39 : decode cX12_isCritical 39 = .ok (.aload_n 0, 1) := by decide +kernel
theorem dX12_isCritical_40 : decode cX12_isCritical 40 = .ok (.getfield 17, 3) := by decide +kernel
theorem dX12_isCritical_43 : decode cX12_isCritical 43 = .ok (.iload_n 1, 1) := by decide +kernel
theorem dX12_isCritical_44 : decode cX12_isCritical 44 = .ok (.iconst 1, 1) := by decide +kernel
theorem dX12_isCritical_45 : decode cX12_isCritical 45 = .ok (.iload_n 3, 1) := by decide +kernel
theorem dX12_isCritical_46 : decode cX12_isCritical 46 = .ok (.ishl, 1) := by decide +kernel
theorem dX12_isCritical_47 : decode cX12_isCritical 47 = .ok (.iconst (-1), 1) := by decide +kernel
theorem dX12_isCritical_48 : decode cX12_isCritical 48 = .ok (.ixor, 1) := by decide +kernel
theorem dX12_isCritical_49 : decode cX12_isCritical 49 = .ok (.iand, 1) := by decide +kernel
theorem dX12_isCritical_50 : decode cX12_isCritical 50 = .ok (.iaload, 1) := by decide +kernel
theorem dX12_isCritical_51 : decode cX12_isCritical 51 = .ok (.imul, 1) := by decide +kernel
theorem dX12_isCritical_52 : decode cX12_isCritical 52 = .ok (.iload_n 1, 1) := by decide +kernel
theorem dX12_isCritical_53 : decode cX12_isCritical 53 = .ok (.invokestatic 85, 3) := by decide +kernel
theorem dX12_isCritical_56 : decode cX12_isCritical 56 = .ok (.iconst 1, 1) := by decide +kernel
theorem dX12_isCritical_57 : decode cX12_isCritical 57 = .ok (.isub, 1) := by decide +kernel
theorem dX12_isCritical_58 : decode cX12_isCritical 58 = .ok (.if_icmp .ne 7, 3) := by decide +kernel
theorem dX12_isCritical_61 : decode cX12_isCritical 61 = .ok (.iconst 1, 1) := by decide +kernel
theorem dX12_isCritical_62 : decode cX12_isCritical 62 = .ok (.goto 4, 3) := by decide +kernel
theorem dX12_isCritical_65 : decode cX12_isCritical 65 = .ok (.iconst 0, 1) := by decide +kernel
theorem dX12_isCritical_66 : decode cX12_isCritical 66 = .ok (.istore_n 2, 1) := by decide +kernel
theorem dX12_isCritical_67 : decode cX12_isCritical 67 = .ok (.iinc 3 1, 3) := by decide +kernel
theorem dX12_isCritical_70 : decode cX12_isCritical 70 = .ok (.goto (-52), 3) := by decide +kernel
set_option maxHeartbeats 4000000 in
set_option maxRecDepth 100000 in
theorem w_X12_isCritical (l : Launch) (D : va_G) (cI cS : ClassId) (b : Nat → Nat) (L v : SU) (hL : TyL L) (hV : TyV v) (x0 : Int32) (px0 : Rg 0 4095 x0) : Met l yX12_isCritical wsX12_isCritical ({ frames := 1, cells := 0, slots := 0, locals := 40 }) (PS D cI cS (wM cI b L v) [.ref (b 0), .int x0]) (vp_Si (fun r => Rg 0 1 r ∧ True)) 0 0 (fun _ => False) := by
  refine Met.ofW (cc := cX12_isCritical) (maxL := 4) (ret := (some .boolean)) (by decide) rfl ?_
  intro p e s m args below meth c s₁ B hml hv
  obtain ⟨rfl, hP, hKK⟩ := hv
  have hx := B.exec
  have hb := B.bytes
  have hr := B.returns
  have hts := atoms_spec (ws := wsX12_isCritical) B.pre
  have hown : s.vm.findClass RX12 = some m.cls := findClass_of_methodNamed B.named
  have hlocks := B.notSynchronized
  have hK := hKK.1
  have hin12 : ∀ w ∈ wsX120, w ∈ wsX12_isCritical := by decide +kernel
  have hl := lv_entry ([.ref (b 0), .int x0]) (n := 4) (Nat.le_of_ble_eq_true rfl)
  rw [lg_entry_eq]
  generalize (lg_sl ([.ref (b 0), .int x0]) ++ List.replicate (4 - (lg_sl ([.ref (b 0), .int x0])).length) Slot.unset).toArray = ls at hl ⊢
  have hl : lv_has ls 4 [(0, .ref (b 0)), (1, .int x0)] := hl
  have lp18 : ∀ (n18 : Nat) (y18_l2 y18_l3 : Int32) (ls : Array Slot), Rg 0 4095 x0 → Rg 0 1 y18_l2 → Rg 0 12 y18_l3 → lv_has ls 4 [(0, .ref (b 0)), (1, .int x0), (2, .int y18_l2), (3, .int y18_l3)] → 12 - y18_l3.toInt < (n18 : Int) → W p l e (headSpec wsX12_isCritical ({ frames := 1, cells := 0, slots := 0, locals := 40 })).room s m ([.ref (b 0), .int x0]).toArray below meth c s.heap [] 0 0 (MQ below (vp_Si (fun r => Rg 0 1 r ∧ True)) ([.ref (b 0), .int x0]).toArray s 0 0 (fun _ => False)) (F0 m 18 ls []) := by
    intro n18
    induction n18 with
    | zero =>
      intro y18_l2 y18_l3 ls g18_l1 g18_l2 g18_l3 hl hm18
      exact absurd rfl (me_z g18_l3 hm18)
    | succ n18 ih18 =>
      intro y18_l2 y18_l3 ls g18_l1 g18_l2 g18_l3 hl hm18
      refine lv_iload_n hx hb dX12_isCritical_18 rfl (lv_at hl 3 rfl) ?_
      refine lv_aload_n hx hb dX12_isCritical_19 rfl (lv_at hl 0 rfl) ?_
      refine va_get (D := D) (ci := 12) (v := .int (L 0 0)) (C := RX12) (T := TX12) (N := 24) hx hb hts hin12 hown hK hP 0 rfl rfl 0 (by decide) (hts (.fieldLink RX12 63 "MissedPointsModel" "many" "I") (by decide +kernel)) (fun _ h9 => h9) rfl dX12_isCritical_20 ?_
      refine lv_icmp_ge (tgt := 73) hx hb dX12_isCritical_23 (by decide) (fun c7204 => ?_) (fun c7204 => ?_)
      · refine lv_iload_n hx hb dX12_isCritical_73 rfl (lv_at hl 2 rfl) ?_
        exact W.zret (v := y18_l2) hx hb hr (wk_nb g18_l2) (fun t ht hW => ⟨_, rfl, ⟨g18_l2, trivial⟩, ht⟩) (fun q hq => absurd hq List.not_mem_nil) dX12_isCritical_74
      · have g7205 : Rg 1 12 (L 0 0) := rg_ltr g18_l3 hL.1 (rg_nle c7204) (by decide)
        have g7206 : Rg 0 11 y18_l3 := rg_ltl g18_l3 hL.1 (rg_nle c7204) (by decide)
        refine lv_iload_n hx hb dX12_isCritical_26 rfl (lv_at hl 2 rfl) ?_
        refine lv_if_eq (tgt := 65) hx hb dX12_isCritical_27 (by decide) (fun c7207 => ?_) (fun c7207 => ?_)
        · have g7208 : Rg 0 0 y18_l2 := wk_eql g18_l2 (by decide : Rg 0 0 (0 : Int32)) c7207 (by decide)
          refine lv_iconst (v := 0) hx hb dX12_isCritical_65 (by decide) ?_
          refine lv_istore_n (lv' := [(2, .int 0), (0, .ref (b 0)), (1, .int x0), (3, .int y18_l3)]) hx hb dX12_isCritical_66 rfl hl (by decide) rfl (fun ls hl => ?_)
          refine wk_iinc (lv' := fun r => [(3, .int r), (2, .int 0), (0, .ref (b 0)), (1, .int x0)]) (e1 := 1) (f := 12) hx hb dX12_isCritical_67 hl (k := 3) rfl (by decide) g7206 (by decide) (fun _ => rfl) (fun r7209 ls hr7209 er7209 hl => ?_)
          refine lv_goto (tgt := 18) hx hb dX12_isCritical_70 (by decide) ?_
          exact ih18 (0 : Int32) r7209 ls g18_l1 (by decide : Rg 0 1 (0 : Int32)) (show Rg 0 12 r7209 from rg_w hr7209 (by decide) (by decide)) (lv_sub (l' := [(0, .ref (b 0)), (1, .int x0), (2, .int 0), (3, .int r7209)]) hl [2, 3, 1, 0] rfl) (me_up hm18 er7209 (by decide))
        · have g7210 : Rg 1 1 y18_l2 := rg_ne_lo (k := 0) g18_l2 (by decide) c7207 (by decide)
          refine lv_iload_n hx hb dX12_isCritical_30 rfl (lv_at hl 1 rfl) ?_
          refine lv_iload_n hx hb dX12_isCritical_31 rfl (lv_at hl 3 rfl) ?_
          refine lz_ss (As := [.int x0, .int y18_l3]) (rest := []) ⟨hx, hb, hml, hown, hts⟩ (w_X12_has l D cI cS x0 y18_l3) hKK (hP.sub (ws' := []) [] rfl) (va_cwS 2 hts gX12_isCritical_X12_has rfl rfl rfl (by decide +kernel) ⟨Nat.le_of_ble_eq_true rfl, Nat.le_of_ble_eq_true rfl⟩) rfl hl.1 rfl (Nat.le_of_ble_eq_true rfl) dX12_isCritical_32 ⟨Nat.le_of_ble_eq_true rfl, Nat.le_of_ble_eq_true rfl⟩ (fun r7211 hr7211 => ?_)
          refine lv_if_eq (tgt := 61) hx hb dX12_isCritical_35 (by decide) (fun c7212 => ?_) (fun c7212 => ?_)
          · have g7213 : Rg 0 0 r7211 := wk_eql hr7211.1 (by decide : Rg 0 0 (0 : Int32)) c7212 (by decide)
            refine lv_iconst (v := 1) hx hb dX12_isCritical_61 (by decide) ?_
            refine lv_goto (tgt := 66) hx hb dX12_isCritical_62 (by decide) ?_
            refine lv_istore_n (lv' := [(2, .int 1), (0, .ref (b 0)), (1, .int x0), (3, .int y18_l3)]) hx hb dX12_isCritical_66 rfl hl (by decide) rfl (fun ls hl => ?_)
            refine wk_iinc (lv' := fun r => [(3, .int r), (2, .int 1), (0, .ref (b 0)), (1, .int x0)]) (e1 := 1) (f := 12) hx hb dX12_isCritical_67 hl (k := 3) rfl (by decide) g7206 (by decide) (fun _ => rfl) (fun r7214 ls hr7214 er7214 hl => ?_)
            refine lv_goto (tgt := 18) hx hb dX12_isCritical_70 (by decide) ?_
            exact ih18 (1 : Int32) r7214 ls g18_l1 (by decide : Rg 0 1 (1 : Int32)) (show Rg 0 12 r7214 from rg_w hr7214 (by decide) (by decide)) (lv_sub (l' := [(0, .ref (b 0)), (1, .int x0), (2, .int 1), (3, .int r7214)]) hl [2, 3, 1, 0] rfl) (me_up hm18 er7214 (by decide))
          · have g7215 : Rg 1 1 r7211 := rg_ne_lo (k := 0) hr7211.1 (by decide) c7212 (by decide)
            refine lv_iconst (v := 2) hx hb dX12_isCritical_38 (by decide) ?_
            refine lv_aload_n hx hb dX12_isCritical_39 rfl (lv_at hl 0 rfl) ?_
            refine va_get (D := D) (ci := 12) (v := .ref (b 2)) (C := RX12) (T := TX12) (N := 24) hx hb hts hin12 hown hK hP 0 rfl rfl 3 (by decide) (hts (.fieldLink RX12 17 "MissedPointsModel" "pairs" "[I") (by decide +kernel)) (fun _ h9 => h9) rfl dX12_isCritical_40 ?_
            refine lv_iload_n hx hb dX12_isCritical_43 rfl (lv_at hl 1 rfl) ?_
            refine lv_iconst (v := 1) hx hb dX12_isCritical_44 (by decide) ?_
            refine lv_iload_n hx hb dX12_isCritical_45 rfl (lv_at hl 3 rfl) ?_
            refine wk_ishl1 (f := 2048) hx hb dX12_isCritical_46 g7206 (by decide) (fun r7216 hr7216 qr7216 => ?_)
            refine lv_iconst (v := (-1)) hx hb dX12_isCritical_47 (by decide) ?_
            refine lv_ixor hx hb dX12_isCritical_48 ?_
            refine wk_topP (P := fun r => r = r7216 ^^^ ((-1) : Int32)) rfl (fun r7217 qr7217 => ?_)
            refine wk_iandl hx hb dX12_isCritical_49 g18_l1 (by decide) (fun r7218 hr7218 qr7218 => ?_)
            refine wk_aldA hx hb hK hP 2 0 rfl rfl (rg_in hr7218 (by decide) (by decide)) dX12_isCritical_50 (fun r7219 => ?_)
            refine lv_imul hx hb dX12_isCritical_51 ?_
            refine wk_topP (P := fun r => r = (2 : Int32) * r7219) rfl (fun r7220 qr7220 => ?_)
            refine lv_iload_n hx hb dX12_isCritical_52 rfl (lv_at hl 1 rfl) ?_
            refine lz_ss (As := [.int x0]) (rest := [.int r7220]) ⟨hx, hb, hml, hown, hts⟩ (w_X12_bits l D cI cS x0) hKK (hP.sub (ws' := []) [] rfl) (va_cwS 1 hts gX12_isCritical_X12_bits rfl rfl rfl (by decide +kernel) ⟨Nat.le_of_ble_eq_true rfl, Nat.le_of_ble_eq_true rfl⟩) rfl hl.1 rfl (Nat.le_of_ble_eq_true rfl) dX12_isCritical_53 ⟨Nat.le_of_ble_eq_true rfl, Nat.le_of_ble_eq_true rfl⟩ (fun r7221 hr7221 => ?_)
            refine lv_iconst (v := 1) hx hb dX12_isCritical_56 (by decide) ?_
            refine lv_isub hx hb dX12_isCritical_57 ?_
            refine wk_topP (P := fun r => r = r7221 - (1 : Int32)) rfl (fun r7222 qr7222 => ?_)
            refine lv_icmp_ne (tgt := 65) hx hb dX12_isCritical_58 (by decide) (fun c7223 => ?_) (fun c7223 => ?_)
            · refine lv_iconst (v := 0) hx hb dX12_isCritical_65 (by decide) ?_
              refine lv_istore_n (lv' := [(2, .int 0), (0, .ref (b 0)), (1, .int x0), (3, .int y18_l3)]) hx hb dX12_isCritical_66 rfl hl (by decide) rfl (fun ls hl => ?_)
              refine wk_iinc (lv' := fun r => [(3, .int r), (2, .int 0), (0, .ref (b 0)), (1, .int x0)]) (e1 := 1) (f := 12) hx hb dX12_isCritical_67 hl (k := 3) rfl (by decide) g7206 (by decide) (fun _ => rfl) (fun r7224 ls hr7224 er7224 hl => ?_)
              refine lv_goto (tgt := 18) hx hb dX12_isCritical_70 (by decide) ?_
              exact ih18 (0 : Int32) r7224 ls g18_l1 (by decide : Rg 0 1 (0 : Int32)) (show Rg 0 12 r7224 from rg_w hr7224 (by decide) (by decide)) (lv_sub (l' := [(0, .ref (b 0)), (1, .int x0), (2, .int 0), (3, .int r7224)]) hl [2, 3, 1, 0] rfl) (me_up hm18 er7224 (by decide))
            · refine lv_iconst (v := 1) hx hb dX12_isCritical_61 (by decide) ?_
              refine lv_goto (tgt := 66) hx hb dX12_isCritical_62 (by decide) ?_
              refine lv_istore_n (lv' := [(2, .int 1), (0, .ref (b 0)), (1, .int x0), (3, .int y18_l3)]) hx hb dX12_isCritical_66 rfl hl (by decide) rfl (fun ls hl => ?_)
              refine wk_iinc (lv' := fun r => [(3, .int r), (2, .int 1), (0, .ref (b 0)), (1, .int x0)]) (e1 := 1) (f := 12) hx hb dX12_isCritical_67 hl (k := 3) rfl (by decide) g7206 (by decide) (fun _ => rfl) (fun r7225 ls hr7225 er7225 hl => ?_)
              refine lv_goto (tgt := 18) hx hb dX12_isCritical_70 (by decide) ?_
              exact ih18 (1 : Int32) r7225 ls g18_l1 (by decide : Rg 0 1 (1 : Int32)) (show Rg 0 12 r7225 from rg_w hr7225 (by decide) (by decide)) (lv_sub (l' := [(0, .ref (b 0)), (1, .int x0), (2, .int 1), (3, .int r7225)]) hl [2, 3, 1, 0] rfl) (me_up hm18 er7225 (by decide))
  refine lv_iload_n hx hb dX12_isCritical_0 rfl (lv_at hl 1 rfl) ?_
  refine lz_ss (As := [.int x0]) (rest := []) ⟨hx, hb, hml, hown, hts⟩ (w_X12_bits l D cI cS x0) hKK (hP.sub (ws' := []) [] rfl) (va_cwS 1 hts gX12_isCritical_X12_bits rfl rfl rfl (by decide +kernel) ⟨Nat.le_of_ble_eq_true rfl, Nat.le_of_ble_eq_true rfl⟩) rfl hl.1 rfl (Nat.le_of_ble_eq_true rfl) dX12_isCritical_1 ⟨Nat.le_of_ble_eq_true rfl, Nat.le_of_ble_eq_true rfl⟩ (fun r7226 hr7226 => ?_)
  refine lv_iconst (v := 2) hx hb dX12_isCritical_4 (by decide) ?_
  refine lv_irem hx hb dX12_isCritical_5 (by decide) ?_
  refine wk_any (fun r7227 => ?_)
  refine lv_iconst (v := 1) hx hb dX12_isCritical_6 (by decide) ?_
  refine lv_icmp_ne (tgt := 14) hx hb dX12_isCritical_7 (by decide) (fun c7228 => ?_) (fun c7228 => ?_)
  · refine lv_iconst (v := 0) hx hb dX12_isCritical_14 (by decide) ?_
    refine lv_istore_n (lv' := [(2, .int 0), (0, .ref (b 0)), (1, .int x0)]) hx hb dX12_isCritical_15 rfl hl (by decide) rfl (fun ls hl => ?_)
    refine lv_iconst (v := 0) hx hb dX12_isCritical_16 (by decide) ?_
    refine lv_istore_n (lv' := [(3, .int 0), (2, .int 0), (0, .ref (b 0)), (1, .int x0)]) hx hb dX12_isCritical_17 rfl hl (by decide) rfl (fun ls hl => ?_)
    exact lp18 13 (0 : Int32) (0 : Int32) ls px0 (by decide : Rg 0 1 (0 : Int32)) (by decide : Rg 0 12 (0 : Int32)) (lv_sub (l' := [(0, .ref (b 0)), (1, .int x0), (2, .int 0), (3, .int 0)]) hl [2, 3, 1, 0] rfl) (me_i (by decide : Rg 0 12 (0 : Int32)) (by decide))
  · have g7229 : Rg 1 1 r7227 := wk_eql (rg_any r7227) (by decide : Rg 1 1 (1 : Int32)) c7228 (by decide)
    refine lv_iconst (v := 1) hx hb dX12_isCritical_10 (by decide) ?_
    refine lv_goto (tgt := 15) hx hb dX12_isCritical_11 (by decide) ?_
    refine lv_istore_n (lv' := [(2, .int 1), (0, .ref (b 0)), (1, .int x0)]) hx hb dX12_isCritical_15 rfl hl (by decide) rfl (fun ls hl => ?_)
    refine lv_iconst (v := 0) hx hb dX12_isCritical_16 (by decide) ?_
    refine lv_istore_n (lv' := [(3, .int 0), (2, .int 1), (0, .ref (b 0)), (1, .int x0)]) hx hb dX12_isCritical_17 rfl hl (by decide) rfl (fun ls hl => ?_)
    exact lp18 13 (1 : Int32) (0 : Int32) ls px0 (by decide : Rg 0 1 (1 : Int32)) (by decide : Rg 0 12 (0 : Int32)) (lv_sub (l' := [(0, .ref (b 0)), (1, .int x0), (2, .int 1), (3, .int 0)]) hl [2, 3, 1, 0] rfl) (me_i (by decide : Rg 0 12 (0 : Int32)) (by decide))
theorem dX12_critical_23 : decode cX12_critical 23 = .ok (.iconst 1, 1) := by decide +kernel
theorem dX12_critical_24 : decode cX12_critical 24 = .ok (.goto 4, 3) := by decide +kernel
set_option maxHeartbeats 4000000 in
set_option maxRecDepth 100000 in
theorem w_X12_critical (l : Launch) (D : va_G) (cI cS : ClassId) (sz : Nat) (b : Nat → Nat) (L v0 : SU) (hL : TyL L) (hV : TyV v0) (x0 : Int32) : Met l yX12_critical wsX12_critical ({ frames := 3, cells := 0, slots := 0, locals := 120 }) (PQ D cI cS (wM cI b L v0) sz [.ref (b 0), .int x0]) (QF (S := SU) D (wM cI b L v0) (wM cI b L) sz (fun r u => TyV u ∧ Rg (-2) 1 r ∧ (r = 0 → Rg 0 4095 x0))) 0 0 (va_A (wM cI b L v0) sz) := by
  refine Met.ofW (cc := cX12_critical) (maxL := 2) (ret := (some .int)) (by decide) rfl ?_
  intro p e s m args below meth c s₁ B hml hv
  obtain ⟨rfl, hsz, hP, hKK, hD0⟩ := hv
  have hx := B.exec
  have hb := B.bytes
  have hr := B.returns
  have hts := atoms_spec (ws := wsX12_critical) B.pre
  have hown : s.vm.findClass RX12 = some m.cls := findClass_of_methodNamed B.named
  have hlocks := B.notSynchronized
  have hK := hKK.1
  subst hsz
  have hD := hD0.self (sz := s.heap.size)
  obtain ⟨A, hAe⟩ : ∃ A, A = va_A (wM cI b L v0) s.heap.size := ⟨_, rfl⟩
  rw [← hAe] at hD
  have hA : ∀ q : Nat, s.heap.size ≤ q → A q := fun q h => by rw [hAe]; exact Or.inr h
  have hS : va_S A s.heap s.heap [] := va_S.rf
  have hl := lv_entry ([.ref (b 0), .int x0]) (n := 2) (Nat.le_of_ble_eq_true rfl)
  rw [lg_entry_eq]
  generalize (lg_sl ([.ref (b 0), .int x0]) ++ List.replicate (2 - (lg_sl ([.ref (b 0), .int x0])).length) Slot.unset).toArray = ls at hl ⊢
  have hl : lv_has ls 2 [(0, .ref (b 0)), (1, .int x0)] := hl
  obtain ⟨v, hv9⟩ : ∃ v : SU, v = v0 := ⟨_, rfl⟩
  rw [← hv9] at hP hD hV
  refine lv_aload_n hx hb dX12_critical_0 rfl (lv_at hl 0 rfl) ?_
  refine lv_iload_n hx hb dX12_critical_1 rfl (lv_at hl 1 rfl) ?_
  refine wk_sv 0 (As := [.int x0]) (rest := []) ⟨hx, hb, hml, hown, hts⟩ (w_X12_isSet l D cI cS b L v hL hV x0) hKK hP (ci := 12) rfl rfl (cwV 1 hts gX12_critical_X12_isSet rfl rfl rfl (by decide +kernel) ⟨Nat.le_of_ble_eq_true rfl, Nat.le_of_ble_eq_true rfl⟩) rfl hl.1 rfl (Nat.le_of_ble_eq_true rfl) dX12_critical_2 ⟨Nat.le_of_ble_eq_true rfl, Nat.le_of_ble_eq_true rfl⟩ (fun r7240 hr7240 => ?_)
  refine lv_if_ne (tgt := 11) hx hb dX12_critical_5 (by decide) (fun c7241 => ?_) (fun c7241 => ?_)
  · have g7242 : Rg 0 4095 x0 := (hr7240.2 c7241)
    have g7243 : Rg 1 1 r7240 := rg_ne_lo (k := 0) hr7240.1 (by decide) c7241 (by decide)
    refine lv_aload_n hx hb dX12_critical_11 rfl (lv_at hl 0 rfl) ?_
    refine wk_qv (wM cI b L) v (As := []) (rest := []) ⟨hx, hb, hml, hown, hts⟩ (w_X12_reckons l D cI cS _ b L v hL hV) hKK hP hD hS hA 0 (ci := 12) rfl rfl (cwV 0 hts gX12_critical_X12_reckons rfl rfl rfl (by decide +kernel) ⟨Nat.le_of_ble_eq_true rfl, Nat.le_of_ble_eq_true rfl⟩) rfl hl.1 rfl (Nat.le_of_ble_eq_true rfl) dX12_critical_12 ⟨Nat.le_of_ble_eq_true rfl, Nat.le_of_ble_eq_true rfl⟩ (fun v H locs hr7244 hP hD hS => ?_)
    have hV := hr7244.1
    refine lv_aload_n hx hb dX12_critical_15 rfl (lv_at hl 0 rfl) ?_
    refine lv_iload_n hx hb dX12_critical_16 rfl (lv_at hl 1 rfl) ?_
    refine wk_sv 0 (As := [.int x0]) (rest := []) ⟨hx, hb, hml, hown, hts⟩ (w_X12_isCritical l D cI cS b L v hL hV x0 g7242) hKK hP (ci := 12) rfl rfl (cwV 1 hts gX12_critical_X12_isCritical rfl rfl rfl (by decide +kernel) ⟨Nat.le_of_ble_eq_true rfl, Nat.le_of_ble_eq_true rfl⟩) rfl hl.1 rfl (Nat.le_of_ble_eq_true rfl) dX12_critical_17 ⟨Nat.le_of_ble_eq_true rfl, Nat.le_of_ble_eq_true rfl⟩ (fun r7245 hr7245 => ?_)
    refine lv_if_eq (tgt := 27) hx hb dX12_critical_20 (by decide) (fun c7246 => ?_) (fun c7246 => ?_)
    · have g7247 : Rg 0 0 r7245 := wk_eql hr7245.1 (by decide : Rg 0 0 (0 : Int32)) c7246 (by decide)
      refine lv_iconst (v := 0) hx hb dX12_critical_27 (by decide) ?_
      subst hAe
      exact W.iret (v := 0) hx hb hr (fun t ht hW => ⟨⟨_, v, rfl, ⟨hV, (by decide : Rg (-2) 1 (0 : Int32)), fun _ => g7242⟩, by rw [ht]; exact hP, hD⟩, hS.F ht⟩) hS.2.2 dX12_critical_28
    · have g7248 : Rg 1 1 r7245 := rg_ne_lo (k := 0) hr7245.1 (by decide) c7246 (by decide)
      refine lv_iconst (v := 1) hx hb dX12_critical_23 (by decide) ?_
      refine lv_goto (tgt := 28) hx hb dX12_critical_24 (by decide) ?_
      subst hAe
      exact W.iret (v := 1) hx hb hr (fun t ht hW => ⟨⟨_, v, rfl, ⟨hV, (by decide : Rg (-2) 1 (1 : Int32)), fun h9 => absurd h9 (by decide)⟩, by rw [ht]; exact hP, hD⟩, hS.F ht⟩) hS.2.2 dX12_critical_28
  · have g7249 : Rg 0 0 r7240 := wk_eql hr7240.1 (by decide : Rg 0 0 (0 : Int32)) c7241 (by decide)
    refine lv_bipush (v := (-2)) hx hb dX12_critical_8 (by decide) ?_
    subst hAe
    exact W.iret (v := (-2)) hx hb hr (fun t ht hW => ⟨⟨_, v, rfl, ⟨hV, (by decide : Rg (-2) 1 ((-2) : Int32)), fun h9 => absurd h9 (by decide)⟩, by rw [ht]; exact hP, hD⟩, hS.F ht⟩) hS.2.2 dX12_critical_10
set_option maxRecDepth 20000 in
theorem ggX12_verdictOf_X12_all : GoodIn wsX12_verdictOf wsX12_all := goodIn_r _ [7, 8, 9, 10, 11, 12, 13, 14, 15, 16, 17, 18, 19, 20, 21, 22, 23, 24, 25, 26, 27, 28, 29, 30, 31, 32] (by decide +kernel) (by decide +kernel)
set_option maxRecDepth 20000 in
theorem gX12_verdictOf_X12_all : GoodIn wsX12_verdictOf (wsV RX12 70 RX12 yX12_all wsX12_all) := goodIn_app (goodIn_of _ (by decide +kernel)) ggX12_verdictOf_X12_all
theorem dX12_verdictOf_0 : decode cX12_verdictOf 0 = .ok (.aload_n 0, 1) := by decide +kernel
theorem dX12_verdictOf_1 : decode cX12_verdictOf 1 = .ok (.invokevirtual 70, 3) := by decide +kernel
theorem dX12_verdictOf_10 : decode cX12_verdictOf 10 = .ok (.ior, 1) := by decide +kernel
theorem dX12_verdictOf_11 : decode cX12_verdictOf 11 = .ok (.iconst (-1), 1) := by decide +kernel
theorem dX12_verdictOf_12 : decode cX12_verdictOf 12 = .ok (.ixor, 1) := by decide +kernel
theorem dX12_verdictOf_13 : decode cX12_verdictOf 13 = .ok (.iand, 1) := by decide +kernel
theorem dX12_verdictOf_14 : decode cX12_verdictOf 14 = .ok (.istore_n 3, 1) := by decide +kernel
theorem dX12_verdictOf_15 : decode cX12_verdictOf 15 = .ok (.aload_n 0, 1) := by decide +kernel
theorem dX12_verdictOf_16 : decode cX12_verdictOf 16 = .ok (.getfield 17, 3) := by decide +kernel
theorem dX12_verdictOf_19 : decode cX12_verdictOf 19 = .ok (.iload_n 3, 1) := by decide +kernel
theorem dX12_verdictOf_20 : decode cX12_verdictOf 20 = .ok (.iaload, 1) := by decide +kernel
theorem dX12_verdictOf_21 : decode cX12_verdictOf 21 = .ok (.iconst 1, 1) := by decide +kernel
theorem dX12_verdictOf_22 : decode cX12_verdictOf 22 = .ok (.iadd, 1) := by decide +kernel
theorem dX12_verdictOf_23 : decode cX12_verdictOf 23 = .ok (.aload_n 0, 1) := by decide +kernel
theorem dX12_verdictOf_24 : decode cX12_verdictOf 24 = .ok (.getfield 17, 3) := by decide +kernel
theorem dX12_verdictOf_27 : decode cX12_verdictOf 27 = .ok (.aload_n 0, 1) := by decide +kernel
theorem dX12_verdictOf_28 : decode cX12_verdictOf 28 = .ok (.invokevirtual 70, 3) := by decide +kernel
theorem dX12_verdictOf_31 : decode cX12_verdictOf 31 = .ok (.iaload, 1) := by decide +kernel
theorem dX12_verdictOf_32 : decode cX12_verdictOf 32 = .ok (.if_icmp .ge 7, 3) := by decide +kernel
theorem dX12_verdictOf_35 : decode cX12_verdictOf 35 = .ok (.iconst 0, 1) := by decide +kernel
theorem dX12_verdictOf_36 : decode cX12_verdictOf 36 = .ok (.goto 26, 3) := by decide +kernel
theorem dX12_verdictOf_39 : decode cX12_verdictOf 39 = .ok (.aload_n 0, 1) := by decide +kernel
theorem dX12_verdictOf_4 : decode cX12_verdictOf 4 = .ok (.iconst 1, 1) := by decide +kernel
theorem dX12_verdictOf_40 : decode cX12_verdictOf 40 = .ok (.getfield 20, 3) := by decide +kernel
theorem dX12_verdictOf_43 : decode cX12_verdictOf 43 = .ok (.iload_n 3, 1) := by decide +kernel
theorem dX12_verdictOf_44 : decode cX12_verdictOf 44 = .ok (.iaload, 1) := by decide +kernel
theorem dX12_verdictOf_45 : decode cX12_verdictOf 45 = .ok (.aload_n 0, 1) := by decide +kernel
theorem dX12_verdictOf_46 : decode cX12_verdictOf 46 = .ok (.getfield 20, 3) := by decide +kernel
theorem dX12_verdictOf_49 : decode cX12_verdictOf 49 = .ok (.aload_n 0, 1) := by decide +kernel
theorem dX12_verdictOf_5 : decode cX12_verdictOf 5 = .ok (.iload_n 1, 1) := by decide +kernel
theorem dX12_verdictOf_50 : decode cX12_verdictOf 50 = .ok (.invokevirtual 70, 3) := by decide +kernel
theorem dX12_verdictOf_53 : decode cX12_verdictOf 53 = .ok (.iaload, 1) := by decide +kernel
theorem dX12_verdictOf_54 : decode cX12_verdictOf 54 = .ok (.if_icmp .ne 7, 3) := by decide +kernel
theorem dX12_verdictOf_57 : decode cX12_verdictOf 57 = .ok (.iconst 2, 1) := by decide +kernel
theorem dX12_verdictOf_58 : decode cX12_verdictOf 58 = .ok (.goto 4, 3) := by decide +kernel
theorem dX12_verdictOf_6 : decode cX12_verdictOf 6 = .ok (.ishl, 1) := by decide +kernel
theorem dX12_verdictOf_61 : decode cX12_verdictOf 61 = .ok (.iconst 1, 1) := by decide +kernel
theorem dX12_verdictOf_62 : decode cX12_verdictOf 62 = .ok (.ireturn, 1) := by decide +kernel
theorem dX12_verdictOf_7 : decode cX12_verdictOf 7 = .ok (.iconst 1, 1) := by decide +kernel
theorem dX12_verdictOf_8 : decode cX12_verdictOf 8 = .ok (.iload_n 2, 1) := by decide +kernel
theorem dX12_verdictOf_9 : decode cX12_verdictOf 9 = .ok (.ishl, 1) := by decide +kernel
set_option maxHeartbeats 4000000 in
set_option maxRecDepth 100000 in
theorem w_X12_verdictOf (l : Launch) (D : va_G) (cI cS : ClassId) (b : Nat → Nat) (L v : SU) (hL : TyL L) (hV : TyV v) (x0 x1 : Int32) (px0 : Rg 0 11 x0) (px1 : Rg 0 11 x1) : Met l yX12_verdictOf wsX12_verdictOf ({ frames := 1, cells := 0, slots := 0, locals := 40 }) (PS D cI cS (wM cI b L v) [.ref (b 0), .int x0, .int x1]) (vp_Si (fun r => Rg 0 2 r ∧ True)) 0 0 (fun _ => False) := by
  refine Met.ofW (cc := cX12_verdictOf) (maxL := 4) (ret := (some .int)) (by decide) rfl ?_
  intro p e s m args below meth c s₁ B hml hv
  obtain ⟨rfl, hP, hKK⟩ := hv
  have hx := B.exec
  have hb := B.bytes
  have hr := B.returns
  have hts := atoms_spec (ws := wsX12_verdictOf) B.pre
  have hown : s.vm.findClass RX12 = some m.cls := findClass_of_methodNamed B.named
  have hlocks := B.notSynchronized
  have hK := hKK.1
  have hin12 : ∀ w ∈ wsX120, w ∈ wsX12_verdictOf := by decide +kernel
  have hl := lv_entry ([.ref (b 0), .int x0, .int x1]) (n := 4) (Nat.le_of_ble_eq_true rfl)
  rw [lg_entry_eq]
  generalize (lg_sl ([.ref (b 0), .int x0, .int x1]) ++ List.replicate (4 - (lg_sl ([.ref (b 0), .int x0, .int x1])).length) Slot.unset).toArray = ls at hl ⊢
  have hl : lv_has ls 4 [(0, .ref (b 0)), (1, .int x0), (2, .int x1)] := hl
  refine lv_aload_n hx hb dX12_verdictOf_0 rfl (lv_at hl 0 rfl) ?_
  refine wk_sv 0 (As := []) (rest := []) ⟨hx, hb, hml, hown, hts⟩ (w_X12_all l D cI cS b L v hL hV) hKK hP (ci := 12) rfl rfl (cwV 0 hts gX12_verdictOf_X12_all rfl rfl rfl (by decide +kernel) ⟨Nat.le_of_ble_eq_true rfl, Nat.le_of_ble_eq_true rfl⟩) rfl hl.1 rfl (Nat.le_of_ble_eq_true rfl) dX12_verdictOf_1 ⟨Nat.le_of_ble_eq_true rfl, Nat.le_of_ble_eq_true rfl⟩ (fun r7265 hr7265 => ?_)
  refine lv_iconst (v := 1) hx hb dX12_verdictOf_4 (by decide) ?_
  refine lv_iload_n hx hb dX12_verdictOf_5 rfl (lv_at hl 1 rfl) ?_
  refine wk_ishl1 (f := 2048) hx hb dX12_verdictOf_6 px0 (by decide) (fun r7266 hr7266 qr7266 => ?_)
  refine lv_iconst (v := 1) hx hb dX12_verdictOf_7 (by decide) ?_
  refine lv_iload_n hx hb dX12_verdictOf_8 rfl (lv_at hl 2 rfl) ?_
  refine wk_ishl1 (f := 2048) hx hb dX12_verdictOf_9 px1 (by decide) (fun r7267 hr7267 qr7267 => ?_)
  refine wk_ior 12 (e1 := 1) (f := 4095) hx hb dX12_verdictOf_10 hr7266 hr7267 (by decide) (fun r7268 hr7268 qr7268 => ?_)
  refine lv_iconst (v := (-1)) hx hb dX12_verdictOf_11 (by decide) ?_
  refine lv_ixor hx hb dX12_verdictOf_12 ?_
  refine wk_topP (P := fun r => r = r7268 ^^^ ((-1) : Int32)) rfl (fun r7269 qr7269 => ?_)
  refine wk_iandl hx hb dX12_verdictOf_13 hr7265.1 (by decide) (fun r7270 hr7270 qr7270 => ?_)
  refine lv_istore_n (lv' := [(3, .int r7270), (0, .ref (b 0)), (1, .int x0), (2, .int x1)]) hx hb dX12_verdictOf_14 rfl hl (by decide) rfl (fun ls hl => ?_)
  refine lv_aload_n hx hb dX12_verdictOf_15 rfl (lv_at hl 1 rfl) ?_
  refine va_get (D := D) (ci := 12) (v := .ref (b 2)) (C := RX12) (T := TX12) (N := 24) hx hb hts hin12 hown hK hP 0 rfl rfl 3 (by decide) (hts (.fieldLink RX12 17 "MissedPointsModel" "pairs" "[I") (by decide +kernel)) (fun _ h9 => h9) rfl dX12_verdictOf_16 ?_
  refine lv_iload_n hx hb dX12_verdictOf_19 rfl (lv_at hl 0 rfl) ?_
  refine wk_aldA hx hb hK hP 2 0 rfl rfl (rg_in hr7270 (by decide) (by decide)) dX12_verdictOf_20 (fun r7271 => ?_)
  refine lv_iconst (v := 1) hx hb dX12_verdictOf_21 (by decide) ?_
  refine lv_iadd hx hb dX12_verdictOf_22 ?_
  refine wk_topP (P := fun r => r = r7271 + (1 : Int32)) rfl (fun r7272 qr7272 => ?_)
  refine lv_aload_n hx hb dX12_verdictOf_23 rfl (lv_at hl 1 rfl) ?_
  refine va_get (D := D) (ci := 12) (v := .ref (b 2)) (C := RX12) (T := TX12) (N := 24) hx hb hts hin12 hown hK hP 0 rfl rfl 3 (by decide) (hts (.fieldLink RX12 17 "MissedPointsModel" "pairs" "[I") (by decide +kernel)) (fun _ h9 => h9) rfl dX12_verdictOf_24 ?_
  refine lv_aload_n hx hb dX12_verdictOf_27 rfl (lv_at hl 1 rfl) ?_
  refine wk_sv 0 (As := []) (rest := [.ref (b 2), .int r7272]) ⟨hx, hb, hml, hown, hts⟩ (w_X12_all l D cI cS b L v hL hV) hKK hP (ci := 12) rfl rfl (cwV 0 hts gX12_verdictOf_X12_all rfl rfl rfl (by decide +kernel) ⟨Nat.le_of_ble_eq_true rfl, Nat.le_of_ble_eq_true rfl⟩) rfl hl.1 rfl (Nat.le_of_ble_eq_true rfl) dX12_verdictOf_28 ⟨Nat.le_of_ble_eq_true rfl, Nat.le_of_ble_eq_true rfl⟩ (fun r7273 hr7273 => ?_)
  refine wk_aldA hx hb hK hP 2 0 rfl rfl (rg_in hr7273.1 (by decide) (by decide)) dX12_verdictOf_31 (fun r7274 => ?_)
  refine lv_icmp_ge (tgt := 39) hx hb dX12_verdictOf_32 (by decide) (fun c7275 => ?_) (fun c7275 => ?_)
  · refine lv_aload_n hx hb dX12_verdictOf_39 rfl (lv_at hl 1 rfl) ?_
    refine va_get (D := D) (ci := 12) (v := .ref (b 3)) (C := RX12) (T := TX12) (N := 24) hx hb hts hin12 hown hK hP 0 rfl rfl 4 (by decide) (hts (.fieldLink RX12 20 "MissedPointsModel" "greatestWays" "[I") (by decide +kernel)) (fun _ h9 => h9) rfl dX12_verdictOf_40 ?_
    refine lv_iload_n hx hb dX12_verdictOf_43 rfl (lv_at hl 0 rfl) ?_
    refine wk_aldA hx hb hK hP 3 0 rfl rfl (rg_in hr7270 (by decide) (by decide)) dX12_verdictOf_44 (fun r7276 => ?_)
    refine lv_aload_n hx hb dX12_verdictOf_45 rfl (lv_at hl 1 rfl) ?_
    refine va_get (D := D) (ci := 12) (v := .ref (b 3)) (C := RX12) (T := TX12) (N := 24) hx hb hts hin12 hown hK hP 0 rfl rfl 4 (by decide) (hts (.fieldLink RX12 20 "MissedPointsModel" "greatestWays" "[I") (by decide +kernel)) (fun _ h9 => h9) rfl dX12_verdictOf_46 ?_
    refine lv_aload_n hx hb dX12_verdictOf_49 rfl (lv_at hl 1 rfl) ?_
    refine wk_sv 0 (As := []) (rest := [.ref (b 3), .int r7276]) ⟨hx, hb, hml, hown, hts⟩ (w_X12_all l D cI cS b L v hL hV) hKK hP (ci := 12) rfl rfl (cwV 0 hts gX12_verdictOf_X12_all rfl rfl rfl (by decide +kernel) ⟨Nat.le_of_ble_eq_true rfl, Nat.le_of_ble_eq_true rfl⟩) rfl hl.1 rfl (Nat.le_of_ble_eq_true rfl) dX12_verdictOf_50 ⟨Nat.le_of_ble_eq_true rfl, Nat.le_of_ble_eq_true rfl⟩ (fun r7277 hr7277 => ?_)
    refine wk_aldA hx hb hK hP 3 0 rfl rfl (rg_in hr7277.1 (by decide) (by decide)) dX12_verdictOf_53 (fun r7278 => ?_)
    refine lv_icmp_ne (tgt := 61) hx hb dX12_verdictOf_54 (by decide) (fun c7279 => ?_) (fun c7279 => ?_)
    · refine lv_iconst (v := 1) hx hb dX12_verdictOf_61 (by decide) ?_
      exact W.iret (v := 1) hx hb hr (fun t ht hW => ⟨_, rfl, ⟨(by decide : Rg 0 2 (1 : Int32)), trivial⟩, ht⟩) (fun q hq => absurd hq List.not_mem_nil) dX12_verdictOf_62
    · refine lv_iconst (v := 2) hx hb dX12_verdictOf_57 (by decide) ?_
      refine lv_goto (tgt := 62) hx hb dX12_verdictOf_58 (by decide) ?_
      exact W.iret (v := 2) hx hb hr (fun t ht hW => ⟨_, rfl, ⟨(by decide : Rg 0 2 (2 : Int32)), trivial⟩, ht⟩) (fun q hq => absurd hq List.not_mem_nil) dX12_verdictOf_62
  · refine lv_iconst (v := 0) hx hb dX12_verdictOf_35 (by decide) ?_
    refine lv_goto (tgt := 62) hx hb dX12_verdictOf_36 (by decide) ?_
    exact W.iret (v := 0) hx hb hr (fun t ht hW => ⟨_, rfl, ⟨(by decide : Rg 0 2 (0 : Int32)), trivial⟩, ht⟩) (fun q hq => absurd hq List.not_mem_nil) dX12_verdictOf_62
set_option maxRecDepth 20000 in
theorem ggX12_verdict_X12_has : GoodIn wsX12_verdict wsX12_has := goodIn_r _ [30] (by decide +kernel) (by decide +kernel)
set_option maxRecDepth 20000 in
theorem gX12_verdict_X12_has : GoodIn wsX12_verdict (va_wsS RX12 59 yX12_has wsX12_has) := goodIn_app (goodIn_of _ (by decide +kernel)) ggX12_verdict_X12_has
set_option maxRecDepth 20000 in
theorem ggX12_verdict_X12_reckons : GoodIn wsX12_verdict wsX12_reckons := goodIn_r _ [18, 19, 20, 11, 1, 21, 22, 23, 5, 24, 25, 26, 27, 28, 29, 30, 35, 36, 37, 38, 39, 40, 41, 42, 43, 44, 45, 46, 47, 48, 49, 50, 51, 52, 53, 54, 55, 56, 57, 58] (by decide +kernel) (by decide +kernel)
set_option maxRecDepth 20000 in
theorem gX12_verdict_X12_reckons : GoodIn wsX12_verdict (wsV RX12 107 RX12 yX12_reckons wsX12_reckons) := goodIn_app (goodIn_of _ (by decide +kernel)) ggX12_verdict_X12_reckons
set_option maxRecDepth 20000 in
theorem ggX12_verdict_X12_verdictOf : GoodIn wsX12_verdict wsX12_verdictOf := goodIn_r _ [34, 20, 19, 21, 22, 23, 5, 24, 11, 35, 36, 37, 38, 39, 40, 41, 42, 43, 44, 45, 46, 47, 48, 49, 50, 51, 52, 53, 54, 55, 56, 57, 58] (by decide +kernel) (by decide +kernel)
set_option maxRecDepth 20000 in
theorem gX12_verdict_X12_verdictOf : GoodIn wsX12_verdict (wsV RX12 150 RX12 yX12_verdictOf wsX12_verdictOf) := goodIn_app (goodIn_of _ (by decide +kernel)) ggX12_verdict_X12_verdictOf
theorem dX12_verdict_12 : decode cX12_verdict 12 = .ok (.aload_n 0, 1) := by decide +kernel
theorem dX12_verdict_13 : decode cX12_verdict 13 = .ok (.invokevirtual 107, 3) := by decide +kernel
theorem dX12_verdict_16 : decode cX12_verdict 16 = .ok (.aload_n 0, 1) := by decide +kernel
theorem dX12_verdict_17 : decode cX12_verdict 17 = .ok (.getfield 13, 3) := by decide +kernel
theorem dX12_verdict_20 : decode cX12_verdict 20 = .ok (.iload_n 1, 1) := by decide +kernel
theorem dX12_verdict_21 : decode cX12_verdict 21 = .ok (.iaload, 1) := by decide +kernel
theorem dX12_verdict_22 : decode cX12_verdict 22 = .ok (.iload_n 2, 1) := by decide +kernel
theorem dX12_verdict_23 : decode cX12_verdict 23 = .ok (.invokestatic 59, 3) := by decide +kernel
theorem dX12_verdict_26 : decode cX12_verdict 26 = .ok (.ifCond .eq 12, 3) := by decide +kernel
theorem dX12_verdict_29 : decode cX12_verdict 29 = .ok (.aload_n 0, 1) := by decide +kernel
theorem dX12_verdict_30 : decode cX12_verdict 30 = .ok (.iload_n 1, 1) := by decide +kernel
theorem dX12_verdict_31 : decode cX12_verdict 31 = .ok (.iload_n 2, 1) := by decide +kernel
theorem dX12_verdict_32 : decode cX12_verdict 32 = .ok (.invokevirtual 150, 3) := by decide +kernel
theorem dX12_verdict_35 : decode cX12_verdict 35 = .ok (.goto 4, 3) := by decide +kernel
theorem dX12_verdict_38 : decode cX12_verdict 38 = .ok (.iconst (-1), 1) := by decide +kernel
theorem dX12_verdict_39 : decode cX12_verdict 39 = .ok (.ireturn, 1) := by decide +kernel
set_option maxHeartbeats 4000000 in
set_option maxRecDepth 100000 in
theorem w_X12_verdict (l : Launch) (D : va_G) (cI cS : ClassId) (sz : Nat) (b : Nat → Nat) (L v0 : SU) (hL : TyL L) (hV : TyV v0) (x0 x1 : Int32) : Met l yX12_verdict wsX12_verdict ({ frames := 3, cells := 0, slots := 0, locals := 120 }) (PQ D cI cS (wM cI b L v0) sz [.ref (b 0), .int x0, .int x1]) (QF (S := SU) D (wM cI b L v0) (wM cI b L) sz (fun r u => TyV u ∧ Rg (-2) 2 r ∧ True)) 0 0 (va_A (wM cI b L v0) sz) := by
  refine Met.ofW (cc := cX12_verdict) (maxL := 3) (ret := (some .int)) (by decide) rfl ?_
  intro p e s m args below meth c s₁ B hml hv
  obtain ⟨rfl, hsz, hP, hKK, hD0⟩ := hv
  have hx := B.exec
  have hb := B.bytes
  have hr := B.returns
  have hts := atoms_spec (ws := wsX12_verdict) B.pre
  have hown : s.vm.findClass RX12 = some m.cls := findClass_of_methodNamed B.named
  have hlocks := B.notSynchronized
  have hK := hKK.1
  have hin12 : ∀ w ∈ wsX120, w ∈ wsX12_verdict := by decide +kernel
  subst hsz
  have hD := hD0.self (sz := s.heap.size)
  obtain ⟨A, hAe⟩ : ∃ A, A = va_A (wM cI b L v0) s.heap.size := ⟨_, rfl⟩
  rw [← hAe] at hD
  have hA : ∀ q : Nat, s.heap.size ≤ q → A q := fun q h => by rw [hAe]; exact Or.inr h
  have hS : va_S A s.heap s.heap [] := va_S.rf
  have hl := lv_entry ([.ref (b 0), .int x0, .int x1]) (n := 3) (Nat.le_of_ble_eq_true rfl)
  rw [lg_entry_eq]
  generalize (lg_sl ([.ref (b 0), .int x0, .int x1]) ++ List.replicate (3 - (lg_sl ([.ref (b 0), .int x0, .int x1])).length) Slot.unset).toArray = ls at hl ⊢
  have hl : lv_has ls 3 [(0, .ref (b 0)), (1, .int x0), (2, .int x1)] := hl
  obtain ⟨v, hv9⟩ : ∃ v : SU, v = v0 := ⟨_, rfl⟩
  rw [← hv9] at hP hD hV
  refine lv_aload_n hx hb dX12_verdict_0 rfl (lv_at hl 0 rfl) ?_
  refine lv_iload_n hx hb dX12_verdict_1 rfl (lv_at hl 1 rfl) ?_
  refine lv_iload_n hx hb dX12_verdict_2 rfl (lv_at hl 2 rfl) ?_
  refine wk_sv 0 (As := [.int x0, .int x1]) (rest := []) ⟨hx, hb, hml, hown, hts⟩ (w_X12_areTwo l D cI cS b L v hL hV x0 x1) hKK hP (ci := 12) rfl rfl (cwV 2 hts gX12_verdict_X12_areTwo rfl rfl rfl (by decide +kernel) ⟨Nat.le_of_ble_eq_true rfl, Nat.le_of_ble_eq_true rfl⟩) rfl hl.1 rfl (Nat.le_of_ble_eq_true rfl) dX12_verdict_3 ⟨Nat.le_of_ble_eq_true rfl, Nat.le_of_ble_eq_true rfl⟩ (fun r7293 hr7293 => ?_)
  refine lv_if_ne (tgt := 12) hx hb dX12_verdict_6 (by decide) (fun c7294 => ?_) (fun c7294 => ?_)
  · have g7295 : Rg 0 11 x0 := (hr7293.2 c7294).1
    have g7296 : Rg 0 11 x1 := (hr7293.2 c7294).2
    have g7297 : Rg 1 1 r7293 := rg_ne_lo (k := 0) hr7293.1 (by decide) c7294 (by decide)
    refine lv_aload_n hx hb dX12_verdict_12 rfl (lv_at hl 0 rfl) ?_
    refine wk_qv (wM cI b L) v (As := []) (rest := []) ⟨hx, hb, hml, hown, hts⟩ (w_X12_reckons l D cI cS _ b L v hL hV) hKK hP hD hS hA 0 (ci := 12) rfl rfl (cwV 0 hts gX12_verdict_X12_reckons rfl rfl rfl (by decide +kernel) ⟨Nat.le_of_ble_eq_true rfl, Nat.le_of_ble_eq_true rfl⟩) rfl hl.1 rfl (Nat.le_of_ble_eq_true rfl) dX12_verdict_13 ⟨Nat.le_of_ble_eq_true rfl, Nat.le_of_ble_eq_true rfl⟩ (fun v H locs hr7298 hP hD hS => ?_)
    have hV := hr7298.1
    refine lv_aload_n hx hb dX12_verdict_16 rfl (lv_at hl 0 rfl) ?_
    refine va_get (D := D) (ci := 12) (v := .ref (b 1)) (C := RX12) (T := TX12) (N := 24) hx hb hts hin12 hown hK hP 0 rfl rfl 2 (by decide) (hts (.fieldLink RX12 13 "MissedPointsModel" "near" "[I") (by decide +kernel)) (fun _ h9 => h9) rfl dX12_verdict_17 ?_
    refine lv_iload_n hx hb dX12_verdict_20 rfl (lv_at hl 1 rfl) ?_
    refine wk_ald hx hb hK hP 1 0 rfl rfl (rg_in g7295 (by decide) (by decide)) dX12_verdict_21 hV.2.1 (fun r7299 hr7299 => ?_)
    refine lv_iload_n hx hb dX12_verdict_22 rfl (lv_at hl 2 rfl) ?_
    refine lz_ss (As := [.int r7299, .int x1]) (rest := []) ⟨hx, hb, hml, hown, hts⟩ (w_X12_has l D cI cS r7299 x1) hKK (hP.sub (ws' := []) [] rfl) (va_cwS 2 hts gX12_verdict_X12_has rfl rfl rfl (by decide +kernel) ⟨Nat.le_of_ble_eq_true rfl, Nat.le_of_ble_eq_true rfl⟩) rfl hl.1 rfl (Nat.le_of_ble_eq_true rfl) dX12_verdict_23 ⟨Nat.le_of_ble_eq_true rfl, Nat.le_of_ble_eq_true rfl⟩ (fun r7300 hr7300 => ?_)
    refine lv_if_eq (tgt := 38) hx hb dX12_verdict_26 (by decide) (fun c7301 => ?_) (fun c7301 => ?_)
    · have g7302 : Rg 0 0 r7300 := wk_eql hr7300.1 (by decide : Rg 0 0 (0 : Int32)) c7301 (by decide)
      refine lv_iconst (v := (-1)) hx hb dX12_verdict_38 (by decide) ?_
      subst hAe
      exact W.iret (v := (-1)) hx hb hr (fun t ht hW => ⟨⟨_, v, rfl, ⟨hV, (by decide : Rg (-2) 2 ((-1) : Int32)), trivial⟩, by rw [ht]; exact hP, hD⟩, hS.F ht⟩) hS.2.2 dX12_verdict_39
    · have g7303 : Rg 1 1 r7300 := rg_ne_lo (k := 0) hr7300.1 (by decide) c7301 (by decide)
      refine lv_aload_n hx hb dX12_verdict_29 rfl (lv_at hl 0 rfl) ?_
      refine lv_iload_n hx hb dX12_verdict_30 rfl (lv_at hl 1 rfl) ?_
      refine lv_iload_n hx hb dX12_verdict_31 rfl (lv_at hl 2 rfl) ?_
      refine wk_sv 0 (As := [.int x0, .int x1]) (rest := []) ⟨hx, hb, hml, hown, hts⟩ (w_X12_verdictOf l D cI cS b L v hL hV x0 x1 g7295 g7296) hKK hP (ci := 12) rfl rfl (cwV 2 hts gX12_verdict_X12_verdictOf rfl rfl rfl (by decide +kernel) ⟨Nat.le_of_ble_eq_true rfl, Nat.le_of_ble_eq_true rfl⟩) rfl hl.1 rfl (Nat.le_of_ble_eq_true rfl) dX12_verdict_32 ⟨Nat.le_of_ble_eq_true rfl, Nat.le_of_ble_eq_true rfl⟩ (fun r7304 hr7304 => ?_)
      refine lv_goto (tgt := 39) hx hb dX12_verdict_35 (by decide) ?_
      subst hAe
      exact W.iret (v := r7304) hx hb hr (fun t ht hW => ⟨⟨_, v, rfl, ⟨hV, (show Rg (-2) 2 r7304 from rg_w hr7304.1 (by decide) (by decide)), trivial⟩, by rw [ht]; exact hP, hD⟩, hS.F ht⟩) hS.2.2 dX12_verdict_39
  · have g7305 : Rg 0 0 r7293 := wk_eql hr7293.1 (by decide : Rg 0 0 (0 : Int32)) c7294 (by decide)
    refine lv_bipush (v := (-2)) hx hb dX12_verdict_9 (by decide) ?_
    subst hAe
    exact W.iret (v := (-2)) hx hb hr (fun t ht hW => ⟨⟨_, v, rfl, ⟨hV, (by decide : Rg (-2) 2 ((-2) : Int32)), trivial⟩, by rw [ht]; exact hP, hD⟩, hS.F ht⟩) hS.2.2 dX12_verdict_11
set_option maxRecDepth 20000 in
theorem ggX12_twos_X12_all : GoodIn wsX12_twos wsX12_all := goodIn_r _ [13, 1, 24, 25, 26, 27, 28, 29, 30, 31, 32, 33, 34, 35, 36, 37, 38, 39, 40, 41, 42, 43, 44, 45, 46, 47] (by decide +kernel) (by decide +kernel)
set_option maxRecDepth 20000 in
theorem gX12_twos_X12_all : GoodIn wsX12_twos (wsV RX12 70 RX12 yX12_all wsX12_all) := goodIn_app (goodIn_of _ (by decide +kernel)) ggX12_twos_X12_all
set_option maxRecDepth 20000 in
theorem ggX12_twos_X12_verdictOf : GoodIn wsX12_twos wsX12_verdictOf := goodIn_r _ [23, 3, 9, 10, 11, 12, 7, 13, 1, 24, 25, 26, 27, 28, 29, 30, 31, 32, 33, 34, 35, 36, 37, 38, 39, 40, 41, 42, 43, 44, 45, 46, 47] (by decide +kernel) (by decide +kernel)
set_option maxRecDepth 20000 in
theorem gX12_twos_X12_verdictOf : GoodIn wsX12_twos (wsV RX12 150 RX12 yX12_verdictOf wsX12_verdictOf) := goodIn_app (goodIn_of _ (by decide +kernel)) ggX12_twos_X12_verdictOf
theorem dX12_twos_102 : decode cX12_twos 102 = .ok (.iaload, 1) := by decide +kernel
theorem dX12_twos_103 : decode cX12_twos 103 = .ok (.if_icmp .ge 6, 3) := by decide +kernel
theorem dX12_twos_106 : decode cX12_twos 106 = .ok (.goto 27, 3) := by decide +kernel
theorem dX12_twos_109 : decode cX12_twos 109 = .ok (.iload 4, 2) := by decide +kernel
theorem dX12_twos_111 : decode cX12_twos 111 = .ok (.iconst (-1), 1) := by decide +kernel
theorem dX12_twos_112 : decode cX12_twos 112 = .ok (.if_icmp .ne 14, 3) := by decide +kernel
theorem dX12_twos_115 : decode cX12_twos 115 = .ok (.bipush 12, 2) := by decide +kernel
theorem dX12_twos_117 : decode cX12_twos 117 = .ok (.iload 6, 2) := by decide +kernel
theorem dX12_twos_119 : decode cX12_twos 119 = .ok (.imul, 1) := by decide +kernel
theorem dX12_twos_120 : decode cX12_twos 120 = .ok (.iload 7, 2) := by decide +kernel
theorem dX12_twos_122 : decode cX12_twos 122 = .ok (.iadd, 1) := by decide +kernel
theorem dX12_twos_123 : decode cX12_twos 123 = .ok (.goto 5, 3) := by decide +kernel
theorem dX12_twos_126 : decode cX12_twos 126 = .ok (.iload 4, 2) := by decide +kernel
theorem dX12_twos_128 : decode cX12_twos 128 = .ok (.istore 4, 2) := by decide +kernel
theorem dX12_twos_130 : decode cX12_twos 130 = .ok (.iinc 5 1, 3) := by decide +kernel
theorem dX12_twos_133 : decode cX12_twos 133 = .ok (.iinc 7 1, 3) := by decide +kernel
theorem dX12_twos_136 : decode cX12_twos 136 = .ok (.goto (-108), 3) := by decide +kernel
theorem dX12_twos_139 : decode cX12_twos 139 = .ok (.iinc 6 1, 3) := by decide +kernel
theorem dX12_twos_142 : decode cX12_twos 142 = .ok (.goto (-129), 3) := by decide +kernel
theorem dX12_twos_22 : decode cX12_twos 22 = .ok (.iload 6, 2) := by decide +kernel
theorem dX12_twos_24 : decode cX12_twos 24 = .ok (.iconst 1, 1) := by decide +kernel
theorem dX12_twos_25 : decode cX12_twos 25 = .ok (.iadd, 1) := by decide +kernel
theorem dX12_twos_26 : decode cX12_twos 26 = .ok (.istore 7, 2) := by decide +kernel
theorem dX12_twos_28 : decode cX12_twos 28 = .ok (.iload 7, 2) := by decide +kernel
theorem dX12_twos_30 : decode cX12_twos 30 = .ok (.aload_n 0, 1) := by decide +kernel
theorem dX12_twos_31 : decode cX12_twos 31 = .ok (.getfield 63, 3) := by decide +kernel
theorem dX12_twos_34 : decode cX12_twos 34 = .ok (.if_icmp .ge 105, 3) := by decide +kernel
theorem dX12_twos_37 : decode cX12_twos 37 = .ok (.aload_n 0, 1) := by decide +kernel
theorem dX12_twos_38 : decode cX12_twos 38 = .ok (.getfield 13, 3) := by decide +kernel
theorem dX12_twos_41 : decode cX12_twos 41 = .ok (.iload 6, 2) := by decide +kernel
theorem dX12_twos_43 : decode cX12_twos 43 = .ok (.iaload, 1) := by decide +kernel
theorem dX12_twos_44 : decode cX12_twos 44 = .ok (.iload 7, 2) := by decide +kernel
theorem dX12_twos_46 : decode cX12_twos 46 = .ok (.ishr, 1) := by decide +kernel
theorem dX12_twos_47 : decode cX12_twos 47 = .ok (.iconst 1, 1) := by decide +kernel
theorem dX12_twos_48 : decode cX12_twos 48 = .ok (.iand, 1) := by decide +kernel
theorem dX12_twos_49 : decode cX12_twos 49 = .ok (.iload_n 1, 1) := by decide +kernel
theorem dX12_twos_50 : decode cX12_twos 50 = .ok (.if_icmp .ne 83, 3) := by decide +kernel
theorem dX12_twos_53 : decode cX12_twos 53 = .ok (.iload_n 1, 1) := by decide +kernel
theorem dX12_twos_54 : decode cX12_twos 54 = .ok (.iconst 1, 1) := by decide +kernel
theorem dX12_twos_55 : decode cX12_twos 55 = .ok (.if_icmp .ne 18, 3) := by decide +kernel
theorem dX12_twos_58 : decode cX12_twos 58 = .ok (.aload_n 0, 1) := by decide +kernel
theorem dX12_twos_59 : decode cX12_twos 59 = .ok (.iload 6, 2) := by decide +kernel
theorem dX12_twos_61 : decode cX12_twos 61 = .ok (.iload 7, 2) := by decide +kernel
theorem dX12_twos_63 : decode cX12_twos 63 = .ok (.invokevirtual 150, 3) := by decide +kernel
theorem dX12_twos_66 : decode cX12_twos 66 = .ok (.iload_n 2, 1) := by decide +kernel
theorem dX12_twos_67 : decode cX12_twos 67 = .ok (.if_icmp .eq 42, 3) := by decide +kernel
theorem dX12_twos_70 : decode cX12_twos 70 = .ok (.goto 63, 3) := by decide +kernel
theorem dX12_twos_73 : decode cX12_twos 73 = .ok (.aload_n 0, 1) := by decide +kernel
theorem dX12_twos_74 : decode cX12_twos 74 = .ok (.getfield 17, 3) := by decide +kernel
theorem dX12_twos_77 : decode cX12_twos 77 = .ok (.aload_n 0, 1) := by decide +kernel
theorem dX12_twos_78 : decode cX12_twos 78 = .ok (.invokevirtual 70, 3) := by decide +kernel
theorem dX12_twos_81 : decode cX12_twos 81 = .ok (.iconst 1, 1) := by decide +kernel
theorem dX12_twos_82 : decode cX12_twos 82 = .ok (.iload 6, 2) := by decide +kernel
theorem dX12_twos_84 : decode cX12_twos 84 = .ok (.ishl, 1) := by decide +kernel
theorem dX12_twos_85 : decode cX12_twos 85 = .ok (.iconst 1, 1) := by decide +kernel
theorem dX12_twos_86 : decode cX12_twos 86 = .ok (.iload 7, 2) := by decide +kernel
theorem dX12_twos_88 : decode cX12_twos 88 = .ok (.ishl, 1) := by decide +kernel
theorem dX12_twos_89 : decode cX12_twos 89 = .ok (.ior, 1) := by decide +kernel
theorem dX12_twos_90 : decode cX12_twos 90 = .ok (.iconst (-1), 1) := by decide +kernel
theorem dX12_twos_91 : decode cX12_twos 91 = .ok (.ixor, 1) := by decide +kernel
theorem dX12_twos_92 : decode cX12_twos 92 = .ok (.iand, 1) := by decide +kernel
theorem dX12_twos_93 : decode cX12_twos 93 = .ok (.iaload, 1) := by decide +kernel
theorem dX12_twos_94 : decode cX12_twos 94 = .ok (.aload_n 0, 1) := by decide +kernel
theorem dX12_twos_95 : decode cX12_twos 95 = .ok (.getfield 17, 3) := by decide +kernel
theorem dX12_twos_98 : decode cX12_twos 98 = .ok (.aload_n 0, 1) := by decide +kernel
theorem dX12_twos_99 : decode cX12_twos 99 = .ok (.invokevirtual 70, 3) := by decide +kernel
set_option maxHeartbeats 4000000 in
set_option maxRecDepth 100000 in
theorem w_X12_twos (l : Launch) (D : va_G) (cI cS : ClassId) (sz : Nat) (b : Nat → Nat) (L v0 : SU) (hL : TyL L) (hV : TyV v0) (x0 x1 x2 : Int32) (px0 : Rg 0 1 x0) : Met l yX12_twos wsX12_twos ({ frames := 3, cells := 0, slots := 0, locals := 120 }) (PQ D cI cS (wM cI b L v0) sz [.ref (b 0), .int x0, .int x1, .int x2]) (QF (S := SU) D (wM cI b L v0) (wM cI b L) sz (fun r u => TyV u ∧ Rg (-2147483648) 2147483647 r ∧ True)) 0 0 (va_A (wM cI b L v0) sz) := by
  refine Met.ofW (cc := cX12_twos) (maxL := 8) (ret := (some .int)) (by decide) rfl ?_
  intro p e s m args below meth c s₁ B hml hv
  obtain ⟨rfl, hsz, hP, hKK, hD0⟩ := hv
  have hx := B.exec
  have hb := B.bytes
  have hr := B.returns
  have hts := atoms_spec (ws := wsX12_twos) B.pre
  have hown : s.vm.findClass RX12 = some m.cls := findClass_of_methodNamed B.named
  have hlocks := B.notSynchronized
  have hK := hKK.1
  have hin12 : ∀ w ∈ wsX120, w ∈ wsX12_twos := by decide +kernel
  subst hsz
  have hD := hD0.self (sz := s.heap.size)
  obtain ⟨A, hAe⟩ : ∃ A, A = va_A (wM cI b L v0) s.heap.size := ⟨_, rfl⟩
  rw [← hAe] at hD
  have hA : ∀ q : Nat, s.heap.size ≤ q → A q := fun q h => by rw [hAe]; exact Or.inr h
  have hS : va_S A s.heap s.heap [] := va_S.rf
  have hl := lv_entry ([.ref (b 0), .int x0, .int x1, .int x2]) (n := 8) (Nat.le_of_ble_eq_true rfl)
  rw [lg_entry_eq]
  generalize (lg_sl ([.ref (b 0), .int x0, .int x1, .int x2]) ++ List.replicate (8 - (lg_sl ([.ref (b 0), .int x0, .int x1, .int x2])).length) Slot.unset).toArray = ls at hl ⊢
  have hl : lv_has ls 8 [(0, .ref (b 0)), (1, .int x0), (2, .int x1), (3, .int x2)] := hl
  obtain ⟨v, hv9⟩ : ∃ v : SU, v = v0 := ⟨_, rfl⟩
  rw [← hv9] at hP hD hV
  have lp13 : ∀ (n13 : Nat) (y13_l4 y13_l5 y13_l6 : Int32) (v : SU) (H : Heap) (locs : List Loc) (ls : Array Slot), Rg 0 1 x0 → Rg (-1) 255 y13_l4 → Rg 0 12 y13_l6 → TyV v → va_P D cls (wM cI b L v) H → va_D A (wM cI b L v) → va_S A s.heap H locs → lv_has ls 8 [(0, .ref (b 0)), (1, .int x0), (2, .int x1), (3, .int x2), (4, .int y13_l4), (5, .int y13_l5), (6, .int y13_l6)] → 12 - y13_l6.toInt < (n13 : Int) → W p l e (headSpec wsX12_twos ({ frames := 3, cells := 0, slots := 0, locals := 120 })).room s m ([.ref (b 0), .int x0, .int x1, .int x2]).toArray below meth c H locs 0 0 (MQ below (QF (S := SU) D (wM cI b L v0) (wM cI b L) s.heap.size (fun r u => TyV u ∧ Rg (-2147483648) 2147483647 r ∧ True)) ([.ref (b 0), .int x0, .int x1, .int x2]).toArray s 0 0 (va_A (wM cI b L v0) s.heap.size)) (F0 m 13 ls []) := by
    intro n13
    induction n13 with
    | zero =>
      intro y13_l4 y13_l5 y13_l6 v H locs ls g13_l1 g13_l4 g13_l6 hV hP hD hS hl hm13
      exact absurd rfl (me_z g13_l6 hm13)
    | succ n13 ih13 =>
      intro y13_l4 y13_l5 y13_l6 v H locs ls g13_l1 g13_l4 g13_l6 hV hP hD hS hl hm13
      have lp28 : ∀ (n28 : Nat) (y28_l4 y28_l5 y28_l7 : Int32) (v : SU) (H : Heap) (locs : List Loc) (ls : Array Slot), Rg 0 1 x0 → Rg (-1) 255 y28_l4 → Rg 0 11 y13_l6 → Rg 1 12 y28_l7 → TyV v → va_P D cls (wM cI b L v) H → va_D A (wM cI b L v) → va_S A s.heap H locs → lv_has ls 8 [(0, .ref (b 0)), (1, .int x0), (2, .int x1), (3, .int x2), (4, .int y28_l4), (5, .int y28_l5), (6, .int y13_l6), (7, .int y28_l7)] → 12 - y28_l7.toInt < (n28 : Int) → W p l e (headSpec wsX12_twos ({ frames := 3, cells := 0, slots := 0, locals := 120 })).room s m ([.ref (b 0), .int x0, .int x1, .int x2]).toArray below meth c H locs 0 0 (MQ below (QF (S := SU) D (wM cI b L v0) (wM cI b L) s.heap.size (fun r u => TyV u ∧ Rg (-2147483648) 2147483647 r ∧ True)) ([.ref (b 0), .int x0, .int x1, .int x2]).toArray s 0 0 (va_A (wM cI b L v0) s.heap.size)) (F0 m 28 ls []) := by
        intro n28
        induction n28 with
        | zero =>
          intro y28_l4 y28_l5 y28_l7 v H locs ls g28_l1 g28_l4 g28_l6 g28_l7 hV hP hD hS hl hm28
          exact absurd rfl (me_z g28_l7 hm28)
        | succ n28 ih28 =>
          intro y28_l4 y28_l5 y28_l7 v H locs ls g28_l1 g28_l4 g28_l6 g28_l7 hV hP hD hS hl hm28
          have ct109 : ∀ (v : SU) (H : Heap) (locs : List Loc) (ls : Array Slot), Rg 0 1 x0 → Rg (-1) 255 y28_l4 → Rg 0 11 y13_l6 → Rg 1 11 y28_l7 → TyV v → va_P D cls (wM cI b L v) H → va_D A (wM cI b L v) → va_S A s.heap H locs → lv_has ls 8 [(0, .ref (b 0)), (1, .int x0), (2, .int x1), (3, .int x2), (4, .int y28_l4), (5, .int y28_l5), (6, .int y13_l6), (7, .int y28_l7)] → W p l e (headSpec wsX12_twos ({ frames := 3, cells := 0, slots := 0, locals := 120 })).room s m ([.ref (b 0), .int x0, .int x1, .int x2]).toArray below meth c H locs 0 0 (MQ below (QF (S := SU) D (wM cI b L v0) (wM cI b L) s.heap.size (fun r u => TyV u ∧ Rg (-2147483648) 2147483647 r ∧ True)) ([.ref (b 0), .int x0, .int x1, .int x2]).toArray s 0 0 (va_A (wM cI b L v0) s.heap.size)) (F0 m 109 ls []) := by
            intro v H locs ls g109_l1 g109_l4 g109_l6 g109_l7 hV hP hD hS hl
            refine lv_iload hx hb dX12_twos_109 (lv_at hl 4 rfl) ?_
            refine lv_iconst (v := (-1)) hx hb dX12_twos_111 (by decide) ?_
            refine lv_icmp_ne (tgt := 126) hx hb dX12_twos_112 (by decide) (fun c8851 => ?_) (fun c8851 => ?_)
            · have g8852 : Rg 0 255 y28_l4 := rg_ne_lo (k := (-1)) g109_l4 (by decide) c8851 (by decide)
              refine lv_iload hx hb dX12_twos_126 (lv_at hl 4 rfl) ?_
              refine lv_istore (lv' := [(4, .int y28_l4), (0, .ref (b 0)), (1, .int x0), (2, .int x1), (3, .int x2), (5, .int y28_l5), (6, .int y13_l6), (7, .int y28_l7)]) hx hb dX12_twos_128 hl (by decide) rfl (fun ls hl => ?_)
              refine wk_iincA (lv' := fun r => [(5, .int r), (4, .int y28_l4), (0, .ref (b 0)), (1, .int x0), (2, .int x1), (3, .int x2), (6, .int y13_l6), (7, .int y28_l7)]) hx hb dX12_twos_130 hl (k := 5) rfl (by decide) (fun _ => rfl) (fun r8853 ls hl => ?_)
              refine wk_iinc (lv' := fun r => [(7, .int r), (5, .int r8853), (4, .int y28_l4), (0, .ref (b 0)), (1, .int x0), (2, .int x1), (3, .int x2), (6, .int y13_l6)]) (e1 := 2) (f := 12) hx hb dX12_twos_133 hl (k := 7) rfl (by decide) g109_l7 (by decide) (fun _ => rfl) (fun r8854 ls hr8854 er8854 hl => ?_)
              refine lv_goto (tgt := 28) hx hb dX12_twos_136 (by decide) ?_
              exact ih28 y28_l4 r8853 r8854 v _ _ ls g109_l1 (show Rg (-1) 255 y28_l4 from rg_w g8852 (by decide) (by decide)) g109_l6 (show Rg 1 12 r8854 from rg_w hr8854 (by decide) (by decide)) hV hP hD hS (lv_sub (l' := [(0, .ref (b 0)), (1, .int x0), (2, .int x1), (3, .int x2), (4, .int y28_l4), (5, .int r8853), (6, .int y13_l6), (7, .int r8854)]) hl [3, 4, 5, 6, 2, 1, 7, 0] rfl) (me_up hm28 er8854 (by decide))
            · have g8855 : Rg (-1) (-1) y28_l4 := wk_eql g109_l4 (by decide : Rg (-1) (-1) ((-1) : Int32)) c8851 (by decide)
              refine lv_bipush (v := 12) hx hb dX12_twos_115 (by decide) ?_
              refine lv_iload hx hb dX12_twos_117 (lv_at hl 6 rfl) ?_
              refine wk_imul (f := 132) hx hb dX12_twos_119 (by decide : Rg 0 12 (12 : Int32)) g109_l6 (by decide) (fun r8856 hr8856 er8856 qr8856 => ?_)
              refine lv_iload hx hb dX12_twos_120 (lv_at hl 7 rfl) ?_
              refine wk_iadd (e1 := 1) (f := 143) hx hb dX12_twos_122 hr8856 g109_l7 (by decide) (fun r8857 hr8857 er8857 qr8857 => ?_)
              refine lv_goto (tgt := 128) hx hb dX12_twos_123 (by decide) ?_
              refine lv_istore (lv' := [(4, .int r8857), (0, .ref (b 0)), (1, .int x0), (2, .int x1), (3, .int x2), (5, .int y28_l5), (6, .int y13_l6), (7, .int y28_l7)]) hx hb dX12_twos_128 hl (by decide) rfl (fun ls hl => ?_)
              refine wk_iincA (lv' := fun r => [(5, .int r), (4, .int r8857), (0, .ref (b 0)), (1, .int x0), (2, .int x1), (3, .int x2), (6, .int y13_l6), (7, .int y28_l7)]) hx hb dX12_twos_130 hl (k := 5) rfl (by decide) (fun _ => rfl) (fun r8858 ls hl => ?_)
              refine wk_iinc (lv' := fun r => [(7, .int r), (5, .int r8858), (4, .int r8857), (0, .ref (b 0)), (1, .int x0), (2, .int x1), (3, .int x2), (6, .int y13_l6)]) (e1 := 2) (f := 12) hx hb dX12_twos_133 hl (k := 7) rfl (by decide) g109_l7 (by decide) (fun _ => rfl) (fun r8859 ls hr8859 er8859 hl => ?_)
              refine lv_goto (tgt := 28) hx hb dX12_twos_136 (by decide) ?_
              exact ih28 r8857 r8858 r8859 v _ _ ls g109_l1 (show Rg (-1) 255 r8857 from rg_w hr8857 (by decide) (by decide)) g109_l6 (show Rg 1 12 r8859 from rg_w hr8859 (by decide) (by decide)) hV hP hD hS (lv_sub (l' := [(0, .ref (b 0)), (1, .int x0), (2, .int x1), (3, .int x2), (4, .int r8857), (5, .int r8858), (6, .int y13_l6), (7, .int r8859)]) hl [3, 4, 5, 6, 2, 1, 7, 0] rfl) (me_up hm28 er8859 (by decide))
          refine lv_iload hx hb dX12_twos_28 (lv_at hl 7 rfl) ?_
          refine lv_aload_n hx hb dX12_twos_30 rfl (lv_at hl 0 rfl) ?_
          refine va_get (D := D) (ci := 12) (v := .int (L 0 0)) (C := RX12) (T := TX12) (N := 24) hx hb hts hin12 hown hK hP 0 rfl rfl 0 (by decide) (hts (.fieldLink RX12 63 "MissedPointsModel" "many" "I") (by decide +kernel)) (fun _ h9 => h9) rfl dX12_twos_31 ?_
          refine lv_icmp_ge (tgt := 139) hx hb dX12_twos_34 (by decide) (fun c8860 => ?_) (fun c8860 => ?_)
          · refine wk_iinc (lv' := fun r => [(6, .int r), (0, .ref (b 0)), (1, .int x0), (2, .int x1), (3, .int x2), (4, .int y28_l4), (5, .int y28_l5), (7, .int y28_l7)]) (e1 := 1) (f := 12) hx hb dX12_twos_139 hl (k := 6) rfl (by decide) g28_l6 (by decide) (fun _ => rfl) (fun r8861 ls hr8861 er8861 hl => ?_)
            refine lv_goto (tgt := 13) hx hb dX12_twos_142 (by decide) ?_
            exact ih13 y28_l4 y28_l5 r8861 v _ _ ls g28_l1 g28_l4 (show Rg 0 12 r8861 from rg_w hr8861 (by decide) (by decide)) hV hP hD hS (lv_sub (l' := [(0, .ref (b 0)), (1, .int x0), (2, .int x1), (3, .int x2), (4, .int y28_l4), (5, .int y28_l5), (6, .int r8861)]) hl [1, 2, 3, 4, 5, 6, 0] rfl) (me_up hm13 er8861 (by decide))
          · have g8862 : Rg 2 12 (L 0 0) := rg_ltr g28_l7 hL.1 (rg_nle c8860) (by decide)
            have g8863 : Rg 1 11 y28_l7 := rg_ltl g28_l7 hL.1 (rg_nle c8860) (by decide)
            refine lv_aload_n hx hb dX12_twos_37 rfl (lv_at hl 0 rfl) ?_
            refine va_get (D := D) (ci := 12) (v := .ref (b 1)) (C := RX12) (T := TX12) (N := 24) hx hb hts hin12 hown hK hP 0 rfl rfl 2 (by decide) (hts (.fieldLink RX12 13 "MissedPointsModel" "near" "[I") (by decide +kernel)) (fun _ h9 => h9) rfl dX12_twos_38 ?_
            refine lv_iload hx hb dX12_twos_41 (lv_at hl 6 rfl) ?_
            refine wk_ald hx hb hK hP 1 0 rfl rfl (rg_in g28_l6 (by decide) (by decide)) dX12_twos_43 hV.2.1 (fun r8864 hr8864 => ?_)
            refine lv_iload hx hb dX12_twos_44 (lv_at hl 7 rfl) ?_
            refine lv_ishr hx hb dX12_twos_46 ?_
            refine wk_topP (P := fun r => r = r8864 >>> (y28_l7 &&& 31)) rfl (fun r8865 qr8865 => ?_)
            refine lv_iconst (v := 1) hx hb dX12_twos_47 (by decide) ?_
            refine wk_iandr hx hb dX12_twos_48 (by decide : Rg 1 1 (1 : Int32)) (by decide) (fun r8866 hr8866 qr8866 => ?_)
            refine lv_iload_n hx hb dX12_twos_49 rfl (lv_at hl 1 rfl) ?_
            refine lv_icmp_ne (tgt := 133) hx hb dX12_twos_50 (by decide) (fun c8867 => ?_) (fun c8867 => ?_)
            · refine wk_iinc (lv' := fun r => [(7, .int r), (0, .ref (b 0)), (1, .int x0), (2, .int x1), (3, .int x2), (4, .int y28_l4), (5, .int y28_l5), (6, .int y13_l6)]) (e1 := 2) (f := 12) hx hb dX12_twos_133 hl (k := 7) rfl (by decide) g8863 (by decide) (fun _ => rfl) (fun r8868 ls hr8868 er8868 hl => ?_)
              refine lv_goto (tgt := 28) hx hb dX12_twos_136 (by decide) ?_
              exact ih28 y28_l4 y28_l5 r8868 v _ _ ls g28_l1 g28_l4 g28_l6 (show Rg 1 12 r8868 from rg_w hr8868 (by decide) (by decide)) hV hP hD hS (lv_sub (l' := [(0, .ref (b 0)), (1, .int x0), (2, .int x1), (3, .int x2), (4, .int y28_l4), (5, .int y28_l5), (6, .int y13_l6), (7, .int r8868)]) hl [1, 2, 3, 4, 5, 6, 7, 0] rfl) (me_up hm28 er8868 (by decide))
            · refine lv_iload_n hx hb dX12_twos_53 rfl (lv_at hl 1 rfl) ?_
              refine lv_iconst (v := 1) hx hb dX12_twos_54 (by decide) ?_
              refine lv_icmp_ne (tgt := 73) hx hb dX12_twos_55 (by decide) (fun c8869 => ?_) (fun c8869 => ?_)
              · have g8870 : Rg 0 0 x0 := rg_ne_hi (k := 1) g28_l1 (by decide) c8869 (by decide)
                refine lv_aload_n hx hb dX12_twos_73 rfl (lv_at hl 0 rfl) ?_
                refine va_get (D := D) (ci := 12) (v := .ref (b 2)) (C := RX12) (T := TX12) (N := 24) hx hb hts hin12 hown hK hP 0 rfl rfl 3 (by decide) (hts (.fieldLink RX12 17 "MissedPointsModel" "pairs" "[I") (by decide +kernel)) (fun _ h9 => h9) rfl dX12_twos_74 ?_
                refine lv_aload_n hx hb dX12_twos_77 rfl (lv_at hl 0 rfl) ?_
                refine wk_sv 0 (As := []) (rest := [.ref (b 2)]) ⟨hx, hb, hml, hown, hts⟩ (w_X12_all l D cI cS b L v hL hV) hKK hP (ci := 12) rfl rfl (cwV 0 hts gX12_twos_X12_all rfl rfl rfl (by decide +kernel) ⟨Nat.le_of_ble_eq_true rfl, Nat.le_of_ble_eq_true rfl⟩) rfl hl.1 rfl (Nat.le_of_ble_eq_true rfl) dX12_twos_78 ⟨Nat.le_of_ble_eq_true rfl, Nat.le_of_ble_eq_true rfl⟩ (fun r8871 hr8871 => ?_)
                refine lv_iconst (v := 1) hx hb dX12_twos_81 (by decide) ?_
                refine lv_iload hx hb dX12_twos_82 (lv_at hl 6 rfl) ?_
                refine wk_ishl1 (f := 2048) hx hb dX12_twos_84 g28_l6 (by decide) (fun r8872 hr8872 qr8872 => ?_)
                refine lv_iconst (v := 1) hx hb dX12_twos_85 (by decide) ?_
                refine lv_iload hx hb dX12_twos_86 (lv_at hl 7 rfl) ?_
                refine wk_ishl1 (f := 2048) hx hb dX12_twos_88 (show Rg 0 11 y28_l7 from rg_w g8863 (by decide) (by decide)) (by decide) (fun r8873 hr8873 qr8873 => ?_)
                refine wk_ior 12 (e1 := 1) (f := 4095) hx hb dX12_twos_89 hr8872 hr8873 (by decide) (fun r8874 hr8874 qr8874 => ?_)
                refine lv_iconst (v := (-1)) hx hb dX12_twos_90 (by decide) ?_
                refine lv_ixor hx hb dX12_twos_91 ?_
                refine wk_topP (P := fun r => r = r8874 ^^^ ((-1) : Int32)) rfl (fun r8875 qr8875 => ?_)
                refine wk_iandl hx hb dX12_twos_92 hr8871.1 (by decide) (fun r8876 hr8876 qr8876 => ?_)
                refine wk_aldA hx hb hK hP 2 0 rfl rfl (rg_in hr8876 (by decide) (by decide)) dX12_twos_93 (fun r8877 => ?_)
                refine lv_aload_n hx hb dX12_twos_94 rfl (lv_at hl 0 rfl) ?_
                refine va_get (D := D) (ci := 12) (v := .ref (b 2)) (C := RX12) (T := TX12) (N := 24) hx hb hts hin12 hown hK hP 0 rfl rfl 3 (by decide) (hts (.fieldLink RX12 17 "MissedPointsModel" "pairs" "[I") (by decide +kernel)) (fun _ h9 => h9) rfl dX12_twos_95 ?_
                refine lv_aload_n hx hb dX12_twos_98 rfl (lv_at hl 0 rfl) ?_
                refine wk_sv 0 (As := []) (rest := [.ref (b 2), .int r8877]) ⟨hx, hb, hml, hown, hts⟩ (w_X12_all l D cI cS b L v hL hV) hKK hP (ci := 12) rfl rfl (cwV 0 hts gX12_twos_X12_all rfl rfl rfl (by decide +kernel) ⟨Nat.le_of_ble_eq_true rfl, Nat.le_of_ble_eq_true rfl⟩) rfl hl.1 rfl (Nat.le_of_ble_eq_true rfl) dX12_twos_99 ⟨Nat.le_of_ble_eq_true rfl, Nat.le_of_ble_eq_true rfl⟩ (fun r8878 hr8878 => ?_)
                refine wk_aldA hx hb hK hP 2 0 rfl rfl (rg_in hr8878.1 (by decide) (by decide)) dX12_twos_102 (fun r8879 => ?_)
                refine lv_icmp_ge (tgt := 109) hx hb dX12_twos_103 (by decide) (fun c8880 => ?_) (fun c8880 => ?_)
                · exact ct109 v _ _ ls (show Rg 0 1 x0 from rg_w g8870 (by decide) (by decide)) g28_l4 g28_l6 g8863 hV hP hD hS (lv_sub (l' := [(0, .ref (b 0)), (1, .int x0), (2, .int x1), (3, .int x2), (4, .int y28_l4), (5, .int y28_l5), (6, .int y13_l6), (7, .int y28_l7)]) hl [0, 1, 2, 3, 4, 5, 6, 7] rfl)
                · refine lv_goto (tgt := 133) hx hb dX12_twos_106 (by decide) ?_
                  refine wk_iinc (lv' := fun r => [(7, .int r), (0, .ref (b 0)), (1, .int x0), (2, .int x1), (3, .int x2), (4, .int y28_l4), (5, .int y28_l5), (6, .int y13_l6)]) (e1 := 2) (f := 12) hx hb dX12_twos_133 hl (k := 7) rfl (by decide) g8863 (by decide) (fun _ => rfl) (fun r8881 ls hr8881 er8881 hl => ?_)
                  refine lv_goto (tgt := 28) hx hb dX12_twos_136 (by decide) ?_
                  exact ih28 y28_l4 y28_l5 r8881 v _ _ ls (show Rg 0 1 x0 from rg_w g8870 (by decide) (by decide)) g28_l4 g28_l6 (show Rg 1 12 r8881 from rg_w hr8881 (by decide) (by decide)) hV hP hD hS (lv_sub (l' := [(0, .ref (b 0)), (1, .int x0), (2, .int x1), (3, .int x2), (4, .int y28_l4), (5, .int y28_l5), (6, .int y13_l6), (7, .int r8881)]) hl [1, 2, 3, 4, 5, 6, 7, 0] rfl) (me_up hm28 er8881 (by decide))
              · have g8882 : Rg 1 1 x0 := wk_eql g28_l1 (by decide : Rg 1 1 (1 : Int32)) c8869 (by decide)
                refine lv_aload_n hx hb dX12_twos_58 rfl (lv_at hl 0 rfl) ?_
                refine lv_iload hx hb dX12_twos_59 (lv_at hl 6 rfl) ?_
                refine lv_iload hx hb dX12_twos_61 (lv_at hl 7 rfl) ?_
                refine wk_sv 0 (As := [.int y13_l6, .int y28_l7]) (rest := []) ⟨hx, hb, hml, hown, hts⟩ (w_X12_verdictOf l D cI cS b L v hL hV y13_l6 y28_l7 g28_l6 (show Rg 0 11 y28_l7 from rg_w g8863 (by decide) (by decide))) hKK hP (ci := 12) rfl rfl (cwV 2 hts gX12_twos_X12_verdictOf rfl rfl rfl (by decide +kernel) ⟨Nat.le_of_ble_eq_true rfl, Nat.le_of_ble_eq_true rfl⟩) rfl hl.1 rfl (Nat.le_of_ble_eq_true rfl) dX12_twos_63 ⟨Nat.le_of_ble_eq_true rfl, Nat.le_of_ble_eq_true rfl⟩ (fun r8883 hr8883 => ?_)
                refine lv_iload_n hx hb dX12_twos_66 rfl (lv_at hl 2 rfl) ?_
                refine lv_icmp_eq (tgt := 109) hx hb dX12_twos_67 (by decide) (fun c8884 => ?_) (fun c8884 => ?_)
                · have g8885 : Rg 0 2 x1 := wk_eqr hr8883.1 (rg_any x1) c8884 (by decide)
                  exact ct109 v _ _ ls (show Rg 0 1 x0 from rg_w g8882 (by decide) (by decide)) g28_l4 g28_l6 g8863 hV hP hD hS (lv_sub (l' := [(0, .ref (b 0)), (1, .int x0), (2, .int x1), (3, .int x2), (4, .int y28_l4), (5, .int y28_l5), (6, .int y13_l6), (7, .int y28_l7)]) hl [0, 1, 2, 3, 4, 5, 6, 7] rfl)
                · refine lv_goto (tgt := 133) hx hb dX12_twos_70 (by decide) ?_
                  refine wk_iinc (lv' := fun r => [(7, .int r), (0, .ref (b 0)), (1, .int x0), (2, .int x1), (3, .int x2), (4, .int y28_l4), (5, .int y28_l5), (6, .int y13_l6)]) (e1 := 2) (f := 12) hx hb dX12_twos_133 hl (k := 7) rfl (by decide) g8863 (by decide) (fun _ => rfl) (fun r8886 ls hr8886 er8886 hl => ?_)
                  refine lv_goto (tgt := 28) hx hb dX12_twos_136 (by decide) ?_
                  exact ih28 y28_l4 y28_l5 r8886 v _ _ ls (show Rg 0 1 x0 from rg_w g8882 (by decide) (by decide)) g28_l4 g28_l6 (show Rg 1 12 r8886 from rg_w hr8886 (by decide) (by decide)) hV hP hD hS (lv_sub (l' := [(0, .ref (b 0)), (1, .int x0), (2, .int x1), (3, .int x2), (4, .int y28_l4), (5, .int y28_l5), (6, .int y13_l6), (7, .int r8886)]) hl [1, 2, 3, 4, 5, 6, 7, 0] rfl) (me_up hm28 er8886 (by decide))
      refine lv_iload hx hb dX12_twos_13 (lv_at hl 6 rfl) ?_
      refine lv_aload_n hx hb dX12_twos_15 rfl (lv_at hl 0 rfl) ?_
      refine va_get (D := D) (ci := 12) (v := .int (L 0 0)) (C := RX12) (T := TX12) (N := 24) hx hb hts hin12 hown hK hP 0 rfl rfl 0 (by decide) (hts (.fieldLink RX12 63 "MissedPointsModel" "many" "I") (by decide +kernel)) (fun _ h9 => h9) rfl dX12_twos_16 ?_
      refine lv_icmp_ge (tgt := 145) hx hb dX12_twos_19 (by decide) (fun c8887 => ?_) (fun c8887 => ?_)
      · refine lv_iload_n hx hb dX12_twos_145 rfl (lv_at hl 3 rfl) ?_
        refine lv_if_ne (tgt := 154) hx hb dX12_twos_146 (by decide) (fun c8888 => ?_) (fun c8888 => ?_)
        · refine lv_iload hx hb dX12_twos_154 (lv_at hl 5 rfl) ?_
          subst hAe
          exact W.iret (v := y13_l5) hx hb hr (fun t ht hW => ⟨⟨_, v, rfl, ⟨hV, (rg_any y13_l5), trivial⟩, by rw [ht]; exact hP, hD⟩, hS.F ht⟩) hS.2.2 dX12_twos_156
        · have g8889 : Rg 0 0 x2 := wk_eql (rg_any x2) (by decide : Rg 0 0 (0 : Int32)) c8888 (by decide)
          refine lv_iload hx hb dX12_twos_149 (lv_at hl 4 rfl) ?_
          refine lv_goto (tgt := 156) hx hb dX12_twos_151 (by decide) ?_
          subst hAe
          exact W.iret (v := y13_l4) hx hb hr (fun t ht hW => ⟨⟨_, v, rfl, ⟨hV, (rg_any y13_l4), trivial⟩, by rw [ht]; exact hP, hD⟩, hS.F ht⟩) hS.2.2 dX12_twos_156
      · have g8890 : Rg 1 12 (L 0 0) := rg_ltr g13_l6 hL.1 (rg_nle c8887) (by decide)
        have g8891 : Rg 0 11 y13_l6 := rg_ltl g13_l6 hL.1 (rg_nle c8887) (by decide)
        refine lv_iload hx hb dX12_twos_22 (lv_at hl 6 rfl) ?_
        refine lv_iconst (v := 1) hx hb dX12_twos_24 (by decide) ?_
        refine wk_iadd (e1 := 1) (f := 12) hx hb dX12_twos_25 g8891 (by decide : Rg 1 1 (1 : Int32)) (by decide) (fun r8892 hr8892 er8892 qr8892 => ?_)
        refine lv_istore (lv' := [(7, .int r8892), (0, .ref (b 0)), (1, .int x0), (2, .int x1), (3, .int x2), (4, .int y13_l4), (5, .int y13_l5), (6, .int y13_l6)]) hx hb dX12_twos_26 hl (by decide) rfl (fun ls hl => ?_)
        exact lp28 12 y13_l4 y13_l5 r8892 v _ _ ls g13_l1 g13_l4 g8891 hr8892 hV hP hD hS (lv_sub (l' := [(0, .ref (b 0)), (1, .int x0), (2, .int x1), (3, .int x2), (4, .int y13_l4), (5, .int y13_l5), (6, .int y13_l6), (7, .int r8892)]) hl [1, 2, 3, 4, 5, 6, 7, 0] rfl) (me_i hr8892 (by decide))
  refine lv_aload_n hx hb dX12_twos_0 rfl (lv_at hl 0 rfl) ?_
  refine wk_qv (wM cI b L) v (As := []) (rest := []) ⟨hx, hb, hml, hown, hts⟩ (w_X12_reckons l D cI cS _ b L v hL hV) hKK hP hD hS hA 0 (ci := 12) rfl rfl (cwV 0 hts gX12_twos_X12_reckons rfl rfl rfl (by decide +kernel) ⟨Nat.le_of_ble_eq_true rfl, Nat.le_of_ble_eq_true rfl⟩) rfl hl.1 rfl (Nat.le_of_ble_eq_true rfl) dX12_twos_1 ⟨Nat.le_of_ble_eq_true rfl, Nat.le_of_ble_eq_true rfl⟩ (fun v H locs hr8893 hP hD hS => ?_)
  have hV := hr8893.1
  refine lv_iconst (v := (-1)) hx hb dX12_twos_4 (by decide) ?_
  refine lv_istore (lv' := [(4, .int (-1)), (0, .ref (b 0)), (1, .int x0), (2, .int x1), (3, .int x2)]) hx hb dX12_twos_5 hl (by decide) rfl (fun ls hl => ?_)
  refine lv_iconst (v := 0) hx hb dX12_twos_7 (by decide) ?_
  refine lv_istore (lv' := [(5, .int 0), (4, .int (-1)), (0, .ref (b 0)), (1, .int x0), (2, .int x1), (3, .int x2)]) hx hb dX12_twos_8 hl (by decide) rfl (fun ls hl => ?_)
  refine lv_iconst (v := 0) hx hb dX12_twos_10 (by decide) ?_
  refine lv_istore (lv' := [(6, .int 0), (5, .int 0), (4, .int (-1)), (0, .ref (b 0)), (1, .int x0), (2, .int x1), (3, .int x2)]) hx hb dX12_twos_11 hl (by decide) rfl (fun ls hl => ?_)
  exact lp13 13 (((-1) : Int32)) (0 : Int32) (0 : Int32) v _ _ ls px0 (by decide : Rg (-1) 255 ((-1) : Int32)) (by decide : Rg 0 12 (0 : Int32)) hV hP hD hS (lv_sub (l' := [(0, .ref (b 0)), (1, .int x0), (2, .int x1), (3, .int x2), (4, .int (-1)), (5, .int 0), (6, .int 0)]) hl [3, 4, 5, 6, 2, 1, 0] rfl) (me_i (by decide : Rg 0 12 (0 : Int32)) (by decide))
set_option maxHeartbeats 4000000 in
set_option maxRecDepth 100000 in
theorem w_X12_verdicts (l : Launch) (D : va_G) (cI cS : ClassId) (sz : Nat) (b : Nat → Nat) (L v0 : SU) (hL : TyL L) (hV : TyV v0) (x0 : Int32) : Met l yX12_verdicts wsX12_verdicts ({ frames := 4, cells := 0, slots := 0, locals := 160 }) (PQ D cI cS (wM cI b L v0) sz [.ref (b 0), .int x0]) (QF (S := SU) D (wM cI b L v0) (wM cI b L) sz (fun r u => TyV u ∧ Rg (-2147483648) 2147483647 r ∧ True)) 0 0 (va_A (wM cI b L v0) sz) := by
  refine Met.ofW (cc := cX12_verdicts) (maxL := 2) (ret := (some .int)) (by decide) rfl ?_
  intro p e s m args below meth c s₁ B hml hv
  obtain ⟨rfl, hsz, hP, hKK, hD0⟩ := hv
  have hx := B.exec
  have hb := B.bytes
  have hr := B.returns
  have hts := atoms_spec (ws := wsX12_verdicts) B.pre
  have hown : s.vm.findClass RX12 = some m.cls := findClass_of_methodNamed B.named
  have hlocks := B.notSynchronized
  have hK := hKK.1
  subst hsz
  have hD := hD0.self (sz := s.heap.size)
  obtain ⟨A, hAe⟩ : ∃ A, A = va_A (wM cI b L v0) s.heap.size := ⟨_, rfl⟩
  rw [← hAe] at hD
  have hA : ∀ q : Nat, s.heap.size ≤ q → A q := fun q h => by rw [hAe]; exact Or.inr h
  have hS : va_S A s.heap s.heap [] := va_S.rf
  have hl := lv_entry ([.ref (b 0), .int x0]) (n := 2) (Nat.le_of_ble_eq_true rfl)
  rw [lg_entry_eq]
  generalize (lg_sl ([.ref (b 0), .int x0]) ++ List.replicate (2 - (lg_sl ([.ref (b 0), .int x0])).length) Slot.unset).toArray = ls at hl ⊢
  have hl : lv_has ls 2 [(0, .ref (b 0)), (1, .int x0)] := hl
  obtain ⟨v, hv9⟩ : ∃ v : SU, v = v0 := ⟨_, rfl⟩
  rw [← hv9] at hP hD hV
  refine lv_iload_n hx hb dX12_verdicts_0 rfl (lv_at hl 1 rfl) ?_
  refine lv_iconst (v := 0) hx hb dX12_verdicts_1 (by decide) ?_
  refine lv_iconst (v := 2) hx hb dX12_verdicts_2 (by decide) ?_
  refine lz_ss (As := [.int x0, .int 0, .int 2]) (rest := []) ⟨hx, hb, hml, hown, hts⟩ (w_X12_in l D cI cS x0 (0 : Int32) (2 : Int32)) hKK (hP.sub (ws' := []) [] rfl) (va_cwS 3 hts gX12_verdicts_X12_in rfl rfl rfl (by decide +kernel) ⟨Nat.le_of_ble_eq_true rfl, Nat.le_of_ble_eq_true rfl⟩) rfl hl.1 rfl (Nat.le_of_ble_eq_true rfl) dX12_verdicts_3 ⟨Nat.le_of_ble_eq_true rfl, Nat.le_of_ble_eq_true rfl⟩ (fun r8900 hr8900 => ?_)
  refine lv_if_eq (tgt := 19) hx hb dX12_verdicts_6 (by decide) (fun c8901 => ?_) (fun c8901 => ?_)
  · have g8902 : Rg 0 0 r8900 := wk_eql hr8900.1 (by decide : Rg 0 0 (0 : Int32)) c8901 (by decide)
    refine lv_bipush (v := (-2)) hx hb dX12_verdicts_19 (by decide) ?_
    subst hAe
    exact W.iret (v := (-2)) hx hb hr (fun t ht hW => ⟨⟨_, v, rfl, ⟨hV, (by decide : Rg (-2147483648) 2147483647 ((-2) : Int32)), trivial⟩, by rw [ht]; exact hP, hD⟩, hS.F ht⟩) hS.2.2 dX12_verdicts_21
  · have g8903 : Rg 0 2 x0 := wk_in3 (rg_any x0) (by decide : Rg 0 0 (0 : Int32)) (by decide : Rg 2 2 (2 : Int32)) (hr8900.2 c8901) (by decide)
    have g8904 : Rg 1 1 r8900 := rg_ne_lo (k := 0) hr8900.1 (by decide) c8901 (by decide)
    refine lv_aload_n hx hb dX12_verdicts_9 rfl (lv_at hl 0 rfl) ?_
    refine lv_iconst (v := 1) hx hb dX12_verdicts_10 (by decide) ?_
    refine lv_iload_n hx hb dX12_verdicts_11 rfl (lv_at hl 1 rfl) ?_
    refine lv_iconst (v := 1) hx hb dX12_verdicts_12 (by decide) ?_
    refine wk_qi (wM cI b L) v (As := [.int 1, .int x0, .int 1]) (rest := []) ⟨hx, hb, hml, hown, hts⟩ (w_X12_twos l D cI cS _ b L v hL hV (1 : Int32) x0 (1 : Int32) (by decide : Rg 0 1 (1 : Int32))) hKK hP hD hS hA 0 (ci := 12) rfl rfl (cwV 3 hts gX12_verdicts_X12_twos rfl rfl rfl (by decide +kernel) ⟨Nat.le_of_ble_eq_true rfl, Nat.le_of_ble_eq_true rfl⟩) rfl hl.1 rfl (Nat.le_of_ble_eq_true rfl) dX12_verdicts_13 ⟨Nat.le_of_ble_eq_true rfl, Nat.le_of_ble_eq_true rfl⟩ (fun r8905 v H locs hr8905 hP hD hS => ?_)
    have hV := hr8905.1
    refine lv_goto (tgt := 21) hx hb dX12_verdicts_16 (by decide) ?_
    subst hAe
    exact W.iret (v := r8905) hx hb hr (fun t ht hW => ⟨⟨_, v, rfl, ⟨hV, hr8905.2.1, trivial⟩, by rw [ht]; exact hP, hD⟩, hS.F ht⟩) hS.2.2 dX12_verdicts_21
set_option maxRecDepth 20000 in
theorem ggX12_without_X12_all : GoodIn wsX12_without wsX12_all := goodIn_r _ [20, 1, 27, 28, 29, 30, 31, 32, 33, 34, 35, 36, 37, 38, 39, 40, 41, 42, 43, 44, 45, 46, 47, 48, 49, 50] (by decide +kernel) (by decide +kernel)
set_option maxRecDepth 20000 in
theorem gX12_without_X12_all : GoodIn wsX12_without (wsV RX12 70 RX12 yX12_all wsX12_all) := goodIn_app (goodIn_of _ (by decide +kernel)) ggX12_without_X12_all
set_option maxRecDepth 20000 in
theorem ggX12_without_X12_reckons : GoodIn wsX12_without wsX12_reckons := goodIn_r _ [14, 15, 2, 1, 16, 17, 18, 19, 6, 20, 21, 22, 23, 24, 25, 26, 27, 28, 29, 30, 31, 32, 33, 34, 35, 36, 37, 38, 39, 40, 41, 42, 43, 44, 45, 46, 47, 48, 49, 50] (by decide +kernel) (by decide +kernel)
set_option maxRecDepth 20000 in
theorem gX12_without_X12_reckons : GoodIn wsX12_without (wsV RX12 107 RX12 yX12_reckons wsX12_reckons) := goodIn_app (goodIn_of _ (by decide +kernel)) ggX12_without_X12_reckons
theorem dX12_without_11 : decode cX12_without 11 = .ok (.aload_n 0, 1) := by decide +kernel
theorem dX12_without_12 : decode cX12_without 12 = .ok (.invokevirtual 107, 3) := by decide +kernel
theorem dX12_without_15 : decode cX12_without 15 = .ok (.aload_n 0, 1) := by decide +kernel
theorem dX12_without_16 : decode cX12_without 16 = .ok (.getfield 63, 3) := by decide +kernel
theorem dX12_without_19 : decode cX12_without 19 = .ok (.iconst 1, 1) := by decide +kernel
theorem dX12_without_20 : decode cX12_without 20 = .ok (.isub, 1) := by decide +kernel
theorem dX12_without_21 : decode cX12_without 21 = .ok (.iconst 2, 1) := by decide +kernel
theorem dX12_without_22 : decode cX12_without 22 = .ok (.aload_n 0, 1) := by decide +kernel
theorem dX12_without_23 : decode cX12_without 23 = .ok (.getfield 17, 3) := by decide +kernel
theorem dX12_without_26 : decode cX12_without 26 = .ok (.aload_n 0, 1) := by decide +kernel
theorem dX12_without_27 : decode cX12_without 27 = .ok (.invokevirtual 70, 3) := by decide +kernel
theorem dX12_without_30 : decode cX12_without 30 = .ok (.iconst 1, 1) := by decide +kernel
theorem dX12_without_31 : decode cX12_without 31 = .ok (.iload_n 1, 1) := by decide +kernel
theorem dX12_without_32 : decode cX12_without 32 = .ok (.ishl, 1) := by decide +kernel
theorem dX12_without_33 : decode cX12_without 33 = .ok (.iconst (-1), 1) := by decide +kernel
theorem dX12_without_34 : decode cX12_without 34 = .ok (.ixor, 1) := by decide +kernel
theorem dX12_without_35 : decode cX12_without 35 = .ok (.iand, 1) := by decide +kernel
theorem dX12_without_36 : decode cX12_without 36 = .ok (.iaload, 1) := by decide +kernel
theorem dX12_without_37 : decode cX12_without 37 = .ok (.imul, 1) := by decide +kernel
theorem dX12_without_38 : decode cX12_without 38 = .ok (.isub, 1) := by decide +kernel
theorem dX12_without_39 : decode cX12_without 39 = .ok (.ireturn, 1) := by decide +kernel
set_option maxHeartbeats 4000000 in
set_option maxRecDepth 100000 in
theorem w_X12_without (l : Launch) (D : va_G) (cI cS : ClassId) (sz : Nat) (b : Nat → Nat) (L v0 : SU) (hL : TyL L) (hV : TyV v0) (x0 : Int32) : Met l yX12_without wsX12_without ({ frames := 3, cells := 0, slots := 0, locals := 120 }) (PQ D cI cS (wM cI b L v0) sz [.ref (b 0), .int x0]) (QF (S := SU) D (wM cI b L v0) (wM cI b L) sz (fun r u => TyV u ∧ Rg (-2147483648) 2147483647 r ∧ True)) 0 0 (va_A (wM cI b L v0) sz) := by
  refine Met.ofW (cc := cX12_without) (maxL := 2) (ret := (some .int)) (by decide) rfl ?_
  intro p e s m args below meth c s₁ B hml hv
  obtain ⟨rfl, hsz, hP, hKK, hD0⟩ := hv
  have hx := B.exec
  have hb := B.bytes
  have hr := B.returns
  have hts := atoms_spec (ws := wsX12_without) B.pre
  have hown : s.vm.findClass RX12 = some m.cls := findClass_of_methodNamed B.named
  have hlocks := B.notSynchronized
  have hK := hKK.1
  have hin12 : ∀ w ∈ wsX120, w ∈ wsX12_without := by decide +kernel
  subst hsz
  have hD := hD0.self (sz := s.heap.size)
  obtain ⟨A, hAe⟩ : ∃ A, A = va_A (wM cI b L v0) s.heap.size := ⟨_, rfl⟩
  rw [← hAe] at hD
  have hA : ∀ q : Nat, s.heap.size ≤ q → A q := fun q h => by rw [hAe]; exact Or.inr h
  have hS : va_S A s.heap s.heap [] := va_S.rf
  have hl := lv_entry ([.ref (b 0), .int x0]) (n := 2) (Nat.le_of_ble_eq_true rfl)
  rw [lg_entry_eq]
  generalize (lg_sl ([.ref (b 0), .int x0]) ++ List.replicate (2 - (lg_sl ([.ref (b 0), .int x0])).length) Slot.unset).toArray = ls at hl ⊢
  have hl : lv_has ls 2 [(0, .ref (b 0)), (1, .int x0)] := hl
  obtain ⟨v, hv9⟩ : ∃ v : SU, v = v0 := ⟨_, rfl⟩
  rw [← hv9] at hP hD hV
  refine lv_aload_n hx hb dX12_without_0 rfl (lv_at hl 0 rfl) ?_
  refine lv_iload_n hx hb dX12_without_1 rfl (lv_at hl 1 rfl) ?_
  refine wk_sv 0 (As := [.int x0]) (rest := []) ⟨hx, hb, hml, hown, hts⟩ (w_X12_isPoint l D cI cS b L v hL hV x0) hKK hP (ci := 12) rfl rfl (cwV 1 hts gX12_without_X12_isPoint rfl rfl rfl (by decide +kernel) ⟨Nat.le_of_ble_eq_true rfl, Nat.le_of_ble_eq_true rfl⟩) rfl hl.1 rfl (Nat.le_of_ble_eq_true rfl) dX12_without_2 ⟨Nat.le_of_ble_eq_true rfl, Nat.le_of_ble_eq_true rfl⟩ (fun r8920 hr8920 => ?_)
  refine lv_if_ne (tgt := 11) hx hb dX12_without_5 (by decide) (fun c8921 => ?_) (fun c8921 => ?_)
  · have g8922 : Rg 0 11 x0 := (hr8920.2 c8921)
    have g8923 : Rg 1 1 r8920 := rg_ne_lo (k := 0) hr8920.1 (by decide) c8921 (by decide)
    refine lv_aload_n hx hb dX12_without_11 rfl (lv_at hl 0 rfl) ?_
    refine wk_qv (wM cI b L) v (As := []) (rest := []) ⟨hx, hb, hml, hown, hts⟩ (w_X12_reckons l D cI cS _ b L v hL hV) hKK hP hD hS hA 0 (ci := 12) rfl rfl (cwV 0 hts gX12_without_X12_reckons rfl rfl rfl (by decide +kernel) ⟨Nat.le_of_ble_eq_true rfl, Nat.le_of_ble_eq_true rfl⟩) rfl hl.1 rfl (Nat.le_of_ble_eq_true rfl) dX12_without_12 ⟨Nat.le_of_ble_eq_true rfl, Nat.le_of_ble_eq_true rfl⟩ (fun v H locs hr8924 hP hD hS => ?_)
    have hV := hr8924.1
    refine lv_aload_n hx hb dX12_without_15 rfl (lv_at hl 0 rfl) ?_
    refine va_get (D := D) (ci := 12) (v := .int (L 0 0)) (C := RX12) (T := TX12) (N := 24) hx hb hts hin12 hown hK hP 0 rfl rfl 0 (by decide) (hts (.fieldLink RX12 63 "MissedPointsModel" "many" "I") (by decide +kernel)) (fun _ h9 => h9) rfl dX12_without_16 ?_
    refine lv_iconst (v := 1) hx hb dX12_without_19 (by decide) ?_
    refine wk_isub (e1 := (-1)) (f := 11) hx hb dX12_without_20 hL.1 (by decide : Rg 1 1 (1 : Int32)) (by decide) (fun r8925 hr8925 er8925 qr8925 => ?_)
    refine lv_iconst (v := 2) hx hb dX12_without_21 (by decide) ?_
    refine lv_aload_n hx hb dX12_without_22 rfl (lv_at hl 0 rfl) ?_
    refine va_get (D := D) (ci := 12) (v := .ref (b 2)) (C := RX12) (T := TX12) (N := 24) hx hb hts hin12 hown hK hP 0 rfl rfl 3 (by decide) (hts (.fieldLink RX12 17 "MissedPointsModel" "pairs" "[I") (by decide +kernel)) (fun _ h9 => h9) rfl dX12_without_23 ?_
    refine lv_aload_n hx hb dX12_without_26 rfl (lv_at hl 0 rfl) ?_
    refine wk_sv 0 (As := []) (rest := [.ref (b 2), .int 2, .int r8925]) ⟨hx, hb, hml, hown, hts⟩ (w_X12_all l D cI cS b L v hL hV) hKK hP (ci := 12) rfl rfl (cwV 0 hts gX12_without_X12_all rfl rfl rfl (by decide +kernel) ⟨Nat.le_of_ble_eq_true rfl, Nat.le_of_ble_eq_true rfl⟩) rfl hl.1 rfl (Nat.le_of_ble_eq_true rfl) dX12_without_27 ⟨Nat.le_of_ble_eq_true rfl, Nat.le_of_ble_eq_true rfl⟩ (fun r8926 hr8926 => ?_)
    refine lv_iconst (v := 1) hx hb dX12_without_30 (by decide) ?_
    refine lv_iload_n hx hb dX12_without_31 rfl (lv_at hl 1 rfl) ?_
    refine wk_ishl1 (f := 2048) hx hb dX12_without_32 g8922 (by decide) (fun r8927 hr8927 qr8927 => ?_)
    refine lv_iconst (v := (-1)) hx hb dX12_without_33 (by decide) ?_
    refine lv_ixor hx hb dX12_without_34 ?_
    refine wk_topP (P := fun r => r = r8927 ^^^ ((-1) : Int32)) rfl (fun r8928 qr8928 => ?_)
    refine wk_iandl hx hb dX12_without_35 hr8926.1 (by decide) (fun r8929 hr8929 qr8929 => ?_)
    refine wk_aldA hx hb hK hP 2 0 rfl rfl (rg_in hr8929 (by decide) (by decide)) dX12_without_36 (fun r8930 => ?_)
    refine lv_imul hx hb dX12_without_37 ?_
    refine wk_topP (P := fun r => r = (2 : Int32) * r8930) rfl (fun r8931 qr8931 => ?_)
    refine lv_isub hx hb dX12_without_38 ?_
    refine wk_topP (P := fun r => r = r8925 - r8931) rfl (fun r8932 qr8932 => ?_)
    subst hAe
    exact W.iret (v := r8932) hx hb hr (fun t ht hW => ⟨⟨_, v, rfl, ⟨hV, (rg_any r8932), trivial⟩, by rw [ht]; exact hP, hD⟩, hS.F ht⟩) hS.2.2 dX12_without_39
  · have g8933 : Rg 0 0 r8920 := wk_eql hr8920.1 (by decide : Rg 0 0 (0 : Int32)) c8921 (by decide)
    refine lv_bipush (v := (-2)) hx hb dX12_without_8 (by decide) ?_
    subst hAe
    exact W.iret (v := (-2)) hx hb hr (fun t ht hW => ⟨⟨_, v, rfl, ⟨hV, (by decide : Rg (-2147483648) 2147483647 ((-2) : Int32)), trivial⟩, by rw [ht]; exact hP, hD⟩, hS.F ht⟩) hS.2.2 dX12_without_10
set_option maxHeartbeats 4000000 in
set_option maxRecDepth 100000 in
theorem w_X12_mends (l : Launch) (D : va_G) (cI cS : ClassId) (sz : Nat) (b : Nat → Nat) (L v0 : SU) (hL : TyL L) (hV : TyV v0) (x0 : Int32) : Met l yX12_mends wsX12_mends ({ frames := 4, cells := 0, slots := 0, locals := 160 }) (PQ D cI cS (wM cI b L v0) sz [.ref (b 0), .int x0]) (QF (S := SU) D (wM cI b L v0) (wM cI b L) sz (fun r u => TyV u ∧ Rg (-2147483648) 2147483647 r ∧ True)) 0 0 (va_A (wM cI b L v0) sz) := by
  refine Met.ofW (cc := cX12_mends) (maxL := 2) (ret := (some .int)) (by decide) rfl ?_
  intro p e s m args below meth c s₁ B hml hv
  obtain ⟨rfl, hsz, hP, hKK, hD0⟩ := hv
  have hx := B.exec
  have hb := B.bytes
  have hr := B.returns
  have hts := atoms_spec (ws := wsX12_mends) B.pre
  have hown : s.vm.findClass RX12 = some m.cls := findClass_of_methodNamed B.named
  have hlocks := B.notSynchronized
  have hK := hKK.1
  subst hsz
  have hD := hD0.self (sz := s.heap.size)
  obtain ⟨A, hAe⟩ : ∃ A, A = va_A (wM cI b L v0) s.heap.size := ⟨_, rfl⟩
  rw [← hAe] at hD
  have hA : ∀ q : Nat, s.heap.size ≤ q → A q := fun q h => by rw [hAe]; exact Or.inr h
  have hS : va_S A s.heap s.heap [] := va_S.rf
  have hl := lv_entry ([.ref (b 0), .int x0]) (n := 2) (Nat.le_of_ble_eq_true rfl)
  rw [lg_entry_eq]
  generalize (lg_sl ([.ref (b 0), .int x0]) ++ List.replicate (2 - (lg_sl ([.ref (b 0), .int x0])).length) Slot.unset).toArray = ls at hl ⊢
  have hl : lv_has ls 2 [(0, .ref (b 0)), (1, .int x0)] := hl
  obtain ⟨v, hv9⟩ : ∃ v : SU, v = v0 := ⟨_, rfl⟩
  rw [← hv9] at hP hD hV
  refine lv_iload_n hx hb dX12_mends_0 rfl (lv_at hl 1 rfl) ?_
  refine lv_iconst (v := 0) hx hb dX12_mends_1 (by decide) ?_
  refine lv_iconst (v := 1) hx hb dX12_mends_2 (by decide) ?_
  refine lz_ss (As := [.int x0, .int 0, .int 1]) (rest := []) ⟨hx, hb, hml, hown, hts⟩ (w_X12_in l D cI cS x0 (0 : Int32) (1 : Int32)) hKK (hP.sub (ws' := []) [] rfl) (va_cwS 3 hts gX12_mends_X12_in rfl rfl rfl (by decide +kernel) ⟨Nat.le_of_ble_eq_true rfl, Nat.le_of_ble_eq_true rfl⟩) rfl hl.1 rfl (Nat.le_of_ble_eq_true rfl) dX12_mends_3 ⟨Nat.le_of_ble_eq_true rfl, Nat.le_of_ble_eq_true rfl⟩ (fun r8940 hr8940 => ?_)
  refine lv_if_eq (tgt := 19) hx hb dX12_mends_6 (by decide) (fun c8941 => ?_) (fun c8941 => ?_)
  · have g8942 : Rg 0 0 r8940 := wk_eql hr8940.1 (by decide : Rg 0 0 (0 : Int32)) c8941 (by decide)
    refine lv_bipush (v := (-2)) hx hb dX12_mends_19 (by decide) ?_
    subst hAe
    exact W.iret (v := (-2)) hx hb hr (fun t ht hW => ⟨⟨_, v, rfl, ⟨hV, (by decide : Rg (-2147483648) 2147483647 ((-2) : Int32)), trivial⟩, by rw [ht]; exact hP, hD⟩, hS.F ht⟩) hS.2.2 dX12_mends_21
  · have g8943 : Rg 0 1 x0 := wk_in3 (rg_any x0) (by decide : Rg 0 0 (0 : Int32)) (by decide : Rg 1 1 (1 : Int32)) (hr8940.2 c8941) (by decide)
    have g8944 : Rg 1 1 r8940 := rg_ne_lo (k := 0) hr8940.1 (by decide) c8941 (by decide)
    refine lv_aload_n hx hb dX12_mends_9 rfl (lv_at hl 0 rfl) ?_
    refine lv_iconst (v := 0) hx hb dX12_mends_10 (by decide) ?_
    refine lv_iconst (v := 0) hx hb dX12_mends_11 (by decide) ?_
    refine lv_iload_n hx hb dX12_mends_12 rfl (lv_at hl 1 rfl) ?_
    refine wk_qi (wM cI b L) v (As := [.int 0, .int 0, .int x0]) (rest := []) ⟨hx, hb, hml, hown, hts⟩ (w_X12_twos l D cI cS _ b L v hL hV (0 : Int32) (0 : Int32) x0 (by decide : Rg 0 1 (0 : Int32))) hKK hP hD hS hA 0 (ci := 12) rfl rfl (cwV 3 hts gX12_mends_X12_twos rfl rfl rfl (by decide +kernel) ⟨Nat.le_of_ble_eq_true rfl, Nat.le_of_ble_eq_true rfl⟩) rfl hl.1 rfl (Nat.le_of_ble_eq_true rfl) dX12_mends_13 ⟨Nat.le_of_ble_eq_true rfl, Nat.le_of_ble_eq_true rfl⟩ (fun r8945 v H locs hr8945 hP hD hS => ?_)
    have hV := hr8945.1
    refine lv_goto (tgt := 21) hx hb dX12_mends_16 (by decide) ?_
    subst hAe
    exact W.iret (v := r8945) hx hb hr (fun t ht hW => ⟨⟨_, v, rfl, ⟨hV, hr8945.2.1, trivial⟩, by rw [ht]; exact hP, hD⟩, hS.F ht⟩) hS.2.2 dX12_mends_21
set_option maxHeartbeats 4000000 in
set_option maxRecDepth 100000 in
theorem w_X12_breaks (l : Launch) (D : va_G) (cI cS : ClassId) (sz : Nat) (b : Nat → Nat) (L v0 : SU) (hL : TyL L) (hV : TyV v0) (x0 : Int32) : Met l yX12_breaks wsX12_breaks ({ frames := 4, cells := 0, slots := 0, locals := 160 }) (PQ D cI cS (wM cI b L v0) sz [.ref (b 0), .int x0]) (QF (S := SU) D (wM cI b L v0) (wM cI b L) sz (fun r u => TyV u ∧ Rg (-2147483648) 2147483647 r ∧ True)) 0 0 (va_A (wM cI b L v0) sz) := by
  refine Met.ofW (cc := cX12_breaks) (maxL := 2) (ret := (some .int)) (by decide) rfl ?_
  intro p e s m args below meth c s₁ B hml hv
  obtain ⟨rfl, hsz, hP, hKK, hD0⟩ := hv
  have hx := B.exec
  have hb := B.bytes
  have hr := B.returns
  have hts := atoms_spec (ws := wsX12_breaks) B.pre
  have hown : s.vm.findClass RX12 = some m.cls := findClass_of_methodNamed B.named
  have hlocks := B.notSynchronized
  have hK := hKK.1
  subst hsz
  have hD := hD0.self (sz := s.heap.size)
  obtain ⟨A, hAe⟩ : ∃ A, A = va_A (wM cI b L v0) s.heap.size := ⟨_, rfl⟩
  rw [← hAe] at hD
  have hA : ∀ q : Nat, s.heap.size ≤ q → A q := fun q h => by rw [hAe]; exact Or.inr h
  have hS : va_S A s.heap s.heap [] := va_S.rf
  have hl := lv_entry ([.ref (b 0), .int x0]) (n := 2) (Nat.le_of_ble_eq_true rfl)
  rw [lg_entry_eq]
  generalize (lg_sl ([.ref (b 0), .int x0]) ++ List.replicate (2 - (lg_sl ([.ref (b 0), .int x0])).length) Slot.unset).toArray = ls at hl ⊢
  have hl : lv_has ls 2 [(0, .ref (b 0)), (1, .int x0)] := hl
  obtain ⟨v, hv9⟩ : ∃ v : SU, v = v0 := ⟨_, rfl⟩
  rw [← hv9] at hP hD hV
  refine lv_iload_n hx hb dX12_breaks_0 rfl (lv_at hl 1 rfl) ?_
  refine lv_iconst (v := 0) hx hb dX12_breaks_1 (by decide) ?_
  refine lv_iconst (v := 1) hx hb dX12_breaks_2 (by decide) ?_
  refine lz_ss (As := [.int x0, .int 0, .int 1]) (rest := []) ⟨hx, hb, hml, hown, hts⟩ (w_X12_in l D cI cS x0 (0 : Int32) (1 : Int32)) hKK (hP.sub (ws' := []) [] rfl) (va_cwS 3 hts gX12_breaks_X12_in rfl rfl rfl (by decide +kernel) ⟨Nat.le_of_ble_eq_true rfl, Nat.le_of_ble_eq_true rfl⟩) rfl hl.1 rfl (Nat.le_of_ble_eq_true rfl) dX12_breaks_3 ⟨Nat.le_of_ble_eq_true rfl, Nat.le_of_ble_eq_true rfl⟩ (fun r8952 hr8952 => ?_)
  refine lv_if_eq (tgt := 19) hx hb dX12_breaks_6 (by decide) (fun c8953 => ?_) (fun c8953 => ?_)
  · have g8954 : Rg 0 0 r8952 := wk_eql hr8952.1 (by decide : Rg 0 0 (0 : Int32)) c8953 (by decide)
    refine lv_bipush (v := (-2)) hx hb dX12_breaks_19 (by decide) ?_
    subst hAe
    exact W.iret (v := (-2)) hx hb hr (fun t ht hW => ⟨⟨_, v, rfl, ⟨hV, (by decide : Rg (-2147483648) 2147483647 ((-2) : Int32)), trivial⟩, by rw [ht]; exact hP, hD⟩, hS.F ht⟩) hS.2.2 dX12_breaks_21
  · have g8955 : Rg 0 1 x0 := wk_in3 (rg_any x0) (by decide : Rg 0 0 (0 : Int32)) (by decide : Rg 1 1 (1 : Int32)) (hr8952.2 c8953) (by decide)
    have g8956 : Rg 1 1 r8952 := rg_ne_lo (k := 0) hr8952.1 (by decide) c8953 (by decide)
    refine lv_aload_n hx hb dX12_breaks_9 rfl (lv_at hl 0 rfl) ?_
    refine lv_iconst (v := 1) hx hb dX12_breaks_10 (by decide) ?_
    refine lv_iconst (v := 2) hx hb dX12_breaks_11 (by decide) ?_
    refine lv_iload_n hx hb dX12_breaks_12 rfl (lv_at hl 1 rfl) ?_
    refine wk_qi (wM cI b L) v (As := [.int 1, .int 2, .int x0]) (rest := []) ⟨hx, hb, hml, hown, hts⟩ (w_X12_twos l D cI cS _ b L v hL hV (1 : Int32) (2 : Int32) x0 (by decide : Rg 0 1 (1 : Int32))) hKK hP hD hS hA 0 (ci := 12) rfl rfl (cwV 3 hts gX12_breaks_X12_twos rfl rfl rfl (by decide +kernel) ⟨Nat.le_of_ble_eq_true rfl, Nat.le_of_ble_eq_true rfl⟩) rfl hl.1 rfl (Nat.le_of_ble_eq_true rfl) dX12_breaks_13 ⟨Nat.le_of_ble_eq_true rfl, Nat.le_of_ble_eq_true rfl⟩ (fun r8957 v H locs hr8957 hP hD hS => ?_)
    have hV := hr8957.1
    refine lv_goto (tgt := 21) hx hb dX12_breaks_16 (by decide) ?_
    subst hAe
    exact W.iret (v := r8957) hx hb hr (fun t ht hW => ⟨⟨_, v, rfl, ⟨hV, hr8957.2.1, trivial⟩, by rw [ht]; exact hP, hD⟩, hS.F ht⟩) hS.2.2 dX12_breaks_21
set_option maxRecDepth 20000 in
theorem ggX12_wrongPairing_X12_has : GoodIn wsX12_wrongPairing wsX12_has := goodIn_r _ [20] (by decide +kernel) (by decide +kernel)
set_option maxRecDepth 20000 in
theorem gX12_wrongPairing_X12_has : GoodIn wsX12_wrongPairing (va_wsS RX12 59 yX12_has wsX12_has) := goodIn_app (goodIn_of _ (by decide +kernel)) ggX12_wrongPairing_X12_has
set_option maxRecDepth 20000 in
theorem ggX12_wrongPairing_X12_isPoint : GoodIn wsX12_wrongPairing wsX12_isPoint := goodIn_r _ [17, 3, 11, 12, 9, 13, 21, 22, 23, 24, 25, 26, 27, 28, 29, 30, 31, 32, 33, 34, 35, 36, 37, 38, 39, 40, 41, 42, 43, 44] (by decide +kernel) (by decide +kernel)
set_option maxRecDepth 20000 in
theorem gX12_wrongPairing_X12_isPoint : GoodIn wsX12_wrongPairing (wsV RX12 74 RX12 yX12_isPoint wsX12_isPoint) := goodIn_app (goodIn_of _ (by decide +kernel)) ggX12_wrongPairing_X12_isPoint
theorem dX12_wrongPairing_102 : decode cX12_wrongPairing 102 = .ok (.bipush (-3), 2) := by decide +kernel
theorem dX12_wrongPairing_104 : decode cX12_wrongPairing 104 = .ok (.ireturn, 1) := by decide +kernel
theorem dX12_wrongPairing_105 : decode cX12_wrongPairing 105 = .ok (.aload_n 0, 1) := by decide +kernel
theorem dX12_wrongPairing_106 : decode cX12_wrongPairing 106 = .ok (.getfield 26, 3) := by decide +kernel
theorem dX12_wrongPairing_109 : decode cX12_wrongPairing 109 = .ok (.iload_n 2, 1) := by decide +kernel
theorem dX12_wrongPairing_110 : decode cX12_wrongPairing 110 = .ok (.iload_n 3, 1) := by decide +kernel
theorem dX12_wrongPairing_111 : decode cX12_wrongPairing 111 = .ok (.iastore, 1) := by decide +kernel
theorem dX12_wrongPairing_112 : decode cX12_wrongPairing 112 = .ok (.iinc 2 1, 3) := by decide +kernel
theorem dX12_wrongPairing_115 : decode cX12_wrongPairing 115 = .ok (.goto (-74), 3) := by decide +kernel
theorem dX12_wrongPairing_118 : decode cX12_wrongPairing 118 = .ok (.iconst 0, 1) := by decide +kernel
theorem dX12_wrongPairing_119 : decode cX12_wrongPairing 119 = .ok (.ireturn, 1) := by decide +kernel
theorem dX12_wrongPairing_23 : decode cX12_wrongPairing 23 = .ok (.aload_n 0, 1) := by decide +kernel
theorem dX12_wrongPairing_24 : decode cX12_wrongPairing 24 = .ok (.getfield 41, 3) := by decide +kernel
theorem dX12_wrongPairing_27 : decode cX12_wrongPairing 27 = .ok (.iload_n 1, 1) := by decide +kernel
theorem dX12_wrongPairing_28 : decode cX12_wrongPairing 28 = .ok (.iaload, 1) := by decide +kernel
theorem dX12_wrongPairing_29 : decode cX12_wrongPairing 29 = .ok (.aload_n 0, 1) := by decide +kernel
theorem dX12_wrongPairing_30 : decode cX12_wrongPairing 30 = .ok (.getfield 63, 3) := by decide +kernel
theorem dX12_wrongPairing_33 : decode cX12_wrongPairing 33 = .ok (.if_icmp .eq 6, 3) := by decide +kernel
theorem dX12_wrongPairing_36 : decode cX12_wrongPairing 36 = .ok (.bipush (-3), 2) := by decide +kernel
theorem dX12_wrongPairing_38 : decode cX12_wrongPairing 38 = .ok (.ireturn, 1) := by decide +kernel
theorem dX12_wrongPairing_39 : decode cX12_wrongPairing 39 = .ok (.iconst 0, 1) := by decide +kernel
theorem dX12_wrongPairing_40 : decode cX12_wrongPairing 40 = .ok (.istore_n 2, 1) := by decide +kernel
theorem dX12_wrongPairing_41 : decode cX12_wrongPairing 41 = .ok (.iload_n 2, 1) := by decide +kernel
theorem dX12_wrongPairing_42 : decode cX12_wrongPairing 42 = .ok (.aload_n 0, 1) := by decide +kernel
theorem dX12_wrongPairing_43 : decode cX12_wrongPairing 43 = .ok (.getfield 63, 3) := by decide +kernel
theorem dX12_wrongPairing_46 : decode cX12_wrongPairing 46 = .ok (.if_icmp .ge 72, 3) := by decide +kernel
theorem dX12_wrongPairing_49 : decode cX12_wrongPairing 49 = .ok (.aload_n 0, 1) := by decide +kernel
theorem dX12_wrongPairing_50 : decode cX12_wrongPairing 50 = .ok (.getfield 44, 3) := by decide +kernel
theorem dX12_wrongPairing_53 : decode cX12_wrongPairing 53 = .ok (.bipush 40, 2) := by decide +kernel
theorem dX12_wrongPairing_55 : decode cX12_wrongPairing 55 = .ok (.iload_n 1, 1) := by decide +kernel
theorem dX12_wrongPairing_56 : decode cX12_wrongPairing 56 = .ok (.imul, 1) := by decide +kernel
theorem dX12_wrongPairing_57 : decode cX12_wrongPairing 57 = .ok (.iload_n 2, 1) := by decide +kernel
theorem dX12_wrongPairing_58 : decode cX12_wrongPairing 58 = .ok (.iadd, 1) := by decide +kernel
theorem dX12_wrongPairing_59 : decode cX12_wrongPairing 59 = .ok (.iaload, 1) := by decide +kernel
theorem dX12_wrongPairing_60 : decode cX12_wrongPairing 60 = .ok (.istore_n 3, 1) := by decide +kernel
theorem dX12_wrongPairing_61 : decode cX12_wrongPairing 61 = .ok (.iload_n 3, 1) := by decide +kernel
theorem dX12_wrongPairing_62 : decode cX12_wrongPairing 62 = .ok (.iconst (-1), 1) := by decide +kernel
theorem dX12_wrongPairing_63 : decode cX12_wrongPairing 63 = .ok (.if_icmp .eq 42, 3) := by decide +kernel
theorem dX12_wrongPairing_66 : decode cX12_wrongPairing 66 = .ok (.aload_n 0, 1) := by decide +kernel
theorem dX12_wrongPairing_67 : decode cX12_wrongPairing 67 = .ok (.iload_n 3, 1) := by decide +kernel
theorem dX12_wrongPairing_68 : decode cX12_wrongPairing 68 = .ok (.invokevirtual 74, 3) := by decide +kernel
theorem dX12_wrongPairing_71 : decode cX12_wrongPairing 71 = .ok (.ifCond .eq 31, 3) := by decide +kernel
theorem dX12_wrongPairing_74 : decode cX12_wrongPairing 74 = .ok (.aload_n 0, 1) := by decide +kernel
theorem dX12_wrongPairing_75 : decode cX12_wrongPairing 75 = .ok (.getfield 13, 3) := by decide +kernel
theorem dX12_wrongPairing_78 : decode cX12_wrongPairing 78 = .ok (.iload_n 2, 1) := by decide +kernel
theorem dX12_wrongPairing_79 : decode cX12_wrongPairing 79 = .ok (.iaload, 1) := by decide +kernel
theorem dX12_wrongPairing_80 : decode cX12_wrongPairing 80 = .ok (.iload_n 3, 1) := by decide +kernel
theorem dX12_wrongPairing_81 : decode cX12_wrongPairing 81 = .ok (.invokestatic 59, 3) := by decide +kernel
theorem dX12_wrongPairing_84 : decode cX12_wrongPairing 84 = .ok (.ifCond .eq 18, 3) := by decide +kernel
theorem dX12_wrongPairing_87 : decode cX12_wrongPairing 87 = .ok (.aload_n 0, 1) := by decide +kernel
theorem dX12_wrongPairing_88 : decode cX12_wrongPairing 88 = .ok (.getfield 44, 3) := by decide +kernel
theorem dX12_wrongPairing_91 : decode cX12_wrongPairing 91 = .ok (.bipush 40, 2) := by decide +kernel
theorem dX12_wrongPairing_93 : decode cX12_wrongPairing 93 = .ok (.iload_n 1, 1) := by decide +kernel
theorem dX12_wrongPairing_94 : decode cX12_wrongPairing 94 = .ok (.imul, 1) := by decide +kernel
theorem dX12_wrongPairing_95 : decode cX12_wrongPairing 95 = .ok (.iload_n 3, 1) := by decide +kernel
theorem dX12_wrongPairing_96 : decode cX12_wrongPairing 96 = .ok (.iadd, 1) := by decide +kernel
theorem dX12_wrongPairing_97 : decode cX12_wrongPairing 97 = .ok (.iaload, 1) := by decide +kernel
theorem dX12_wrongPairing_98 : decode cX12_wrongPairing 98 = .ok (.iload_n 2, 1) := by decide +kernel
theorem dX12_wrongPairing_99 : decode cX12_wrongPairing 99 = .ok (.if_icmp .eq 6, 3) := by decide +kernel
set_option maxHeartbeats 4000000 in
set_option maxRecDepth 100000 in
theorem w_X12_wrongPairing (l : Launch) (D : va_G) (cI cS : ClassId) (sz : Nat) (b : Nat → Nat) (L v0 : SU) (hL : TyL L) (hV : TyV v0) (x0 : Int32) : Met l yX12_wrongPairing wsX12_wrongPairing ({ frames := 2, cells := 0, slots := 0, locals := 80 }) (PQ D cI cS (wM cI b L v0) sz [.ref (b 0), .int x0]) (QF (S := SU) D (wM cI b L v0) (wM cI b L) sz (fun r u => TyV u ∧ Rg (-11) 0 r ∧ (r = 0 → Rg 0 3 x0))) 0 0 (va_A (wM cI b L v0) sz) := by
  refine Met.ofW (cc := cX12_wrongPairing) (maxL := 4) (ret := (some .int)) (by decide) rfl ?_
  intro p e s m args below meth c s₁ B hml hv
  obtain ⟨rfl, hsz, hP, hKK, hD0⟩ := hv
  have hx := B.exec
  have hb := B.bytes
  have hr := B.returns
  have hts := atoms_spec (ws := wsX12_wrongPairing) B.pre
  have hown : s.vm.findClass RX12 = some m.cls := findClass_of_methodNamed B.named
  have hlocks := B.notSynchronized
  have hK := hKK.1
  have hin12 : ∀ w ∈ wsX120, w ∈ wsX12_wrongPairing := by decide +kernel
  subst hsz
  have hD := hD0.self (sz := s.heap.size)
  obtain ⟨A, hAe⟩ : ∃ A, A = va_A (wM cI b L v0) s.heap.size := ⟨_, rfl⟩
  rw [← hAe] at hD
  have hA : ∀ q : Nat, s.heap.size ≤ q → A q := fun q h => by rw [hAe]; exact Or.inr h
  have hS : va_S A s.heap s.heap [] := va_S.rf
  have hl := lv_entry ([.ref (b 0), .int x0]) (n := 4) (Nat.le_of_ble_eq_true rfl)
  rw [lg_entry_eq]
  generalize (lg_sl ([.ref (b 0), .int x0]) ++ List.replicate (4 - (lg_sl ([.ref (b 0), .int x0])).length) Slot.unset).toArray = ls at hl ⊢
  have hl : lv_has ls 4 [(0, .ref (b 0)), (1, .int x0)] := hl
  obtain ⟨v, hv9⟩ : ∃ v : SU, v = v0 := ⟨_, rfl⟩
  rw [← hv9] at hP hD hV
  have lp41 : ∀ (n41 : Nat) (y41_l2 : Int32) (v : SU) (H : Heap) (locs : List Loc) (ls : Array Slot), Rg 0 3 x0 → Rg 0 12 y41_l2 → TyV v → va_P D cls (wM cI b L v) H → va_D A (wM cI b L v) → va_S A s.heap H locs → lv_has ls 4 [(0, .ref (b 0)), (1, .int x0), (2, .int y41_l2)] → 12 - y41_l2.toInt < (n41 : Int) → W p l e (headSpec wsX12_wrongPairing ({ frames := 2, cells := 0, slots := 0, locals := 80 })).room s m ([.ref (b 0), .int x0]).toArray below meth c H locs 0 0 (MQ below (QF (S := SU) D (wM cI b L v0) (wM cI b L) s.heap.size (fun r u => TyV u ∧ Rg (-11) 0 r ∧ (r = 0 → Rg 0 3 x0))) ([.ref (b 0), .int x0]).toArray s 0 0 (va_A (wM cI b L v0) s.heap.size)) (F0 m 41 ls []) := by
    intro n41
    induction n41 with
    | zero =>
      intro y41_l2 v H locs ls g41_l1 g41_l2 hV hP hD hS hl hm41
      exact absurd rfl (me_z g41_l2 hm41)
    | succ n41 ih41 =>
      intro y41_l2 v H locs ls g41_l1 g41_l2 hV hP hD hS hl hm41
      refine lv_iload_n hx hb dX12_wrongPairing_41 rfl (lv_at hl 2 rfl) ?_
      refine lv_aload_n hx hb dX12_wrongPairing_42 rfl (lv_at hl 0 rfl) ?_
      refine va_get (D := D) (ci := 12) (v := .int (L 0 0)) (C := RX12) (T := TX12) (N := 24) hx hb hts hin12 hown hK hP 0 rfl rfl 0 (by decide) (hts (.fieldLink RX12 63 "MissedPointsModel" "many" "I") (by decide +kernel)) (fun _ h9 => h9) rfl dX12_wrongPairing_43 ?_
      refine lv_icmp_ge (tgt := 118) hx hb dX12_wrongPairing_46 (by decide) (fun c9292 => ?_) (fun c9292 => ?_)
      · refine lv_iconst (v := 0) hx hb dX12_wrongPairing_118 (by decide) ?_
        subst hAe
        exact W.iret (v := 0) hx hb hr (fun t ht hW => ⟨⟨_, v, rfl, ⟨hV, (by decide : Rg (-11) 0 (0 : Int32)), fun _ => g41_l1⟩, by rw [ht]; exact hP, hD⟩, hS.F ht⟩) hS.2.2 dX12_wrongPairing_119
      · have g9293 : Rg 1 12 (L 0 0) := rg_ltr g41_l2 hL.1 (rg_nle c9292) (by decide)
        have g9294 : Rg 0 11 y41_l2 := rg_ltl g41_l2 hL.1 (rg_nle c9292) (by decide)
        refine lv_aload_n hx hb dX12_wrongPairing_49 rfl (lv_at hl 0 rfl) ?_
        refine va_get (D := D) (ci := 12) (v := .ref (b 11)) (C := RX12) (T := TX12) (N := 24) hx hb hts hin12 hown hK hP 0 rfl rfl 18 (by decide) (hts (.fieldLink RX12 44 "MissedPointsModel" "items" "[I") (by decide +kernel)) (fun _ h9 => h9) rfl dX12_wrongPairing_50 ?_
        refine lv_bipush (v := 40) hx hb dX12_wrongPairing_53 (by decide) ?_
        refine lv_iload_n hx hb dX12_wrongPairing_55 rfl (lv_at hl 1 rfl) ?_
        refine wk_imul (f := 120) hx hb dX12_wrongPairing_56 (by decide : Rg 0 40 (40 : Int32)) g41_l1 (by decide) (fun r9295 hr9295 er9295 qr9295 => ?_)
        refine lv_iload_n hx hb dX12_wrongPairing_57 rfl (lv_at hl 2 rfl) ?_
        refine wk_iadd (e1 := 0) (f := 131) hx hb dX12_wrongPairing_58 hr9295 g9294 (by decide) (fun r9296 hr9296 er9296 qr9296 => ?_)
        refine wk_aldA hx hb hK hP 11 0 rfl rfl (rg_in hr9296 (by decide) (by decide)) dX12_wrongPairing_59 (fun r9297 => ?_)
        refine lv_istore_n (lv' := [(3, .int r9297), (0, .ref (b 0)), (1, .int x0), (2, .int y41_l2)]) hx hb dX12_wrongPairing_60 rfl hl (by decide) rfl (fun ls hl => ?_)
        refine lv_iload_n hx hb dX12_wrongPairing_61 rfl (lv_at hl 0 rfl) ?_
        refine lv_iconst (v := (-1)) hx hb dX12_wrongPairing_62 (by decide) ?_
        refine lv_icmp_eq (tgt := 105) hx hb dX12_wrongPairing_63 (by decide) (fun c9298 => ?_) (fun c9298 => ?_)
        · have g9299 : Rg (-1) (-1) r9297 := wk_eql (rg_any r9297) (by decide : Rg (-1) (-1) ((-1) : Int32)) c9298 (by decide)
          refine lv_aload_n hx hb dX12_wrongPairing_105 rfl (lv_at hl 1 rfl) ?_
          refine va_get (D := D) (ci := 12) (v := .ref (b 5)) (C := RX12) (T := TX12) (N := 24) hx hb hts hin12 hown hK hP 0 rfl rfl 6 (by decide) (hts (.fieldLink RX12 26 "MissedPointsModel" "mates" "[I") (by decide +kernel)) (fun _ h9 => h9) rfl dX12_wrongPairing_106 ?_
          refine lv_iload_n hx hb dX12_wrongPairing_109 rfl (lv_at hl 3 rfl) ?_
          refine lv_iload_n hx hb dX12_wrongPairing_110 rfl (lv_at hl 0 rfl) ?_
          refine ms_5 hx hb hK hP hD hS hV rfl (rg_in g9294 (by decide) (by decide)) (show Rg (-1) 11 r9297 from rg_w g9299 (by decide) (by decide)) dX12_wrongPairing_111 (fun v H locs hV ev9300 hP hD hS => ?_)
          refine wk_iinc (lv' := fun r => [(2, .int r), (3, .int r9297), (0, .ref (b 0)), (1, .int x0)]) (e1 := 1) (f := 12) hx hb dX12_wrongPairing_112 hl (k := 3) rfl (by decide) g9294 (by decide) (fun _ => rfl) (fun r9301 ls hr9301 er9301 hl => ?_)
          refine lv_goto (tgt := 41) hx hb dX12_wrongPairing_115 (by decide) ?_
          exact ih41 r9301 v _ _ ls g41_l1 (show Rg 0 12 r9301 from rg_w hr9301 (by decide) (by decide)) hV hP hD hS (lv_sub (l' := [(0, .ref (b 0)), (1, .int x0), (2, .int r9301)]) hl [2, 3, 0] rfl) (me_up hm41 er9301 (by decide))
        · refine lv_aload_n hx hb dX12_wrongPairing_66 rfl (lv_at hl 1 rfl) ?_
          refine lv_iload_n hx hb dX12_wrongPairing_67 rfl (lv_at hl 0 rfl) ?_
          refine wk_sv 0 (As := [.int r9297]) (rest := []) ⟨hx, hb, hml, hown, hts⟩ (w_X12_isPoint l D cI cS b L v hL hV r9297) hKK hP (ci := 12) rfl rfl (cwV 1 hts gX12_wrongPairing_X12_isPoint rfl rfl rfl (by decide +kernel) ⟨Nat.le_of_ble_eq_true rfl, Nat.le_of_ble_eq_true rfl⟩) rfl hl.1 rfl (Nat.le_of_ble_eq_true rfl) dX12_wrongPairing_68 ⟨Nat.le_of_ble_eq_true rfl, Nat.le_of_ble_eq_true rfl⟩ (fun r9302 hr9302 => ?_)
          refine lv_if_eq (tgt := 102) hx hb dX12_wrongPairing_71 (by decide) (fun c9303 => ?_) (fun c9303 => ?_)
          · have g9304 : Rg 0 0 r9302 := wk_eql hr9302.1 (by decide : Rg 0 0 (0 : Int32)) c9303 (by decide)
            refine lv_bipush (v := (-3)) hx hb dX12_wrongPairing_102 (by decide) ?_
            subst hAe
            exact W.iret (v := (-3)) hx hb hr (fun t ht hW => ⟨⟨_, v, rfl, ⟨hV, (by decide : Rg (-11) 0 ((-3) : Int32)), fun h9 => absurd h9 (by decide)⟩, by rw [ht]; exact hP, hD⟩, hS.F ht⟩) hS.2.2 dX12_wrongPairing_104
          · have g9305 : Rg 0 11 r9297 := (hr9302.2 c9303)
            have g9306 : Rg 1 1 r9302 := rg_ne_lo (k := 0) hr9302.1 (by decide) c9303 (by decide)
            refine lv_aload_n hx hb dX12_wrongPairing_74 rfl (lv_at hl 1 rfl) ?_
            refine va_get (D := D) (ci := 12) (v := .ref (b 1)) (C := RX12) (T := TX12) (N := 24) hx hb hts hin12 hown hK hP 0 rfl rfl 2 (by decide) (hts (.fieldLink RX12 13 "MissedPointsModel" "near" "[I") (by decide +kernel)) (fun _ h9 => h9) rfl dX12_wrongPairing_75 ?_
            refine lv_iload_n hx hb dX12_wrongPairing_78 rfl (lv_at hl 3 rfl) ?_
            refine wk_ald hx hb hK hP 1 0 rfl rfl (rg_in g9294 (by decide) (by decide)) dX12_wrongPairing_79 hV.2.1 (fun r9307 hr9307 => ?_)
            refine lv_iload_n hx hb dX12_wrongPairing_80 rfl (lv_at hl 0 rfl) ?_
            refine lz_ss (As := [.int r9307, .int r9297]) (rest := []) ⟨hx, hb, hml, hown, hts⟩ (w_X12_has l D cI cS r9307 r9297) hKK (hP.sub (ws' := []) [] rfl) (va_cwS 2 hts gX12_wrongPairing_X12_has rfl rfl rfl (by decide +kernel) ⟨Nat.le_of_ble_eq_true rfl, Nat.le_of_ble_eq_true rfl⟩) rfl hl.1 rfl (Nat.le_of_ble_eq_true rfl) dX12_wrongPairing_81 ⟨Nat.le_of_ble_eq_true rfl, Nat.le_of_ble_eq_true rfl⟩ (fun r9308 hr9308 => ?_)
            refine lv_if_eq (tgt := 102) hx hb dX12_wrongPairing_84 (by decide) (fun c9309 => ?_) (fun c9309 => ?_)
            · have g9310 : Rg 0 0 r9308 := wk_eql hr9308.1 (by decide : Rg 0 0 (0 : Int32)) c9309 (by decide)
              refine lv_bipush (v := (-3)) hx hb dX12_wrongPairing_102 (by decide) ?_
              subst hAe
              exact W.iret (v := (-3)) hx hb hr (fun t ht hW => ⟨⟨_, v, rfl, ⟨hV, (by decide : Rg (-11) 0 ((-3) : Int32)), fun h9 => absurd h9 (by decide)⟩, by rw [ht]; exact hP, hD⟩, hS.F ht⟩) hS.2.2 dX12_wrongPairing_104
            · have g9311 : Rg 1 1 r9308 := rg_ne_lo (k := 0) hr9308.1 (by decide) c9309 (by decide)
              refine lv_aload_n hx hb dX12_wrongPairing_87 rfl (lv_at hl 1 rfl) ?_
              refine va_get (D := D) (ci := 12) (v := .ref (b 11)) (C := RX12) (T := TX12) (N := 24) hx hb hts hin12 hown hK hP 0 rfl rfl 18 (by decide) (hts (.fieldLink RX12 44 "MissedPointsModel" "items" "[I") (by decide +kernel)) (fun _ h9 => h9) rfl dX12_wrongPairing_88 ?_
              refine lv_bipush (v := 40) hx hb dX12_wrongPairing_91 (by decide) ?_
              refine lv_iload_n hx hb dX12_wrongPairing_93 rfl (lv_at hl 2 rfl) ?_
              refine wk_imul (f := 120) hx hb dX12_wrongPairing_94 (by decide : Rg 0 40 (40 : Int32)) g41_l1 (by decide) (fun r9312 hr9312 er9312 qr9312 => ?_)
              refine lv_iload_n hx hb dX12_wrongPairing_95 rfl (lv_at hl 0 rfl) ?_
              refine wk_iadd (e1 := 0) (f := 131) hx hb dX12_wrongPairing_96 hr9312 g9305 (by decide) (fun r9313 hr9313 er9313 qr9313 => ?_)
              refine wk_aldA hx hb hK hP 11 0 rfl rfl (rg_in hr9313 (by decide) (by decide)) dX12_wrongPairing_97 (fun r9314 => ?_)
              refine lv_iload_n hx hb dX12_wrongPairing_98 rfl (lv_at hl 3 rfl) ?_
              refine lv_icmp_eq (tgt := 105) hx hb dX12_wrongPairing_99 (by decide) (fun c9315 => ?_) (fun c9315 => ?_)
              · have g9316 : Rg 0 11 r9314 := wk_eql (rg_any r9314) g9294 c9315 (by decide)
                refine lv_aload_n hx hb dX12_wrongPairing_105 rfl (lv_at hl 1 rfl) ?_
                refine va_get (D := D) (ci := 12) (v := .ref (b 5)) (C := RX12) (T := TX12) (N := 24) hx hb hts hin12 hown hK hP 0 rfl rfl 6 (by decide) (hts (.fieldLink RX12 26 "MissedPointsModel" "mates" "[I") (by decide +kernel)) (fun _ h9 => h9) rfl dX12_wrongPairing_106 ?_
                refine lv_iload_n hx hb dX12_wrongPairing_109 rfl (lv_at hl 3 rfl) ?_
                refine lv_iload_n hx hb dX12_wrongPairing_110 rfl (lv_at hl 0 rfl) ?_
                refine ms_5 hx hb hK hP hD hS hV rfl (rg_in g9294 (by decide) (by decide)) (show Rg (-1) 11 r9297 from rg_w g9305 (by decide) (by decide)) dX12_wrongPairing_111 (fun v H locs hV ev9317 hP hD hS => ?_)
                refine wk_iinc (lv' := fun r => [(2, .int r), (3, .int r9297), (0, .ref (b 0)), (1, .int x0)]) (e1 := 1) (f := 12) hx hb dX12_wrongPairing_112 hl (k := 3) rfl (by decide) g9294 (by decide) (fun _ => rfl) (fun r9318 ls hr9318 er9318 hl => ?_)
                refine lv_goto (tgt := 41) hx hb dX12_wrongPairing_115 (by decide) ?_
                exact ih41 r9318 v _ _ ls g41_l1 (show Rg 0 12 r9318 from rg_w hr9318 (by decide) (by decide)) hV hP hD hS (lv_sub (l' := [(0, .ref (b 0)), (1, .int x0), (2, .int r9318)]) hl [2, 3, 0] rfl) (me_up hm41 er9318 (by decide))
              · refine lv_bipush (v := (-3)) hx hb dX12_wrongPairing_102 (by decide) ?_
                subst hAe
                exact W.iret (v := (-3)) hx hb hr (fun t ht hW => ⟨⟨_, v, rfl, ⟨hV, (by decide : Rg (-11) 0 ((-3) : Int32)), fun h9 => absurd h9 (by decide)⟩, by rw [ht]; exact hP, hD⟩, hS.F ht⟩) hS.2.2 dX12_wrongPairing_104
  refine lv_iload_n hx hb dX12_wrongPairing_0 rfl (lv_at hl 1 rfl) ?_
  refine lz_ss (As := [.int x0]) (rest := []) ⟨hx, hb, hml, hown, hts⟩ (w_X12_isSheet l D cI cS x0) hKK (hP.sub (ws' := []) [] rfl) (va_cwS 1 hts gX12_wrongPairing_X12_isSheet rfl rfl rfl (by decide +kernel) ⟨Nat.le_of_ble_eq_true rfl, Nat.le_of_ble_eq_true rfl⟩) rfl hl.1 rfl (Nat.le_of_ble_eq_true rfl) dX12_wrongPairing_1 ⟨Nat.le_of_ble_eq_true rfl, Nat.le_of_ble_eq_true rfl⟩ (fun r9319 hr9319 => ?_)
  refine lv_if_ne (tgt := 10) hx hb dX12_wrongPairing_4 (by decide) (fun c9320 => ?_) (fun c9320 => ?_)
  · have g9321 : Rg 0 3 x0 := (hr9319.2 c9320)
    have g9322 : Rg 1 1 r9319 := rg_ne_lo (k := 0) hr9319.1 (by decide) c9320 (by decide)
    refine lv_aload_n hx hb dX12_wrongPairing_10 rfl (lv_at hl 0 rfl) ?_
    refine va_get (D := D) (ci := 12) (v := .ref (b 9)) (C := RX12) (T := TX12) (N := 24) hx hb hts hin12 hown hK hP 0 rfl rfl 16 (by decide) (hts (.fieldLink RX12 38 "MissedPointsModel" "sort" "[I") (by decide +kernel)) (fun _ h9 => h9) rfl dX12_wrongPairing_11 ?_
    refine lv_iload_n hx hb dX12_wrongPairing_14 rfl (lv_at hl 1 rfl) ?_
    refine wk_ald hx hb hK hP 9 0 rfl rfl (rg_in g9321 (by decide) (by decide)) dX12_wrongPairing_15 hL.2.2.1 (fun r9323 hr9323 => ?_)
    refine lv_iconst (v := (-1)) hx hb dX12_wrongPairing_16 (by decide) ?_
    refine lv_icmp_ne (tgt := 23) hx hb dX12_wrongPairing_17 (by decide) (fun c9324 => ?_) (fun c9324 => ?_)
    · have g9325 : Rg 0 1 r9323 := rg_ne_lo (k := (-1)) hr9323 (by decide) c9324 (by decide)
      refine lv_aload_n hx hb dX12_wrongPairing_23 rfl (lv_at hl 0 rfl) ?_
      refine va_get (D := D) (ci := 12) (v := .ref (b 10)) (C := RX12) (T := TX12) (N := 24) hx hb hts hin12 hown hK hP 0 rfl rfl 17 (by decide) (hts (.fieldLink RX12 41 "MissedPointsModel" "size" "[I") (by decide +kernel)) (fun _ h9 => h9) rfl dX12_wrongPairing_24 ?_
      refine lv_iload_n hx hb dX12_wrongPairing_27 rfl (lv_at hl 1 rfl) ?_
      refine wk_ald hx hb hK hP 10 0 rfl rfl (rg_in g9321 (by decide) (by decide)) dX12_wrongPairing_28 hL.2.2.2.1 (fun r9326 hr9326 => ?_)
      refine lv_aload_n hx hb dX12_wrongPairing_29 rfl (lv_at hl 0 rfl) ?_
      refine va_get (D := D) (ci := 12) (v := .int (L 0 0)) (C := RX12) (T := TX12) (N := 24) hx hb hts hin12 hown hK hP 0 rfl rfl 0 (by decide) (hts (.fieldLink RX12 63 "MissedPointsModel" "many" "I") (by decide +kernel)) (fun _ h9 => h9) rfl dX12_wrongPairing_30 ?_
      refine lv_icmp_eq (tgt := 39) hx hb dX12_wrongPairing_33 (by decide) (fun c9327 => ?_) (fun c9327 => ?_)
      · have g9328 : Rg 0 12 r9326 := wk_eql hr9326 hL.1 c9327 (by decide)
        refine lv_iconst (v := 0) hx hb dX12_wrongPairing_39 (by decide) ?_
        refine lv_istore_n (lv' := [(2, .int 0), (0, .ref (b 0)), (1, .int x0)]) hx hb dX12_wrongPairing_40 rfl hl (by decide) rfl (fun ls hl => ?_)
        exact lp41 13 (0 : Int32) v _ _ ls g9321 (by decide : Rg 0 12 (0 : Int32)) hV hP hD hS (lv_sub (l' := [(0, .ref (b 0)), (1, .int x0), (2, .int 0)]) hl [1, 2, 0] rfl) (me_i (by decide : Rg 0 12 (0 : Int32)) (by decide))
      · refine lv_bipush (v := (-3)) hx hb dX12_wrongPairing_36 (by decide) ?_
        subst hAe
        exact W.iret (v := (-3)) hx hb hr (fun t ht hW => ⟨⟨_, v, rfl, ⟨hV, (by decide : Rg (-11) 0 ((-3) : Int32)), fun h9 => absurd h9 (by decide)⟩, by rw [ht]; exact hP, hD⟩, hS.F ht⟩) hS.2.2 dX12_wrongPairing_38
    · have g9329 : Rg (-1) (-1) r9323 := wk_eql hr9323 (by decide : Rg (-1) (-1) ((-1) : Int32)) c9324 (by decide)
      refine lv_bipush (v := (-11)) hx hb dX12_wrongPairing_20 (by decide) ?_
      subst hAe
      exact W.iret (v := (-11)) hx hb hr (fun t ht hW => ⟨⟨_, v, rfl, ⟨hV, (by decide : Rg (-11) 0 ((-11) : Int32)), fun h9 => absurd h9 (by decide)⟩, by rw [ht]; exact hP, hD⟩, hS.F ht⟩) hS.2.2 dX12_wrongPairing_22
  · have g9330 : Rg 0 0 r9319 := wk_eql hr9319.1 (by decide : Rg 0 0 (0 : Int32)) c9320 (by decide)
    refine lv_bipush (v := (-2)) hx hb dX12_wrongPairing_7 (by decide) ?_
    subst hAe
    exact W.iret (v := (-2)) hx hb hr (fun t ht hW => ⟨⟨_, v, rfl, ⟨hV, (by decide : Rg (-11) 0 ((-2) : Int32)), fun h9 => absurd h9 (by decide)⟩, by rw [ht]; exact hP, hD⟩, hS.F ht⟩) hS.2.2 dX12_wrongPairing_9
theorem dX12_isTold_10 : decode cX12_isTold 10 = .ok (.iconst 1, 1) := by decide +kernel
theorem dX12_isTold_11 : decode cX12_isTold 11 = .ok (.goto 14, 3) := by decide +kernel
theorem dX12_isTold_20 : decode cX12_isTold 20 = .ok (.iconst 0, 1) := by decide +kernel
theorem dX12_isTold_21 : decode cX12_isTold 21 = .ok (.goto 4, 3) := by decide +kernel
set_option maxHeartbeats 4000000 in
set_option maxRecDepth 100000 in
theorem w_X12_isTold (l : Launch) (D : va_G) (cI cS : ClassId) (sz : Nat) (b : Nat → Nat) (L v0 : SU) (hL : TyL L) (hV : TyV v0) (x0 : Int32) : Met l yX12_isTold wsX12_isTold ({ frames := 3, cells := 0, slots := 0, locals := 120 }) (PQ D cI cS (wM cI b L v0) sz [.ref (b 0), .int x0]) (QF (S := SU) D (wM cI b L v0) (wM cI b L) sz (fun r u => TyV u ∧ Rg (-11) 1 r ∧ True)) 0 0 (va_A (wM cI b L v0) sz) := by
  refine Met.ofW (cc := cX12_isTold) (maxL := 3) (ret := (some .int)) (by decide) rfl ?_
  intro p e s m args below meth c s₁ B hml hv
  obtain ⟨rfl, hsz, hP, hKK, hD0⟩ := hv
  have hx := B.exec
  have hb := B.bytes
  have hr := B.returns
  have hts := atoms_spec (ws := wsX12_isTold) B.pre
  have hown : s.vm.findClass RX12 = some m.cls := findClass_of_methodNamed B.named
  have hlocks := B.notSynchronized
  have hK := hKK.1
  subst hsz
  have hD := hD0.self (sz := s.heap.size)
  obtain ⟨A, hAe⟩ : ∃ A, A = va_A (wM cI b L v0) s.heap.size := ⟨_, rfl⟩
  rw [← hAe] at hD
  have hA : ∀ q : Nat, s.heap.size ≤ q → A q := fun q h => by rw [hAe]; exact Or.inr h
  have hS : va_S A s.heap s.heap [] := va_S.rf
  have hl := lv_entry ([.ref (b 0), .int x0]) (n := 3) (Nat.le_of_ble_eq_true rfl)
  rw [lg_entry_eq]
  generalize (lg_sl ([.ref (b 0), .int x0]) ++ List.replicate (3 - (lg_sl ([.ref (b 0), .int x0])).length) Slot.unset).toArray = ls at hl ⊢
  have hl : lv_has ls 3 [(0, .ref (b 0)), (1, .int x0)] := hl
  obtain ⟨v, hv9⟩ : ∃ v : SU, v = v0 := ⟨_, rfl⟩
  rw [← hv9] at hP hD hV
  refine lv_aload_n hx hb dX12_isTold_0 rfl (lv_at hl 0 rfl) ?_
  refine lv_iload_n hx hb dX12_isTold_1 rfl (lv_at hl 1 rfl) ?_
  refine wk_qi (wM cI b L) v (As := [.int x0]) (rest := []) ⟨hx, hb, hml, hown, hts⟩ (w_X12_wrongPairing l D cI cS _ b L v hL hV x0) hKK hP hD hS hA 0 (ci := 12) rfl rfl (cwV 1 hts gX12_isTold_X12_wrongPairing rfl rfl rfl (by decide +kernel) ⟨Nat.le_of_ble_eq_true rfl, Nat.le_of_ble_eq_true rfl⟩) rfl hl.1 rfl (Nat.le_of_ble_eq_true rfl) dX12_isTold_2 ⟨Nat.le_of_ble_eq_true rfl, Nat.le_of_ble_eq_true rfl⟩ (fun r9338 v H locs hr9338 hP hD hS => ?_)
  have hV := hr9338.1
  refine lv_istore_n (lv' := [(2, .int r9338), (0, .ref (b 0)), (1, .int x0)]) hx hb dX12_isTold_5 rfl hl (by decide) rfl (fun ls hl => ?_)
  refine lv_iload_n hx hb dX12_isTold_6 rfl (lv_at hl 0 rfl) ?_
  refine lv_if_ne (tgt := 14) hx hb dX12_isTold_7 (by decide) (fun c9339 => ?_) (fun c9339 => ?_)
  · have g9340 : Rg (-11) (-1) r9338 := rg_ne_hi (k := 0) hr9338.2.1 (by decide) c9339 (by decide)
    refine lv_iload_n hx hb dX12_isTold_14 rfl (lv_at hl 0 rfl) ?_
    refine lv_bipush (v := (-3)) hx hb dX12_isTold_15 (by decide) ?_
    refine lv_icmp_ne (tgt := 24) hx hb dX12_isTold_17 (by decide) (fun c9341 => ?_) (fun c9341 => ?_)
    · refine lv_iload_n hx hb dX12_isTold_24 rfl (lv_at hl 0 rfl) ?_
      subst hAe
      exact W.iret (v := r9338) hx hb hr (fun t ht hW => ⟨⟨_, v, rfl, ⟨hV, (show Rg (-11) 1 r9338 from rg_w g9340 (by decide) (by decide)), trivial⟩, by rw [ht]; exact hP, hD⟩, hS.F ht⟩) hS.2.2 dX12_isTold_25
    · have g9342 : Rg (-3) (-3) r9338 := wk_eql g9340 (by decide : Rg (-3) (-3) ((-3) : Int32)) c9341 (by decide)
      refine lv_iconst (v := 0) hx hb dX12_isTold_20 (by decide) ?_
      refine lv_goto (tgt := 25) hx hb dX12_isTold_21 (by decide) ?_
      subst hAe
      exact W.iret (v := 0) hx hb hr (fun t ht hW => ⟨⟨_, v, rfl, ⟨hV, (by decide : Rg (-11) 1 (0 : Int32)), trivial⟩, by rw [ht]; exact hP, hD⟩, hS.F ht⟩) hS.2.2 dX12_isTold_25
  · have g9343 : Rg 0 3 x0 := (hr9338.2.2 c9339)
    have g9344 : Rg 0 0 r9338 := wk_eql hr9338.2.1 (by decide : Rg 0 0 (0 : Int32)) c9339 (by decide)
    refine lv_iconst (v := 1) hx hb dX12_isTold_10 (by decide) ?_
    refine lv_goto (tgt := 25) hx hb dX12_isTold_11 (by decide) ?_
    subst hAe
    exact W.iret (v := 1) hx hb hr (fun t ht hW => ⟨⟨_, v, rfl, ⟨hV, (by decide : Rg (-11) 1 (1 : Int32)), trivial⟩, by rw [ht]; exact hP, hD⟩, hS.F ht⟩) hS.2.2 dX12_isTold_25
theorem dX12_misses_12 : decode cX12_misses 12 = .ok (.iconst 0, 1) := by decide +kernel
theorem dX12_misses_13 : decode cX12_misses 13 = .ok (.istore_n 3, 1) := by decide +kernel
theorem dX12_misses_14 : decode cX12_misses 14 = .ok (.iconst 0, 1) := by decide +kernel
theorem dX12_misses_15 : decode cX12_misses 15 = .ok (.istore 4, 2) := by decide +kernel
theorem dX12_misses_17 : decode cX12_misses 17 = .ok (.iload 4, 2) := by decide +kernel
theorem dX12_misses_19 : decode cX12_misses 19 = .ok (.aload_n 0, 1) := by decide +kernel
theorem dX12_misses_20 : decode cX12_misses 20 = .ok (.getfield 63, 3) := by decide +kernel
theorem dX12_misses_23 : decode cX12_misses 23 = .ok (.if_icmp .ge 31, 3) := by decide +kernel
theorem dX12_misses_26 : decode cX12_misses 26 = .ok (.iload_n 3, 1) := by decide +kernel
theorem dX12_misses_27 : decode cX12_misses 27 = .ok (.aload_n 0, 1) := by decide +kernel
theorem dX12_misses_28 : decode cX12_misses 28 = .ok (.getfield 26, 3) := by decide +kernel
theorem dX12_misses_31 : decode cX12_misses 31 = .ok (.iload 4, 2) := by decide +kernel
theorem dX12_misses_33 : decode cX12_misses 33 = .ok (.iaload, 1) := by decide +kernel
theorem dX12_misses_34 : decode cX12_misses 34 = .ok (.iconst (-1), 1) := by decide +kernel
theorem dX12_misses_35 : decode cX12_misses 35 = .ok (.if_icmp .ne 10, 3) := by decide +kernel
theorem dX12_misses_38 : decode cX12_misses 38 = .ok (.iconst 1, 1) := by decide +kernel
theorem dX12_misses_39 : decode cX12_misses 39 = .ok (.iload 4, 2) := by decide +kernel
theorem dX12_misses_41 : decode cX12_misses 41 = .ok (.ishl, 1) := by decide +kernel
theorem dX12_misses_42 : decode cX12_misses 42 = .ok (.goto 4, 3) := by decide +kernel
theorem dX12_misses_45 : decode cX12_misses 45 = .ok (.iconst 0, 1) := by decide +kernel
theorem dX12_misses_46 : decode cX12_misses 46 = .ok (.ior, 1) := by decide +kernel
theorem dX12_misses_47 : decode cX12_misses 47 = .ok (.istore_n 3, 1) := by decide +kernel
theorem dX12_misses_48 : decode cX12_misses 48 = .ok (.iinc 4 1, 3) := by decide +kernel
theorem dX12_misses_51 : decode cX12_misses 51 = .ok (.goto (-34), 3) := by decide +kernel
theorem dX12_misses_54 : decode cX12_misses 54 = .ok (.iload_n 3, 1) := by decide +kernel
theorem dX12_misses_55 : decode cX12_misses 55 = .ok (.ireturn, 1) := by decide +kernel
set_option maxHeartbeats 4000000 in
set_option maxRecDepth 100000 in
theorem w_X12_misses (l : Launch) (D : va_G) (cI cS : ClassId) (sz : Nat) (b : Nat → Nat) (L v0 : SU) (hL : TyL L) (hV : TyV v0) (x0 : Int32) : Met l yX12_misses wsX12_misses ({ frames := 3, cells := 0, slots := 0, locals := 120 }) (PQ D cI cS (wM cI b L v0) sz [.ref (b 0), .int x0]) (QF (S := SU) D (wM cI b L v0) (wM cI b L) sz (fun r u => TyV u ∧ Rg (-11) 4095 r ∧ True)) 0 0 (va_A (wM cI b L v0) sz) := by
  refine Met.ofW (cc := cX12_misses) (maxL := 5) (ret := (some .int)) (by decide) rfl ?_
  intro p e s m args below meth c s₁ B hml hv
  obtain ⟨rfl, hsz, hP, hKK, hD0⟩ := hv
  have hx := B.exec
  have hb := B.bytes
  have hr := B.returns
  have hts := atoms_spec (ws := wsX12_misses) B.pre
  have hown : s.vm.findClass RX12 = some m.cls := findClass_of_methodNamed B.named
  have hlocks := B.notSynchronized
  have hK := hKK.1
  have hin12 : ∀ w ∈ wsX120, w ∈ wsX12_misses := by decide +kernel
  subst hsz
  have hD := hD0.self (sz := s.heap.size)
  obtain ⟨A, hAe⟩ : ∃ A, A = va_A (wM cI b L v0) s.heap.size := ⟨_, rfl⟩
  rw [← hAe] at hD
  have hA : ∀ q : Nat, s.heap.size ≤ q → A q := fun q h => by rw [hAe]; exact Or.inr h
  have hS : va_S A s.heap s.heap [] := va_S.rf
  have hl := lv_entry ([.ref (b 0), .int x0]) (n := 5) (Nat.le_of_ble_eq_true rfl)
  rw [lg_entry_eq]
  generalize (lg_sl ([.ref (b 0), .int x0]) ++ List.replicate (5 - (lg_sl ([.ref (b 0), .int x0])).length) Slot.unset).toArray = ls at hl ⊢
  have hl : lv_has ls 5 [(0, .ref (b 0)), (1, .int x0)] := hl
  obtain ⟨v, hv9⟩ : ∃ v : SU, v = v0 := ⟨_, rfl⟩
  rw [← hv9] at hP hD hV
  have lp17 : ∀ (n17 : Nat) (y17_l3 y17_l4 : Int32) (v : SU) (H : Heap) (locs : List Loc) (ls : Array Slot), Rg 0 4095 y17_l3 → Rg 0 12 y17_l4 → TyV v → va_P D cls (wM cI b L v) H → va_D A (wM cI b L v) → va_S A s.heap H locs → lv_has ls 5 [(0, .ref (b 0)), (3, .int y17_l3), (4, .int y17_l4)] → 12 - y17_l4.toInt < (n17 : Int) → W p l e (headSpec wsX12_misses ({ frames := 3, cells := 0, slots := 0, locals := 120 })).room s m ([.ref (b 0), .int x0]).toArray below meth c H locs 0 0 (MQ below (QF (S := SU) D (wM cI b L v0) (wM cI b L) s.heap.size (fun r u => TyV u ∧ Rg (-11) 4095 r ∧ True)) ([.ref (b 0), .int x0]).toArray s 0 0 (va_A (wM cI b L v0) s.heap.size)) (F0 m 17 ls []) := by
    intro n17
    induction n17 with
    | zero =>
      intro y17_l3 y17_l4 v H locs ls g17_l3 g17_l4 hV hP hD hS hl hm17
      exact absurd rfl (me_z g17_l4 hm17)
    | succ n17 ih17 =>
      intro y17_l3 y17_l4 v H locs ls g17_l3 g17_l4 hV hP hD hS hl hm17
      refine lv_iload hx hb dX12_misses_17 (lv_at hl 2 rfl) ?_
      refine lv_aload_n hx hb dX12_misses_19 rfl (lv_at hl 0 rfl) ?_
      refine va_get (D := D) (ci := 12) (v := .int (L 0 0)) (C := RX12) (T := TX12) (N := 24) hx hb hts hin12 hown hK hP 0 rfl rfl 0 (by decide) (hts (.fieldLink RX12 63 "MissedPointsModel" "many" "I") (by decide +kernel)) (fun _ h9 => h9) rfl dX12_misses_20 ?_
      refine lv_icmp_ge (tgt := 54) hx hb dX12_misses_23 (by decide) (fun c9492 => ?_) (fun c9492 => ?_)
      · refine lv_iload_n hx hb dX12_misses_54 rfl (lv_at hl 1 rfl) ?_
        subst hAe
        exact W.iret (v := y17_l3) hx hb hr (fun t ht hW => ⟨⟨_, v, rfl, ⟨hV, (show Rg (-11) 4095 y17_l3 from rg_w g17_l3 (by decide) (by decide)), trivial⟩, by rw [ht]; exact hP, hD⟩, hS.F ht⟩) hS.2.2 dX12_misses_55
      · have g9493 : Rg 1 12 (L 0 0) := rg_ltr g17_l4 hL.1 (rg_nle c9492) (by decide)
        have g9494 : Rg 0 11 y17_l4 := rg_ltl g17_l4 hL.1 (rg_nle c9492) (by decide)
        refine lv_iload_n hx hb dX12_misses_26 rfl (lv_at hl 1 rfl) ?_
        refine lv_aload_n hx hb dX12_misses_27 rfl (lv_at hl 0 rfl) ?_
        refine va_get (D := D) (ci := 12) (v := .ref (b 5)) (C := RX12) (T := TX12) (N := 24) hx hb hts hin12 hown hK hP 0 rfl rfl 6 (by decide) (hts (.fieldLink RX12 26 "MissedPointsModel" "mates" "[I") (by decide +kernel)) (fun _ h9 => h9) rfl dX12_misses_28 ?_
        refine lv_iload hx hb dX12_misses_31 (lv_at hl 2 rfl) ?_
        refine wk_ald hx hb hK hP 5 0 rfl rfl (rg_in g9494 (by decide) (by decide)) dX12_misses_33 hV.2.2.2.1 (fun r9495 hr9495 => ?_)
        refine lv_iconst (v := (-1)) hx hb dX12_misses_34 (by decide) ?_
        refine lv_icmp_ne (tgt := 45) hx hb dX12_misses_35 (by decide) (fun c9496 => ?_) (fun c9496 => ?_)
        · have g9497 : Rg 0 11 r9495 := rg_ne_lo (k := (-1)) hr9495 (by decide) c9496 (by decide)
          refine lv_iconst (v := 0) hx hb dX12_misses_45 (by decide) ?_
          refine wk_ior 12 (e1 := 0) (f := 4095) hx hb dX12_misses_46 g17_l3 (by decide : Rg 0 0 (0 : Int32)) (by decide) (fun r9498 hr9498 qr9498 => ?_)
          refine lv_istore_n (lv' := [(3, .int r9498), (0, .ref (b 0)), (4, .int y17_l4)]) hx hb dX12_misses_47 rfl hl (by decide) rfl (fun ls hl => ?_)
          refine wk_iinc (lv' := fun r => [(4, .int r), (3, .int r9498), (0, .ref (b 0))]) (e1 := 1) (f := 12) hx hb dX12_misses_48 hl (k := 2) rfl (by decide) g9494 (by decide) (fun _ => rfl) (fun r9499 ls hr9499 er9499 hl => ?_)
          refine lv_goto (tgt := 17) hx hb dX12_misses_51 (by decide) ?_
          exact ih17 r9498 r9499 v _ _ ls hr9498 (show Rg 0 12 r9499 from rg_w hr9499 (by decide) (by decide)) hV hP hD hS (lv_sub (l' := [(0, .ref (b 0)), (3, .int r9498), (4, .int r9499)]) hl [2, 1, 0] rfl) (me_up hm17 er9499 (by decide))
        · have g9500 : Rg (-1) (-1) r9495 := wk_eql hr9495 (by decide : Rg (-1) (-1) ((-1) : Int32)) c9496 (by decide)
          refine lv_iconst (v := 1) hx hb dX12_misses_38 (by decide) ?_
          refine lv_iload hx hb dX12_misses_39 (lv_at hl 2 rfl) ?_
          refine wk_ishl1 (f := 2048) hx hb dX12_misses_41 g9494 (by decide) (fun r9501 hr9501 qr9501 => ?_)
          refine lv_goto (tgt := 46) hx hb dX12_misses_42 (by decide) ?_
          refine wk_ior 12 (e1 := 1) (f := 4095) hx hb dX12_misses_46 g17_l3 hr9501 (by decide) (fun r9502 hr9502 qr9502 => ?_)
          refine lv_istore_n (lv' := [(3, .int r9502), (0, .ref (b 0)), (4, .int y17_l4)]) hx hb dX12_misses_47 rfl hl (by decide) rfl (fun ls hl => ?_)
          refine wk_iinc (lv' := fun r => [(4, .int r), (3, .int r9502), (0, .ref (b 0))]) (e1 := 1) (f := 12) hx hb dX12_misses_48 hl (k := 2) rfl (by decide) g9494 (by decide) (fun _ => rfl) (fun r9503 ls hr9503 er9503 hl => ?_)
          refine lv_goto (tgt := 17) hx hb dX12_misses_51 (by decide) ?_
          exact ih17 r9502 r9503 v _ _ ls (show Rg 0 4095 r9502 from rg_w hr9502 (by decide) (by decide)) (show Rg 0 12 r9503 from rg_w hr9503 (by decide) (by decide)) hV hP hD hS (lv_sub (l' := [(0, .ref (b 0)), (3, .int r9502), (4, .int r9503)]) hl [2, 1, 0] rfl) (me_up hm17 er9503 (by decide))
  refine lv_aload_n hx hb dX12_misses_0 rfl (lv_at hl 0 rfl) ?_
  refine lv_iload_n hx hb dX12_misses_1 rfl (lv_at hl 1 rfl) ?_
  refine wk_qi (wM cI b L) v (As := [.int x0]) (rest := []) ⟨hx, hb, hml, hown, hts⟩ (w_X12_wrongPairing l D cI cS _ b L v hL hV x0) hKK hP hD hS hA 0 (ci := 12) rfl rfl (cwV 1 hts gX12_misses_X12_wrongPairing rfl rfl rfl (by decide +kernel) ⟨Nat.le_of_ble_eq_true rfl, Nat.le_of_ble_eq_true rfl⟩) rfl hl.1 rfl (Nat.le_of_ble_eq_true rfl) dX12_misses_2 ⟨Nat.le_of_ble_eq_true rfl, Nat.le_of_ble_eq_true rfl⟩ (fun r9504 v H locs hr9504 hP hD hS => ?_)
  have hV := hr9504.1
  refine lv_istore_n (lv' := [(2, .int r9504), (0, .ref (b 0)), (1, .int x0)]) hx hb dX12_misses_5 rfl hl (by decide) rfl (fun ls hl => ?_)
  refine lv_iload_n hx hb dX12_misses_6 rfl (lv_at hl 0 rfl) ?_
  refine lv_if_eq (tgt := 12) hx hb dX12_misses_7 (by decide) (fun c9505 => ?_) (fun c9505 => ?_)
  · have g9506 : Rg 0 3 x0 := (hr9504.2.2 c9505)
    have g9507 : Rg 0 0 r9504 := wk_eql hr9504.2.1 (by decide : Rg 0 0 (0 : Int32)) c9505 (by decide)
    refine lv_iconst (v := 0) hx hb dX12_misses_12 (by decide) ?_
    refine lv_istore_n (lv' := [(3, .int 0), (2, .int r9504), (0, .ref (b 0)), (1, .int x0)]) hx hb dX12_misses_13 rfl hl (by decide) rfl (fun ls hl => ?_)
    refine lv_iconst (v := 0) hx hb dX12_misses_14 (by decide) ?_
    refine lv_istore (lv' := [(4, .int 0), (3, .int 0), (2, .int r9504), (0, .ref (b 0)), (1, .int x0)]) hx hb dX12_misses_15 hl (by decide) rfl (fun ls hl => ?_)
    exact lp17 13 (0 : Int32) (0 : Int32) v _ _ ls (by decide : Rg 0 4095 (0 : Int32)) (by decide : Rg 0 12 (0 : Int32)) hV hP hD hS (lv_sub (l' := [(0, .ref (b 0)), (3, .int 0), (4, .int 0)]) hl [3, 1, 0] rfl) (me_i (by decide : Rg 0 12 (0 : Int32)) (by decide))
  · have g9508 : Rg (-11) (-1) r9504 := rg_ne_hi (k := 0) hr9504.2.1 (by decide) c9505 (by decide)
    refine lv_iload_n hx hb dX12_misses_10 rfl (lv_at hl 0 rfl) ?_
    subst hAe
    exact W.iret (v := r9504) hx hb hr (fun t ht hW => ⟨⟨_, v, rfl, ⟨hV, (show Rg (-11) 4095 r9504 from rg_w g9508 (by decide) (by decide)), trivial⟩, by rw [ht]; exact hP, hD⟩, hS.F ht⟩) hS.2.2 dX12_misses_11
