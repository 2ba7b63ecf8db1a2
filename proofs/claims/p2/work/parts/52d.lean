set_option maxRecDepth 20000 in
theorem ggX12_isAt_X12_in : GoodIn wsX12_isAt wsX12_in := goodIn_r _ [7] (by decide +kernel) (by decide +kernel)
set_option maxRecDepth 20000 in
theorem gX12_isAt_X12_in : GoodIn wsX12_isAt (va_wsS RX12 66 yX12_in wsX12_in) := goodIn_app (goodIn_of _ (by decide +kernel)) ggX12_isAt_X12_in
theorem dX12_isAt_11 : decode cX12_isAt 11 = .ok (.aload_n 0, 1) := by decide +kernel
theorem dX12_isAt_12 : decode cX12_isAt 12 = .ok (.getfield 35, 3) := by decide +kernel
theorem dX12_isAt_15 : decode cX12_isAt 15 = .ok (.aload_n 0, 1) := by decide +kernel
theorem dX12_isAt_16 : decode cX12_isAt 16 = .ok (.getfield 169, 3) := by decide +kernel
theorem dX12_isAt_19 : decode cX12_isAt 19 = .ok (.iaload, 1) := by decide +kernel
theorem dX12_isAt_20 : decode cX12_isAt 20 = .ok (.iload_n 1, 1) := by decide +kernel
theorem dX12_isAt_21 : decode cX12_isAt 21 = .ok (.iload_n 2, 1) := by decide +kernel
theorem dX12_isAt_22 : decode cX12_isAt 22 = .ok (.invokestatic 66, 3) := by decide +kernel
theorem dX12_isAt_25 : decode cX12_isAt 25 = .ok (.ifCond .eq 7, 3) := by decide +kernel
theorem dX12_isAt_28 : decode cX12_isAt 28 = .ok (.iconst 1, 1) := by decide +kernel
theorem dX12_isAt_29 : decode cX12_isAt 29 = .ok (.goto 4, 3) := by decide +kernel
set_option maxHeartbeats 4000000 in
set_option maxRecDepth 100000 in
theorem w_X12_isAt (l : Launch) (D : va_G) (cI cS : ClassId) (b : Nat → Nat) (L v : SU) (hL : TyL L) (hV : TyV v) (x0 x1 : Int32) : Met l yX12_isAt wsX12_isAt ({ frames := 1, cells := 0, slots := 0, locals := 40 }) (PS D cI cS (wM cI b L v) [.ref (b 0), .int x0, .int x1]) (vp_Si (fun r => Rg 0 1 r ∧ (r ≠ 0 → (v 0 12).toInt < (L 0 10).toInt))) 0 0 (fun _ => False) := by
  refine Met.ofW (cc := cX12_isAt) (maxL := 3) (ret := (some .boolean)) (by decide) rfl ?_
  intro p e s m args below meth c s₁ B hml hv
  obtain ⟨rfl, hP, hKK⟩ := hv
  have hx := B.exec
  have hb := B.bytes
  have hr := B.returns
  have hts := atoms_spec (ws := wsX12_isAt) B.pre
  have hown : s.vm.findClass RX12 = some m.cls := findClass_of_methodNamed B.named
  have hlocks := B.notSynchronized
  have hK := hKK.1
  have hin12 : ∀ w ∈ wsX120, w ∈ wsX12_isAt := by decide +kernel
  have hl := lv_entry ([.ref (b 0), .int x0, .int x1]) (n := 3) (Nat.le_of_ble_eq_true rfl)
  rw [lg_entry_eq]
  generalize (lg_sl ([.ref (b 0), .int x0, .int x1]) ++ List.replicate (3 - (lg_sl ([.ref (b 0), .int x0, .int x1])).length) Slot.unset).toArray = ls at hl ⊢
  have hl : lv_has ls 3 [(0, .ref (b 0)), (1, .int x0), (2, .int x1)] := hl
  refine lv_aload_n hx hb dX12_isAt_0 rfl (lv_at hl 0 rfl) ?_
  refine va_get (D := D) (ci := 12) (v := .int (v 0 12)) (C := RX12) (T := TX12) (N := 24) hx hb hts hin12 hown hK hP 0 rfl rfl 12 (by decide) (hts (.fieldLink RX12 169 "MissedPointsModel" "to" "I") (by decide +kernel)) (fun _ h9 => h9) rfl dX12_isAt_1 ?_
  refine lv_aload_n hx hb dX12_isAt_4 rfl (lv_at hl 0 rfl) ?_
  refine va_get (D := D) (ci := 12) (v := .int (L 0 10)) (C := RX12) (T := TX12) (N := 24) hx hb hts hin12 hown hK hP 0 rfl rfl 10 (by decide) (hts (.fieldLink RX12 101 "MissedPointsModel" "taped" "I") (by decide +kernel)) (fun _ h9 => h9) rfl dX12_isAt_5 ?_
  refine lv_icmp_ge (tgt := 32) hx hb dX12_isAt_8 (by decide) (fun c19421 => ?_) (fun c19421 => ?_)
  · refine lv_iconst (v := 0) hx hb dX12_isAt_32 (by decide) ?_
    exact W.zret (v := 0) hx hb hr (by decide) (fun t ht hW => ⟨_, rfl, ⟨(by decide : Rg 0 1 (0 : Int32)), fun h9 => absurd rfl h9⟩, ht⟩) (fun q hq => absurd hq List.not_mem_nil) dX12_isAt_33
  · have g19422 : Rg 1 120 (L 0 10) := rg_ltr hV.1 hL.2.1 (rg_nle c19421) (by decide)
    have g19423 : Rg 0 119 (v 0 12) := rg_ltl hV.1 hL.2.1 (rg_nle c19421) (by decide)
    refine lv_aload_n hx hb dX12_isAt_11 rfl (lv_at hl 0 rfl) ?_
    refine va_get (D := D) (ci := 12) (v := .ref (b 8)) (C := RX12) (T := TX12) (N := 24) hx hb hts hin12 hown hK hP 0 rfl rfl 9 (by decide) (hts (.fieldLink RX12 35 "MissedPointsModel" "tape" "[I") (by decide +kernel)) (fun _ h9 => h9) rfl dX12_isAt_12 ?_
    refine lv_aload_n hx hb dX12_isAt_15 rfl (lv_at hl 0 rfl) ?_
    refine va_get (D := D) (ci := 12) (v := .int (v 0 12)) (C := RX12) (T := TX12) (N := 24) hx hb hts hin12 hown hK hP 0 rfl rfl 12 (by decide) (hts (.fieldLink RX12 169 "MissedPointsModel" "to" "I") (by decide +kernel)) (fun _ h9 => h9) rfl dX12_isAt_16 ?_
    refine wk_aldA hx hb hK hP 8 0 rfl rfl (rg_in g19423 (by decide) (by decide)) dX12_isAt_19 (fun r19424 => ?_)
    refine lv_iload_n hx hb dX12_isAt_20 rfl (lv_at hl 1 rfl) ?_
    refine lv_iload_n hx hb dX12_isAt_21 rfl (lv_at hl 2 rfl) ?_
    refine lz_ss (As := [.int r19424, .int x0, .int x1]) (rest := []) ⟨hx, hb, hml, hown, hts⟩ (w_X12_in l D cI cS r19424 x0 x1) hKK (hP.sub (ws' := []) [] rfl) (va_cwS 3 hts gX12_isAt_X12_in rfl rfl rfl (by decide +kernel) ⟨Nat.le_of_ble_eq_true rfl, Nat.le_of_ble_eq_true rfl⟩) rfl hl.1 rfl (Nat.le_of_ble_eq_true rfl) dX12_isAt_22 ⟨Nat.le_of_ble_eq_true rfl, Nat.le_of_ble_eq_true rfl⟩ (fun r19425 hr19425 => ?_)
    refine lv_if_eq (tgt := 32) hx hb dX12_isAt_25 (by decide) (fun c19426 => ?_) (fun c19426 => ?_)
    · have g19427 : Rg 0 0 r19425 := wk_eql hr19425.1 (by decide : Rg 0 0 (0 : Int32)) c19426 (by decide)
      refine lv_iconst (v := 0) hx hb dX12_isAt_32 (by decide) ?_
      exact W.zret (v := 0) hx hb hr (by decide) (fun t ht hW => ⟨_, rfl, ⟨(by decide : Rg 0 1 (0 : Int32)), fun h9 => absurd rfl h9⟩, ht⟩) (fun q hq => absurd hq List.not_mem_nil) dX12_isAt_33
    · have g19428 : Rg 1 1 r19425 := rg_ne_lo (k := 0) hr19425.1 (by decide) c19426 (by decide)
      refine lv_iconst (v := 1) hx hb dX12_isAt_28 (by decide) ?_
      refine lv_goto (tgt := 33) hx hb dX12_isAt_29 (by decide) ?_
      exact W.zret (v := 1) hx hb hr (by decide) (fun t ht hW => ⟨_, rfl, ⟨(by decide : Rg 0 1 (1 : Int32)), fun _ => (lz_lt _ _).mp (rg_nle c19421)⟩, ht⟩) (fun q hq => absurd hq List.not_mem_nil) dX12_isAt_33
set_option maxRecDepth 20000 in
theorem ggX12_joins_X12_has : GoodIn wsX12_joins wsX12_has := goodIn_r _ [6] (by decide +kernel) (by decide +kernel)
set_option maxRecDepth 20000 in
theorem gX12_joins_X12_has : GoodIn wsX12_joins (va_wsS RX12 59 yX12_has wsX12_has) := goodIn_app (goodIn_of _ (by decide +kernel)) ggX12_joins_X12_has
set_option maxRecDepth 20000 in
theorem ggX12_joins_X12_lays : GoodIn wsX12_joins wsX12_lays := goodIn_r _ [10, 2, 11, 12, 13, 14, 15, 16, 17, 18, 19, 20, 21, 22, 23, 24, 25, 26, 27, 28, 29, 30, 31, 32, 33, 34] (by decide +kernel) (by decide +kernel)
set_option maxRecDepth 20000 in
theorem gX12_joins_X12_lays : GoodIn wsX12_joins (wsV RX12 81 RX12 yX12_lays wsX12_lays) := goodIn_app (goodIn_of _ (by decide +kernel)) ggX12_joins_X12_lays
theorem dX12_joins_0 : decode cX12_joins 0 = .ok (.aload_n 0, 1) := by decide +kernel
theorem dX12_joins_1 : decode cX12_joins 1 = .ok (.dup, 1) := by decide +kernel
theorem dX12_joins_10 : decode cX12_joins 10 = .ok (.iaload, 1) := by decide +kernel
theorem dX12_joins_11 : decode cX12_joins 11 = .ok (.iload_n 2, 1) := by decide +kernel
theorem dX12_joins_12 : decode cX12_joins 12 = .ok (.invokestatic 59, 3) := by decide +kernel
theorem dX12_joins_15 : decode cX12_joins 15 = .ok (.ifCond .eq 7, 3) := by decide +kernel
theorem dX12_joins_18 : decode cX12_joins 18 = .ok (.iconst 0, 1) := by decide +kernel
theorem dX12_joins_19 : decode cX12_joins 19 = .ok (.goto 4, 3) := by decide +kernel
theorem dX12_joins_2 : decode cX12_joins 2 = .ok (.getfield 184, 3) := by decide +kernel
theorem dX12_joins_22 : decode cX12_joins 22 = .ok (.iconst 1, 1) := by decide +kernel
theorem dX12_joins_23 : decode cX12_joins 23 = .ok (.iadd, 1) := by decide +kernel
theorem dX12_joins_24 : decode cX12_joins 24 = .ok (.putfield 184, 3) := by decide +kernel
theorem dX12_joins_27 : decode cX12_joins 27 = .ok (.aload_n 0, 1) := by decide +kernel
theorem dX12_joins_28 : decode cX12_joins 28 = .ok (.iload_n 1, 1) := by decide +kernel
theorem dX12_joins_29 : decode cX12_joins 29 = .ok (.iload_n 2, 1) := by decide +kernel
theorem dX12_joins_30 : decode cX12_joins 30 = .ok (.iconst 1, 1) := by decide +kernel
theorem dX12_joins_31 : decode cX12_joins 31 = .ok (.invokevirtual 81, 3) := by decide +kernel
theorem dX12_joins_34 : decode cX12_joins 34 = .ok (.return_, 1) := by decide +kernel
theorem dX12_joins_5 : decode cX12_joins 5 = .ok (.aload_n 0, 1) := by decide +kernel
theorem dX12_joins_6 : decode cX12_joins 6 = .ok (.getfield 13, 3) := by decide +kernel
theorem dX12_joins_9 : decode cX12_joins 9 = .ok (.iload_n 1, 1) := by decide +kernel
set_option maxHeartbeats 4000000 in
set_option maxRecDepth 100000 in
theorem w_X12_joins (l : Launch) (D : va_G) (cI cS : ClassId) (sz : Nat) (b : Nat → Nat) (L v0 : SU) (hL : TyL L) (hV : TyV v0) (x0 x1 : Int32) (px0 : Rg 0 11 x0) (px1 : Rg 0 11 x1) : Met l yX12_joins wsX12_joins ({ frames := 1, cells := 0, slots := 0, locals := 40 }) (PQ D cI cS (wM cI b L v0) sz [.ref (b 0), .int x0, .int x1]) (QE (S := SU) D (wM cI b L v0) (wM cI b L) sz (fun u => TyV u ∧ True)) 0 0 (va_A (wM cI b L v0) sz) := by
  refine Met.ofW (cc := cX12_joins) (maxL := 3) (ret := none) (by decide) rfl ?_
  intro p e s m args below meth c s₁ B hml hv
  obtain ⟨rfl, hsz, hP, hKK, hD0⟩ := hv
  have hx := B.exec
  have hb := B.bytes
  have hr := B.returns
  have hts := atoms_spec (ws := wsX12_joins) B.pre
  have hown : s.vm.findClass RX12 = some m.cls := findClass_of_methodNamed B.named
  have hlocks := B.notSynchronized
  have hK := hKK.1
  have hin12 : ∀ w ∈ wsX120, w ∈ wsX12_joins := by decide +kernel
  subst hsz
  have hD := hD0.self (sz := s.heap.size)
  obtain ⟨A, hAe⟩ : ∃ A, A = va_A (wM cI b L v0) s.heap.size := ⟨_, rfl⟩
  rw [← hAe] at hD
  have hA : ∀ q : Nat, s.heap.size ≤ q → A q := fun q h => by rw [hAe]; exact Or.inr h
  have hS : va_S A s.heap s.heap [] := va_S.rf
  have hl := lv_entry ([.ref (b 0), .int x0, .int x1]) (n := 3) (Nat.le_of_ble_eq_true rfl)
  rw [lg_entry_eq]
  generalize (lg_sl ([.ref (b 0), .int x0, .int x1]) ++ List.replicate (3 - (lg_sl ([.ref (b 0), .int x0, .int x1])).length) Slot.unset).toArray = ls at hl ⊢
  have hl : lv_has ls 3 [(0, .ref (b 0)), (1, .int x0), (2, .int x1)] := hl
  obtain ⟨v, hv9⟩ : ∃ v : SU, v = v0 := ⟨_, rfl⟩
  rw [← hv9] at hP hD hV
  refine lv_aload_n hx hb dX12_joins_0 rfl (lv_at hl 0 rfl) ?_
  refine lv_dup hx hb dX12_joins_1 rfl ?_
  refine va_get (D := D) (ci := 12) (v := .int (v 0 15)) (C := RX12) (T := TX12) (N := 24) hx hb hts hin12 hown hK hP 0 rfl rfl 15 (by decide) (hts (.fieldLink RX12 184 "MissedPointsModel" "news" "I") (by decide +kernel)) (fun _ h9 => h9) rfl dX12_joins_2 ?_
  refine wk_topP (P := fun r => r = v 0 15) rfl (fun r19453 hr19453 => ?_)
  refine lv_aload_n hx hb dX12_joins_5 rfl (lv_at hl 0 rfl) ?_
  refine va_get (D := D) (ci := 12) (v := .ref (b 1)) (C := RX12) (T := TX12) (N := 24) hx hb hts hin12 hown hK hP 0 rfl rfl 2 (by decide) (hts (.fieldLink RX12 13 "MissedPointsModel" "near" "[I") (by decide +kernel)) (fun _ h9 => h9) rfl dX12_joins_6 ?_
  refine lv_iload_n hx hb dX12_joins_9 rfl (lv_at hl 1 rfl) ?_
  refine wk_ald hx hb hK hP 1 0 rfl rfl (rg_in px0 (by decide) (by decide)) dX12_joins_10 hV.2.1 (fun r19454 hr19454 => ?_)
  refine lv_iload_n hx hb dX12_joins_11 rfl (lv_at hl 2 rfl) ?_
  refine lz_ss (As := [.int r19454, .int x1]) (rest := [.int r19453, .ref (b 0)]) ⟨hx, hb, hml, hown, hts⟩ (w_X12_has l D cI cS r19454 x1) hKK (hP.sub (ws' := []) [] rfl) (va_cwS 2 hts gX12_joins_X12_has rfl rfl rfl (by decide +kernel) ⟨Nat.le_of_ble_eq_true rfl, Nat.le_of_ble_eq_true rfl⟩) rfl hl.1 rfl (Nat.le_of_ble_eq_true rfl) dX12_joins_12 ⟨Nat.le_of_ble_eq_true rfl, Nat.le_of_ble_eq_true rfl⟩ (fun r19455 hr19455 => ?_)
  refine lv_if_eq (tgt := 22) hx hb dX12_joins_15 (by decide) (fun c19456 => ?_) (fun c19456 => ?_)
  · have g19457 : Rg 0 0 r19455 := wk_eql hr19455.1 (by decide : Rg 0 0 (0 : Int32)) c19456 (by decide)
    refine lv_iconst (v := 1) hx hb dX12_joins_22 (by decide) ?_
    refine lv_iadd hx hb dX12_joins_23 ?_
    refine wk_topP (P := fun r => r = r19453 + (1 : Int32)) rfl (fun r19458 qr19458 => ?_)
    refine mp_15 hx hb hts hin12 hown hK hP hD hS hV (hts (.fieldLink RX12 184 "MissedPointsModel" "news" "I") (by decide +kernel)) dX12_joins_24 (fun v H locs hV ev19459 hP hD hS => ?_)
    refine lv_aload_n hx hb dX12_joins_27 rfl (lv_at hl 0 rfl) ?_
    refine lv_iload_n hx hb dX12_joins_28 rfl (lv_at hl 1 rfl) ?_
    refine lv_iload_n hx hb dX12_joins_29 rfl (lv_at hl 2 rfl) ?_
    refine lv_iconst (v := 1) hx hb dX12_joins_30 (by decide) ?_
    refine wk_qv (wM cI b L) v (As := [.int x0, .int x1, .int 1]) (rest := []) ⟨hx, hb, hml, hown, hts⟩ (w_X12_lays l D cI cS _ b L v hL hV x0 x1 (1 : Int32) px0 px1 (by decide : Rg 0 1 (1 : Int32))) hKK hP hD hS hA 0 (ci := 12) rfl rfl (cwV 3 hts gX12_joins_X12_lays rfl rfl rfl (by decide +kernel) ⟨Nat.le_of_ble_eq_true rfl, Nat.le_of_ble_eq_true rfl⟩) rfl hl.1 rfl (Nat.le_of_ble_eq_true rfl) dX12_joins_31 ⟨Nat.le_of_ble_eq_true rfl, Nat.le_of_ble_eq_true rfl⟩ (fun v H locs hr19460 hP hD hS => ?_)
    have hV := hr19460.1
    subst hAe
    exact W.vret hx hb hr (fun t ht hW => ⟨⟨v, rfl, ⟨hV, trivial⟩, by rw [ht]; exact hP, hD⟩, hS.F ht⟩) hS.2.2 dX12_joins_34
  · have g19461 : Rg 1 1 r19455 := rg_ne_lo (k := 0) hr19455.1 (by decide) c19456 (by decide)
    refine lv_iconst (v := 0) hx hb dX12_joins_18 (by decide) ?_
    refine lv_goto (tgt := 23) hx hb dX12_joins_19 (by decide) ?_
    refine wk_iadd (e1 := (-2147483648)) (f := 2147483647) hx hb dX12_joins_23 (rg_any r19453) (by decide : Rg 0 0 (0 : Int32)) (by decide) (fun r19462 hr19462 er19462 qr19462 => ?_)
    refine mp_15 hx hb hts hin12 hown hK hP hD hS hV (hts (.fieldLink RX12 184 "MissedPointsModel" "news" "I") (by decide +kernel)) dX12_joins_24 (fun v H locs hV ev19463 hP hD hS => ?_)
    refine lv_aload_n hx hb dX12_joins_27 rfl (lv_at hl 0 rfl) ?_
    refine lv_iload_n hx hb dX12_joins_28 rfl (lv_at hl 1 rfl) ?_
    refine lv_iload_n hx hb dX12_joins_29 rfl (lv_at hl 2 rfl) ?_
    refine lv_iconst (v := 1) hx hb dX12_joins_30 (by decide) ?_
    refine wk_qv (wM cI b L) v (As := [.int x0, .int x1, .int 1]) (rest := []) ⟨hx, hb, hml, hown, hts⟩ (w_X12_lays l D cI cS _ b L v hL hV x0 x1 (1 : Int32) px0 px1 (by decide : Rg 0 1 (1 : Int32))) hKK hP hD hS hA 0 (ci := 12) rfl rfl (cwV 3 hts gX12_joins_X12_lays rfl rfl rfl (by decide +kernel) ⟨Nat.le_of_ble_eq_true rfl, Nat.le_of_ble_eq_true rfl⟩) rfl hl.1 rfl (Nat.le_of_ble_eq_true rfl) dX12_joins_31 ⟨Nat.le_of_ble_eq_true rfl, Nat.le_of_ble_eq_true rfl⟩ (fun v H locs hr19464 hP hD hS => ?_)
    have hV := hr19464.1
    subst hAe
    exact W.vret hx hb hr (fun t ht hW => ⟨⟨v, rfl, ⟨hV, trivial⟩, by rw [ht]; exact hP, hD⟩, hS.F ht⟩) hS.2.2 dX12_joins_34
