set_option maxHeartbeats 4000000 in
set_option maxRecDepth 100000 in
theorem w_X12_count (l : Launch) (D : va_G) (cI cS : ClassId) (sz : Nat) (b : Nat → Nat) (L v0 : SU) (hL : TyL L) (hV : TyV v0) (x0 : Int32) : Met l yX12_count wsX12_count ({ frames := 5, cells := 0, slots := 0, locals := 200 }) (PQ D cI cS (wM cI b L v0) sz [.ref (b 0), .int x0]) (QF (S := SU) D (wM cI b L v0) (wM cI b L) sz (fun r u => TyV u ∧ Rg (-2147483648) 2147483647 r ∧ True)) 0 0 (va_A (wM cI b L v0) sz) := by
  refine Met.ofW (cc := cX12_count) (maxL := 2) (ret := (some .int)) (by decide) rfl ?_
  intro p e s m args below meth c s₁ B hml hv
  obtain ⟨rfl, hsz, hP, hKK, hD0⟩ := hv
  have hx := B.exec
  have hb := B.bytes
  have hr := B.returns
  have hts := atoms_spec (ws := wsX12_count) B.pre
  have hown : s.vm.findClass RX12 = some m.cls := findClass_of_methodNamed B.named
  have hlocks := B.notSynchronized
  have hK := hKK.1
  have hin12 : ∀ w ∈ wsX120, w ∈ wsX12_count := by decide +kernel
  subst hsz
  have hD := hD0.self (sz := s.heap.size)
  obtain ⟨A, hAe⟩ : ∃ A, A = va_A (wM cI b L v0) s.heap.size := ⟨_, rfl⟩
  rw [← hAe] at hD
  have hA : ∀ q : Nat, s.heap.size ≤ q → A q := fun q h => by rw [hAe]; exact Or.inr h
  have hS : va_S A s.heap s.heap [] := va_S.rf
  have hl := lv_entry ([.ref (b 0), .int x0]) (n := 2) (Nat.le_of_ble_eq_true rfl)
  rw [lg_entry_eq]
  generalize (lg_sl ([.ref (b 0), .int x0]) ++ List.replicate (2 - (lg_sl ([.ref (b 0), .int x0])).length) Slot.unset).toArray = ls at hl ⊢
  have hl : lv_has ls 2 [(0, .ref (b 0)), (1, .int x0)] := hl
  obtain ⟨v, hv9⟩ : ∃ v : SU, v = v0 := ⟨_, rfl⟩
  rw [← hv9] at hP hD hV
  refine lv_iload_n hx hb dX12_count_0 rfl (lv_at hl 1 rfl) ?_
  by_cases k5170 : x0 = 0
  · refine lz_top (y := 0) k5170 ?_
    refine lv_tableIn (tgt := 44) (off := 43) hx hb dX12_count_1 (by decide) (by decide) rfl (by decide) ?_
    refine lv_aload_n hx hb dX12_count_44 rfl (lv_at hl 0 rfl) ?_
    refine va_get (D := D) (ci := 12) (v := .int (L 0 0)) (C := RX12) (T := TX12) (N := 24) hx hb hts hin12 hown hK hP 0 rfl rfl 0 (by decide) (hts (.fieldLink RX12 63 "MissedPointsModel" "many" "I") (by decide +kernel)) (fun _ h9 => h9) rfl dX12_count_45 ?_
    subst hAe
    exact W.iret (v := (L 0 0)) hx hb hr (fun t ht hW => ⟨⟨_, v, rfl, ⟨hV, (rg_any (L 0 0)), trivial⟩, by rw [ht]; exact hP, hD⟩, hS.F ht⟩) hS.2.2 dX12_count_48
  by_cases k5171 : x0 = 1
  · refine lz_top (y := 1) k5171 ?_
    refine lv_tableIn (tgt := 49) (off := 48) hx hb dX12_count_1 (by decide) (by decide) rfl (by decide) ?_
    refine lv_aload_n hx hb dX12_count_49 rfl (lv_at hl 0 rfl) ?_
    refine wk_sv 0 (As := []) (rest := []) ⟨hx, hb, hml, hown, hts⟩ (w_X12_lines l D cI cS b L v hL hV) hKK hP (ci := 12) rfl rfl (cwV 0 hts gX12_count_X12_lines rfl rfl rfl (by decide +kernel) ⟨Nat.le_of_ble_eq_true rfl, Nat.le_of_ble_eq_true rfl⟩) rfl hl.1 rfl (Nat.le_of_ble_eq_true rfl) dX12_count_50 ⟨Nat.le_of_ble_eq_true rfl, Nat.le_of_ble_eq_true rfl⟩ (fun r5172 hr5172 => ?_)
    subst hAe
    exact W.iret (v := r5172) hx hb hr (fun t ht hW => ⟨⟨_, v, rfl, ⟨hV, hr5172.1, trivial⟩, by rw [ht]; exact hP, hD⟩, hS.F ht⟩) hS.2.2 dX12_count_53
  by_cases k5173 : x0 = 2
  · refine lz_top (y := 2) k5173 ?_
    refine lv_tableIn (tgt := 54) (off := 53) hx hb dX12_count_1 (by decide) (by decide) rfl (by decide) ?_
    refine lv_aload_n hx hb dX12_count_54 rfl (lv_at hl 0 rfl) ?_
    refine wk_qi (wM cI b L) v (As := []) (rest := []) ⟨hx, hb, hml, hown, hts⟩ (w_X12_greatest l D cI cS _ b L v hL hV) hKK hP hD hS hA 0 (ci := 12) rfl rfl (cwV 0 hts gX12_count_X12_greatest rfl rfl rfl (by decide +kernel) ⟨Nat.le_of_ble_eq_true rfl, Nat.le_of_ble_eq_true rfl⟩) rfl hl.1 rfl (Nat.le_of_ble_eq_true rfl) dX12_count_55 ⟨Nat.le_of_ble_eq_true rfl, Nat.le_of_ble_eq_true rfl⟩ (fun r5174 v H locs hr5174 hP hD hS => ?_)
    have hV := hr5174.1
    subst hAe
    exact W.iret (v := r5174) hx hb hr (fun t ht hW => ⟨⟨_, v, rfl, ⟨hV, hr5174.2.1, trivial⟩, by rw [ht]; exact hP, hD⟩, hS.F ht⟩) hS.2.2 dX12_count_58
  by_cases k5175 : x0 = 3
  · refine lz_top (y := 3) k5175 ?_
    refine lv_tableIn (tgt := 59) (off := 58) hx hb dX12_count_1 (by decide) (by decide) rfl (by decide) ?_
    refine lv_aload_n hx hb dX12_count_59 rfl (lv_at hl 0 rfl) ?_
    refine wk_qi (wM cI b L) v (As := []) (rest := []) ⟨hx, hb, hml, hown, hts⟩ (w_X12_lack l D cI cS _ b L v hL hV) hKK hP hD hS hA 0 (ci := 12) rfl rfl (cwV 0 hts gX12_count_X12_lack rfl rfl rfl (by decide +kernel) ⟨Nat.le_of_ble_eq_true rfl, Nat.le_of_ble_eq_true rfl⟩) rfl hl.1 rfl (Nat.le_of_ble_eq_true rfl) dX12_count_60 ⟨Nat.le_of_ble_eq_true rfl, Nat.le_of_ble_eq_true rfl⟩ (fun r5176 v H locs hr5176 hP hD hS => ?_)
    have hV := hr5176.1
    subst hAe
    exact W.iret (v := r5176) hx hb hr (fun t ht hW => ⟨⟨_, v, rfl, ⟨hV, hr5176.2.1, trivial⟩, by rw [ht]; exact hP, hD⟩, hS.F ht⟩) hS.2.2 dX12_count_63
  by_cases k5177 : x0 = 4
  · refine lz_top (y := 4) k5177 ?_
    refine lv_tableIn (tgt := 64) (off := 63) hx hb dX12_count_1 (by decide) (by decide) rfl (by decide) ?_
    refine lv_aload_n hx hb dX12_count_64 rfl (lv_at hl 0 rfl) ?_
    refine lv_aload_n hx hb dX12_count_65 rfl (lv_at hl 0 rfl) ?_
    refine wk_sv 0 (As := []) (rest := [.ref (b 0)]) ⟨hx, hb, hml, hown, hts⟩ (w_X12_all l D cI cS b L v hL hV) hKK hP (ci := 12) rfl rfl (cwV 0 hts gX12_count_X12_all rfl rfl rfl (by decide +kernel) ⟨Nat.le_of_ble_eq_true rfl, Nat.le_of_ble_eq_true rfl⟩) rfl hl.1 rfl (Nat.le_of_ble_eq_true rfl) dX12_count_66 ⟨Nat.le_of_ble_eq_true rfl, Nat.le_of_ble_eq_true rfl⟩ (fun r5178 hr5178 => ?_)
    refine wk_sv 0 (As := [.int r5178]) (rest := []) ⟨hx, hb, hml, hown, hts⟩ (w_X12_piecesOf l D cI cS b L v hL hV r5178 hr5178.1) hKK hP (ci := 12) rfl rfl (cwV 1 hts gX12_count_X12_piecesOf rfl rfl rfl (by decide +kernel) ⟨Nat.le_of_ble_eq_true rfl, Nat.le_of_ble_eq_true rfl⟩) rfl hl.1 rfl (Nat.le_of_ble_eq_true rfl) dX12_count_69 ⟨Nat.le_of_ble_eq_true rfl, Nat.le_of_ble_eq_true rfl⟩ (fun r5179 hr5179 => ?_)
    subst hAe
    exact W.iret (v := r5179) hx hb hr (fun t ht hW => ⟨⟨_, v, rfl, ⟨hV, hr5179.1, trivial⟩, by rw [ht]; exact hP, hD⟩, hS.F ht⟩) hS.2.2 dX12_count_72
  by_cases k5180 : x0 = 5
  · refine lz_top (y := 5) k5180 ?_
    refine lv_tableIn (tgt := 73) (off := 72) hx hb dX12_count_1 (by decide) (by decide) rfl (by decide) ?_
    refine lv_aload_n hx hb dX12_count_73 rfl (lv_at hl 0 rfl) ?_
    refine va_get (D := D) (ci := 12) (v := .int (L 0 10)) (C := RX12) (T := TX12) (N := 24) hx hb hts hin12 hown hK hP 0 rfl rfl 10 (by decide) (hts (.fieldLink RX12 101 "MissedPointsModel" "taped" "I") (by decide +kernel)) (fun _ h9 => h9) rfl dX12_count_74 ?_
    subst hAe
    exact W.iret (v := (L 0 10)) hx hb hr (fun t ht hW => ⟨⟨_, v, rfl, ⟨hV, (rg_any (L 0 10)), trivial⟩, by rw [ht]; exact hP, hD⟩, hS.F ht⟩) hS.2.2 dX12_count_77
  by_cases k5181 : x0 = 6
  · refine lz_top (y := 6) k5181 ?_
    refine lv_tableIn (tgt := 78) (off := 77) hx hb dX12_count_1 (by decide) (by decide) rfl (by decide) ?_
    refine lv_aload_n hx hb dX12_count_78 rfl (lv_at hl 0 rfl) ?_
    refine va_get (D := D) (ci := 12) (v := .int (L 0 1)) (C := RX12) (T := TX12) (N := 24) hx hb hts hin12 hown hK hP 0 rfl rfl 1 (by decide) (hts (.fieldLink RX12 7 "MissedPointsModel" "z" "I") (by decide +kernel)) (fun _ h9 => h9) rfl dX12_count_79 ?_
    subst hAe
    exact W.iret (v := (L 0 1)) hx hb hr (fun t ht hW => ⟨⟨_, v, rfl, ⟨hV, (rg_any (L 0 1)), trivial⟩, by rw [ht]; exact hP, hD⟩, hS.F ht⟩) hS.2.2 dX12_count_82
  refine lv_tableOut (tgt := 83) hx hb dX12_count_1 (by have z0 : ¬ x0.toInt = 0 := fun z => k5170 (Int32.toInt_inj.mp (z.trans (by decide : (0 : Int) = (0 : Int32).toInt))); have z1 : ¬ x0.toInt = 1 := fun z => k5171 (Int32.toInt_inj.mp (z.trans (by decide : (1 : Int) = (1 : Int32).toInt))); have z2 : ¬ x0.toInt = 2 := fun z => k5173 (Int32.toInt_inj.mp (z.trans (by decide : (2 : Int) = (2 : Int32).toInt))); have z3 : ¬ x0.toInt = 3 := fun z => k5175 (Int32.toInt_inj.mp (z.trans (by decide : (3 : Int) = (3 : Int32).toInt))); have z4 : ¬ x0.toInt = 4 := fun z => k5177 (Int32.toInt_inj.mp (z.trans (by decide : (4 : Int) = (4 : Int32).toInt))); have z5 : ¬ x0.toInt = 5 := fun z => k5180 (Int32.toInt_inj.mp (z.trans (by decide : (5 : Int) = (5 : Int32).toInt))); have z6 : ¬ x0.toInt = 6 := fun z => k5181 (Int32.toInt_inj.mp (z.trans (by decide : (6 : Int) = (6 : Int32).toInt))); omega) (by decide) ?_
  refine lv_bipush (v := (-2)) hx hb dX12_count_83 (by decide) ?_
  subst hAe
  exact W.iret (v := (-2)) hx hb hr (fun t ht hW => ⟨⟨_, v, rfl, ⟨hV, (by decide : Rg (-2147483648) 2147483647 ((-2) : Int32)), trivial⟩, by rw [ht]; exact hP, hD⟩, hS.F ht⟩) hS.2.2 dX12_count_85
set_option maxHeartbeats 4000000 in
set_option maxRecDepth 100000 in
theorem w_X12_setOf (l : Launch) (D : va_G) (cI cS : ClassId) (sz : Nat) (b : Nat → Nat) (L v0 : SU) (hL : TyL L) (hV : TyV v0) (x0 : Int32) : Met l yX12_setOf wsX12_setOf ({ frames := 3, cells := 0, slots := 0, locals := 120 }) (PQ D cI cS (wM cI b L v0) sz [.ref (b 0), .int x0]) (QF (S := SU) D (wM cI b L v0) (wM cI b L) sz (fun r u => TyV u ∧ Rg 0 4095 r ∧ True)) 0 0 (va_A (wM cI b L v0) sz) := by
  refine Met.ofW (cc := cX12_setOf) (maxL := 2) (ret := (some .int)) (by decide) rfl ?_
  intro p e s m args below meth c s₁ B hml hv
  obtain ⟨rfl, hsz, hP, hKK, hD0⟩ := hv
  have hx := B.exec
  have hb := B.bytes
  have hr := B.returns
  have hts := atoms_spec (ws := wsX12_setOf) B.pre
  have hown : s.vm.findClass RX12 = some m.cls := findClass_of_methodNamed B.named
  have hlocks := B.notSynchronized
  have hK := hKK.1
  subst hsz
  have hD := hD0.self (sz := s.heap.size)
  obtain ⟨A, hAe⟩ : ∃ A, A = va_A (wM cI b L v0) s.heap.size := ⟨_, rfl⟩
  rw [← hAe] at hD
  have hA : ∀ q : Nat, s.heap.size ≤ q → A q := fun q h => by rw [hAe]; exact Or.inr h
  have hS : va_S A s.heap s.heap [] := va_S.rf
  have hl := lv_entry ([.ref (b 0), .int x0]) (n := 2) (Nat.le_of_ble_eq_true rfl)
  rw [lg_entry_eq]
  generalize (lg_sl ([.ref (b 0), .int x0]) ++ List.replicate (2 - (lg_sl ([.ref (b 0), .int x0])).length) Slot.unset).toArray = ls at hl ⊢
  have hl : lv_has ls 2 [(0, .ref (b 0)), (1, .int x0)] := hl
  obtain ⟨v, hv9⟩ : ∃ v : SU, v = v0 := ⟨_, rfl⟩
  rw [← hv9] at hP hD hV
  refine lv_aload_n hx hb dX12_setOf_0 rfl (lv_at hl 0 rfl) ?_
  refine wk_qv (wM cI b L) v (As := []) (rest := []) ⟨hx, hb, hml, hown, hts⟩ (w_X12_reckons l D cI cS _ b L v hL hV) hKK hP hD hS hA 0 (ci := 12) rfl rfl (cwV 0 hts gX12_setOf_X12_reckons rfl rfl rfl (by decide +kernel) ⟨Nat.le_of_ble_eq_true rfl, Nat.le_of_ble_eq_true rfl⟩) rfl hl.1 rfl (Nat.le_of_ble_eq_true rfl) dX12_setOf_1 ⟨Nat.le_of_ble_eq_true rfl, Nat.le_of_ble_eq_true rfl⟩ (fun v H locs hr5187 hP hD hS => ?_)
  have hV := hr5187.1
  refine lv_aload_n hx hb dX12_setOf_4 rfl (lv_at hl 0 rfl) ?_
  refine lv_iload_n hx hb dX12_setOf_5 rfl (lv_at hl 1 rfl) ?_
  refine lv_if_ne (tgt := 13) hx hb dX12_setOf_6 (by decide) (fun c5188 => ?_) (fun c5188 => ?_)
  · refine lv_iconst (v := 2) hx hb dX12_setOf_13 (by decide) ?_
    refine wk_sv 0 (As := [.int 2]) (rest := []) ⟨hx, hb, hml, hown, hts⟩ (w_X12_markedSet l D cI cS b L v hL hV (2 : Int32)) hKK hP (ci := 12) rfl rfl (cwV 1 hts gX12_setOf_X12_markedSet rfl rfl rfl (by decide +kernel) ⟨Nat.le_of_ble_eq_true rfl, Nat.le_of_ble_eq_true rfl⟩) rfl hl.1 rfl (Nat.le_of_ble_eq_true rfl) dX12_setOf_14 ⟨Nat.le_of_ble_eq_true rfl, Nat.le_of_ble_eq_true rfl⟩ (fun r5189 hr5189 => ?_)
    subst hAe
    exact W.iret (v := r5189) hx hb hr (fun t ht hW => ⟨⟨_, v, rfl, ⟨hV, hr5189.1, trivial⟩, by rw [ht]; exact hP, hD⟩, hS.F ht⟩) hS.2.2 dX12_setOf_17
  · have g5190 : Rg 0 0 x0 := wk_eql (rg_any x0) (by decide : Rg 0 0 (0 : Int32)) c5188 (by decide)
    refine lv_iconst (v := 0) hx hb dX12_setOf_9 (by decide) ?_
    refine lv_goto (tgt := 14) hx hb dX12_setOf_10 (by decide) ?_
    refine wk_sv 0 (As := [.int 0]) (rest := []) ⟨hx, hb, hml, hown, hts⟩ (w_X12_markedSet l D cI cS b L v hL hV (0 : Int32)) hKK hP (ci := 12) rfl rfl (cwV 1 hts gX12_setOf_X12_markedSet rfl rfl rfl (by decide +kernel) ⟨Nat.le_of_ble_eq_true rfl, Nat.le_of_ble_eq_true rfl⟩) rfl hl.1 rfl (Nat.le_of_ble_eq_true rfl) dX12_setOf_14 ⟨Nat.le_of_ble_eq_true rfl, Nat.le_of_ble_eq_true rfl⟩ (fun r5191 hr5191 => ?_)
    subst hAe
    exact W.iret (v := r5191) hx hb hr (fun t ht hW => ⟨⟨_, v, rfl, ⟨hV, hr5191.1, trivial⟩, by rw [ht]; exact hP, hD⟩, hS.F ht⟩) hS.2.2 dX12_setOf_17
set_option maxHeartbeats 4000000 in
set_option maxRecDepth 100000 in
theorem w_X12_pieces (l : Launch) (D : va_G) (cI cS : ClassId) (sz : Nat) (b : Nat → Nat) (L v0 : SU) (hL : TyL L) (hV : TyV v0) (x0 : Int32) : Met l yX12_pieces wsX12_pieces ({ frames := 4, cells := 0, slots := 0, locals := 160 }) (PQ D cI cS (wM cI b L v0) sz [.ref (b 0), .int x0]) (QF (S := SU) D (wM cI b L v0) (wM cI b L) sz (fun r u => TyV u ∧ Rg (-2147483648) 2147483647 r ∧ True)) 0 0 (va_A (wM cI b L v0) sz) := by
  refine Met.ofW (cc := cX12_pieces) (maxL := 2) (ret := (some .int)) (by decide) rfl ?_
  intro p e s m args below meth c s₁ B hml hv
  obtain ⟨rfl, hsz, hP, hKK, hD0⟩ := hv
  have hx := B.exec
  have hb := B.bytes
  have hr := B.returns
  have hts := atoms_spec (ws := wsX12_pieces) B.pre
  have hown : s.vm.findClass RX12 = some m.cls := findClass_of_methodNamed B.named
  have hlocks := B.notSynchronized
  have hK := hKK.1
  subst hsz
  have hD := hD0.self (sz := s.heap.size)
  obtain ⟨A, hAe⟩ : ∃ A, A = va_A (wM cI b L v0) s.heap.size := ⟨_, rfl⟩
  rw [← hAe] at hD
  have hA : ∀ q : Nat, s.heap.size ≤ q → A q := fun q h => by rw [hAe]; exact Or.inr h
  have hS : va_S A s.heap s.heap [] := va_S.rf
  have hl := lv_entry ([.ref (b 0), .int x0]) (n := 2) (Nat.le_of_ble_eq_true rfl)
  rw [lg_entry_eq]
  generalize (lg_sl ([.ref (b 0), .int x0]) ++ List.replicate (2 - (lg_sl ([.ref (b 0), .int x0])).length) Slot.unset).toArray = ls at hl ⊢
  have hl : lv_has ls 2 [(0, .ref (b 0)), (1, .int x0)] := hl
  obtain ⟨v, hv9⟩ : ∃ v : SU, v = v0 := ⟨_, rfl⟩
  rw [← hv9] at hP hD hV
  refine lv_iload_n hx hb dX12_pieces_0 rfl (lv_at hl 1 rfl) ?_
  refine lv_iconst (v := 0) hx hb dX12_pieces_1 (by decide) ?_
  refine lv_iconst (v := 1) hx hb dX12_pieces_2 (by decide) ?_
  refine lz_ss (As := [.int x0, .int 0, .int 1]) (rest := []) ⟨hx, hb, hml, hown, hts⟩ (w_X12_in l D cI cS x0 (0 : Int32) (1 : Int32)) hKK (hP.sub (ws' := []) [] rfl) (va_cwS 3 hts gX12_pieces_X12_in rfl rfl rfl (by decide +kernel) ⟨Nat.le_of_ble_eq_true rfl, Nat.le_of_ble_eq_true rfl⟩) rfl hl.1 rfl (Nat.le_of_ble_eq_true rfl) dX12_pieces_3 ⟨Nat.le_of_ble_eq_true rfl, Nat.le_of_ble_eq_true rfl⟩ (fun r5201 hr5201 => ?_)
  refine lv_if_eq (tgt := 21) hx hb dX12_pieces_6 (by decide) (fun c5202 => ?_) (fun c5202 => ?_)
  · have zt5203 : (x0.toInt < (0 : Int32).toInt ∨ (1 : Int32).toInt < x0.toInt) := hr5201.2.1 c5202
    have g5204 : Rg 0 0 r5201 := wk_eql hr5201.1 (by decide : Rg 0 0 (0 : Int32)) c5202 (by decide)
    refine lv_bipush (v := (-2)) hx hb dX12_pieces_21 (by decide) ?_
    subst hAe
    exact W.iret (v := (-2)) hx hb hr (fun t ht hW => ⟨⟨_, v, rfl, ⟨hV, (by decide : Rg (-2147483648) 2147483647 ((-2) : Int32)), trivial⟩, by rw [ht]; exact hP, hD⟩, hS.F ht⟩) hS.2.2 dX12_pieces_23
  · have zn5205 : (0 : Int32).toInt ≤ x0.toInt ∧ x0.toInt ≤ (1 : Int32).toInt := (hr5201.2.2 c5202)
    have g5206 : Rg 0 1 x0 := wk_in3 (rg_any x0) (by decide : Rg 0 0 (0 : Int32)) (by decide : Rg 1 1 (1 : Int32)) (hr5201.2.2 c5202) (by decide)
    have g5207 : Rg 1 1 r5201 := rg_ne_lo (k := 0) hr5201.1 (by decide) c5202 (by decide)
    refine lv_aload_n hx hb dX12_pieces_9 rfl (lv_at hl 0 rfl) ?_
    refine lv_aload_n hx hb dX12_pieces_10 rfl (lv_at hl 0 rfl) ?_
    refine lv_iload_n hx hb dX12_pieces_11 rfl (lv_at hl 1 rfl) ?_
    refine wk_qi (wM cI b L) v (As := [.int x0]) (rest := [.ref (b 0)]) ⟨hx, hb, hml, hown, hts⟩ (w_X12_setOf l D cI cS _ b L v hL hV x0) hKK hP hD hS hA 0 (ci := 12) rfl rfl (cwV 1 hts gX12_pieces_X12_setOf rfl rfl rfl (by decide +kernel) ⟨Nat.le_of_ble_eq_true rfl, Nat.le_of_ble_eq_true rfl⟩) rfl hl.1 rfl (Nat.le_of_ble_eq_true rfl) dX12_pieces_12 ⟨Nat.le_of_ble_eq_true rfl, Nat.le_of_ble_eq_true rfl⟩ (fun r5208 v H locs hr5208 hP hD hS => ?_)
    have hV := hr5208.1
    refine wk_sv 0 (As := [.int r5208]) (rest := []) ⟨hx, hb, hml, hown, hts⟩ (w_X12_piecesOf l D cI cS b L v hL hV r5208 hr5208.2.1) hKK hP (ci := 12) rfl rfl (cwV 1 hts gX12_pieces_X12_piecesOf rfl rfl rfl (by decide +kernel) ⟨Nat.le_of_ble_eq_true rfl, Nat.le_of_ble_eq_true rfl⟩) rfl hl.1 rfl (Nat.le_of_ble_eq_true rfl) dX12_pieces_15 ⟨Nat.le_of_ble_eq_true rfl, Nat.le_of_ble_eq_true rfl⟩ (fun r5209 hr5209 => ?_)
    refine lv_goto (tgt := 23) hx hb dX12_pieces_18 (by decide) ?_
    subst hAe
    exact W.iret (v := r5209) hx hb hr (fun t ht hW => ⟨⟨_, v, rfl, ⟨hV, hr5209.1, trivial⟩, by rw [ht]; exact hP, hD⟩, hS.F ht⟩) hS.2.2 dX12_pieces_23
set_option maxRecDepth 20000 in
theorem ggX12_pieceAt_X12_pieceOf : GoodIn wsX12_pieceAt wsX12_pieceOf := goodIn_r _ [35, 12, 13, 21, 22, 4, 23, 36, 37, 38, 39, 40, 41, 42, 43, 44, 45, 46, 47, 48, 49, 50, 51, 52, 53, 54, 55, 56, 57, 58, 59] rfl (by decide +kernel)
set_option maxRecDepth 20000 in
theorem gX12_pieceAt_X12_pieceOf : GoodIn wsX12_pieceAt (wsV RX12 129 RX12 yX12_pieceOf wsX12_pieceOf) := goodIn_app (goodIn_of _ (by decide +kernel)) ggX12_pieceAt_X12_pieceOf
theorem dX12_pieceAt_19 : decode cX12_pieceAt 19 = .ok (.iload_n 3, 1) := by decide +kernel
theorem dX12_pieceAt_20 : decode cX12_pieceAt 20 = .ok (.aload_n 0, 1) := by decide +kernel
theorem dX12_pieceAt_21 : decode cX12_pieceAt 21 = .ok (.iload_n 3, 1) := by decide +kernel
theorem dX12_pieceAt_22 : decode cX12_pieceAt 22 = .ok (.invokevirtual 129, 3) := by decide +kernel
theorem dX12_pieceAt_25 : decode cX12_pieceAt 25 = .ok (.iconst (-1), 1) := by decide +kernel
theorem dX12_pieceAt_26 : decode cX12_pieceAt 26 = .ok (.ixor, 1) := by decide +kernel
theorem dX12_pieceAt_27 : decode cX12_pieceAt 27 = .ok (.iand, 1) := by decide +kernel
theorem dX12_pieceAt_28 : decode cX12_pieceAt 28 = .ok (.istore_n 3, 1) := by decide +kernel
theorem dX12_pieceAt_29 : decode cX12_pieceAt 29 = .ok (.iinc 4 1, 3) := by decide +kernel
theorem dX12_pieceAt_32 : decode cX12_pieceAt 32 = .ok (.goto (-23), 3) := by decide +kernel
theorem dX12_pieceAt_47 : decode cX12_pieceAt 47 = .ok (.aload_n 0, 1) := by decide +kernel
theorem dX12_pieceAt_48 : decode cX12_pieceAt 48 = .ok (.iload_n 3, 1) := by decide +kernel
theorem dX12_pieceAt_49 : decode cX12_pieceAt 49 = .ok (.invokevirtual 129, 3) := by decide +kernel
set_option maxHeartbeats 4000000 in
set_option maxRecDepth 100000 in
theorem w_X12_pieceAt (l : Launch) (D : va_G) (cI cS : ClassId) (sz : Nat) (b : Nat → Nat) (L v0 : SU) (hL : TyL L) (hV : TyV v0) (x0 x1 : Int32) (px0 : Rg 0 1 x0) : Met l yX12_pieceAt wsX12_pieceAt ({ frames := 4, cells := 0, slots := 0, locals := 160 }) (PQ D cI cS (wM cI b L v0) sz [.ref (b 0), .int x0, .int x1]) (QF (S := SU) D (wM cI b L v0) (wM cI b L) sz (fun r u => TyV u ∧ Rg 0 4095 r ∧ True)) 0 0 (va_A (wM cI b L v0) sz) := by
  refine Met.ofW (cc := cX12_pieceAt) (maxL := 5) (ret := (some .int)) (by decide) rfl ?_
  intro p e s m args below meth c s₁ B hml hv
  obtain ⟨rfl, hsz, hP, hKK, hD0⟩ := hv
  have hx := B.exec
  have hb := B.bytes
  have hr := B.returns
  have hts := atoms_spec (ws := wsX12_pieceAt) B.pre
  have hown : s.vm.findClass RX12 = some m.cls := findClass_of_methodNamed B.named
  have hlocks := B.notSynchronized
  have hK := hKK.1
  subst hsz
  have hD := hD0.self (sz := s.heap.size)
  obtain ⟨A, hAe⟩ : ∃ A, A = va_A (wM cI b L v0) s.heap.size := ⟨_, rfl⟩
  rw [← hAe] at hD
  have hA : ∀ q : Nat, s.heap.size ≤ q → A q := fun q h => by rw [hAe]; exact Or.inr h
  have hS : va_S A s.heap s.heap [] := va_S.rf
  have hl := lv_entry ([.ref (b 0), .int x0, .int x1]) (n := 5) (Nat.le_of_ble_eq_true rfl)
  rw [lg_entry_eq]
  generalize (lg_sl ([.ref (b 0), .int x0, .int x1]) ++ List.replicate (5 - (lg_sl ([.ref (b 0), .int x0, .int x1])).length) Slot.unset).toArray = ls at hl ⊢
  have hl : lv_has ls 5 [(0, .ref (b 0)), (1, .int x0), (2, .int x1)] := hl
  obtain ⟨v, hv9⟩ : ∃ v : SU, v = v0 := ⟨_, rfl⟩
  rw [← hv9] at hP hD hV
  have lp9 : ∀ (n9 : Nat) (y9_l3 : Int32) (y9_l4 : Int32) (v : SU) (H : Heap) (locs : List Loc) (ls : Array Slot), Rg 0 4095 y9_l3 → Rg 0 2147483647 y9_l4 → TyV v → va_P D cls (wM cI b L v) H → va_D A (wM cI b L v) → va_S A s.heap H locs → lv_has ls 5 [(0, .ref (b 0)), (2, .int x1), (3, .int y9_l3), (4, .int y9_l4)] → y9_l3.toInt < (n9 : Int) → W p l e (headSpec wsX12_pieceAt ({ frames := 4, cells := 0, slots := 0, locals := 160 })).room s m ([.ref (b 0), .int x0, .int x1]).toArray below meth c H locs 0 0 (MQ below (QF (S := SU) D (wM cI b L v0) (wM cI b L) s.heap.size (fun r u => TyV u ∧ Rg 0 4095 r ∧ True)) ([.ref (b 0), .int x0, .int x1]).toArray s 0 0 (va_A (wM cI b L v0) s.heap.size)) (F0 m 9 ls []) := by
    intro n9
    induction n9 with
    | zero =>
      intro y9_l3 y9_l4 v H locs ls g9_l3 g9_l4 hV hP hD hS hl hm9
      exact absurd rfl (me_0 g9_l3 (by decide) hm9)
    | succ n9 ih9 =>
      intro y9_l3 y9_l4 v H locs ls g9_l3 g9_l4 hV hP hD hS hl hm9
      refine lv_iload hx hb dX12_pieceAt_9 (lv_at hl 3 rfl) ?_
      refine lv_iload_n hx hb dX12_pieceAt_11 rfl (lv_at hl 1 rfl) ?_
      refine lv_icmp_ge (tgt := 35) hx hb dX12_pieceAt_12 (by decide) (fun c5770 => ?_) (fun c5770 => ?_)
      · refine lv_iload_n hx hb dX12_pieceAt_35 rfl (lv_at hl 1 rfl) ?_
        refine lv_if_lt (tgt := 43) hx hb dX12_pieceAt_36 (by decide) (fun c5771 => ?_) (fun c5771 => ?_)
        · have g5772 : Rg (-2147483648) (-1) x1 := rg_ltl (rg_any x1) (by decide : Rg 0 0 (0 : Int32)) c5771 (by decide)
          refine lv_iconst (v := 0) hx hb dX12_pieceAt_43 (by decide) ?_
          refine lv_goto (tgt := 52) hx hb dX12_pieceAt_44 (by decide) ?_
          subst hAe
          exact W.iret (v := 0) hx hb hr (fun t ht hW => ⟨⟨_, v, rfl, ⟨hV, (by decide : Rg 0 4095 (0 : Int32)), trivial⟩, by rw [ht]; exact hP, hD⟩, hS.F ht⟩) hS.2.2 dX12_pieceAt_52
        · have g5773 : Rg 0 2147483647 x1 := rg_ler (by decide : Rg 0 0 (0 : Int32)) (rg_any x1) (rg_nlt c5771) (by decide)
          refine lv_iload_n hx hb dX12_pieceAt_39 rfl (lv_at hl 2 rfl) ?_
          refine lv_if_ne (tgt := 47) hx hb dX12_pieceAt_40 (by decide) (fun c5774 => ?_) (fun c5774 => ?_)
          · have g5775 : Rg 1 4095 y9_l3 := rg_ne_lo (k := 0) g9_l3 (by decide) c5774 (by decide)
            refine lv_aload_n hx hb dX12_pieceAt_47 rfl (lv_at hl 0 rfl) ?_
            refine lv_iload_n hx hb dX12_pieceAt_48 rfl (lv_at hl 2 rfl) ?_
            refine wk_sv 0 (As := [.int y9_l3]) (rest := []) ⟨hx, hb, hml, hown, hts⟩ (w_X12_pieceOf l D cI cS b L v hL hV y9_l3 g5775) hKK hP (ci := 12) rfl rfl (cwV 1 hts gX12_pieceAt_X12_pieceOf rfl rfl rfl (by decide +kernel) ⟨Nat.le_of_ble_eq_true rfl, Nat.le_of_ble_eq_true rfl⟩) rfl hl.1 rfl (Nat.le_of_ble_eq_true rfl) dX12_pieceAt_49 ⟨Nat.le_of_ble_eq_true rfl, Nat.le_of_ble_eq_true rfl⟩ (fun r5776 hr5776 => ?_)
            subst hAe
            exact W.iret (v := r5776) hx hb hr (fun t ht hW => ⟨⟨_, v, rfl, ⟨hV, hr5776.1, trivial⟩, by rw [ht]; exact hP, hD⟩, hS.F ht⟩) hS.2.2 dX12_pieceAt_52
          · have g5777 : Rg 0 0 y9_l3 := wk_eql g9_l3 (by decide : Rg 0 0 (0 : Int32)) c5774 (by decide)
            refine lv_iconst (v := 0) hx hb dX12_pieceAt_43 (by decide) ?_
            refine lv_goto (tgt := 52) hx hb dX12_pieceAt_44 (by decide) ?_
            subst hAe
            exact W.iret (v := 0) hx hb hr (fun t ht hW => ⟨⟨_, v, rfl, ⟨hV, (by decide : Rg 0 4095 (0 : Int32)), trivial⟩, by rw [ht]; exact hP, hD⟩, hS.F ht⟩) hS.2.2 dX12_pieceAt_52
      · have g5778 : Rg 1 2147483647 x1 := rg_ltr g9_l4 (rg_any x1) (rg_nle c5770) (by decide)
        have g5779 : Rg 0 2147483646 y9_l4 := rg_ltl g9_l4 (rg_any x1) (rg_nle c5770) (by decide)
        refine lv_iload_n hx hb dX12_pieceAt_15 rfl (lv_at hl 2 rfl) ?_
        refine lv_if_eq (tgt := 35) hx hb dX12_pieceAt_16 (by decide) (fun c5780 => ?_) (fun c5780 => ?_)
        · have g5781 : Rg 0 0 y9_l3 := wk_eql g9_l3 (by decide : Rg 0 0 (0 : Int32)) c5780 (by decide)
          refine lv_iload_n hx hb dX12_pieceAt_35 rfl (lv_at hl 1 rfl) ?_
          refine lv_if_lt (tgt := 43) hx hb dX12_pieceAt_36 (by decide) (fun c5782 => ?_) (fun c5782 => ?_)
          · exact absurd c5782 (wk_nlt g5778 (by decide : Rg 0 0 (0 : Int32)) (by decide))
          · refine lv_iload_n hx hb dX12_pieceAt_39 rfl (lv_at hl 2 rfl) ?_
            refine lv_if_ne (tgt := 47) hx hb dX12_pieceAt_40 (by decide) (fun c5783 => ?_) (fun c5783 => ?_)
            · exact absurd (wk_yeq g5781 (by decide : Rg 0 0 (0 : Int32)) (by decide)) c5783
            · refine lv_iconst (v := 0) hx hb dX12_pieceAt_43 (by decide) ?_
              refine lv_goto (tgt := 52) hx hb dX12_pieceAt_44 (by decide) ?_
              subst hAe
              exact W.iret (v := 0) hx hb hr (fun t ht hW => ⟨⟨_, v, rfl, ⟨hV, (by decide : Rg 0 4095 (0 : Int32)), trivial⟩, by rw [ht]; exact hP, hD⟩, hS.F ht⟩) hS.2.2 dX12_pieceAt_52
        · have g5784 : Rg 1 4095 y9_l3 := rg_ne_lo (k := 0) g9_l3 (by decide) c5780 (by decide)
          refine lv_iload_n hx hb dX12_pieceAt_19 rfl (lv_at hl 2 rfl) ?_
          refine lv_aload_n hx hb dX12_pieceAt_20 rfl (lv_at hl 0 rfl) ?_
          refine lv_iload_n hx hb dX12_pieceAt_21 rfl (lv_at hl 2 rfl) ?_
          refine wk_sv 0 (As := [.int y9_l3]) (rest := [.int y9_l3]) ⟨hx, hb, hml, hown, hts⟩ (w_X12_pieceOf l D cI cS b L v hL hV y9_l3 g5784) hKK hP (ci := 12) rfl rfl (cwV 1 hts gX12_pieceAt_X12_pieceOf rfl rfl rfl (by decide +kernel) ⟨Nat.le_of_ble_eq_true rfl, Nat.le_of_ble_eq_true rfl⟩) rfl hl.1 rfl (Nat.le_of_ble_eq_true rfl) dX12_pieceAt_22 ⟨Nat.le_of_ble_eq_true rfl, Nat.le_of_ble_eq_true rfl⟩ (fun r5785 hr5785 => ?_)
          refine lv_iconst (v := (-1)) hx hb dX12_pieceAt_25 (by decide) ?_
          refine lv_ixor hx hb dX12_pieceAt_26 ?_
          refine wk_topP (P := fun r => r = r5785 ^^^ ((-1) : Int32)) rfl (fun r5786 qr5786 => ?_)
          refine wk_iandl hx hb dX12_pieceAt_27 g5784 (by decide) (fun r5787 hr5787 qr5787 => ?_)
          refine lv_istore_n (lv' := [(3, .int r5787), (0, .ref (b 0)), (2, .int x1), (4, .int y9_l4)]) hx hb dX12_pieceAt_28 rfl hl (by decide) rfl (fun ls hl => ?_)
          refine wk_iinc (lv' := fun r => [(4, .int r), (3, .int r5787), (0, .ref (b 0)), (2, .int x1)]) (e1 := 1) (f := 2147483647) hx hb dX12_pieceAt_29 hl (k := 3) rfl (by decide) g5779 (by decide) (fun _ => rfl) (fun r5788 ls hr5788 er5788 hl => ?_)
          refine lv_goto (tgt := 9) hx hb dX12_pieceAt_32 (by decide) ?_
          exact ih9 r5787 r5788 v _ _ ls hr5787 (show Rg 0 2147483647 r5788 from rg_w hr5788 (by decide) (by decide)) hV hP hD hS (lv_sub (l' := [(0, .ref (b 0)), (2, .int x1), (3, .int r5787), (4, .int r5788)]) hl [2, 3, 1, 0] rfl) (me_lt hm9 (by rw [qr5787, qr5786]; exact an_piece g5784 hr5785.2))
  refine lv_aload_n hx hb dX12_pieceAt_0 rfl (lv_at hl 0 rfl) ?_
  refine lv_iload_n hx hb dX12_pieceAt_1 rfl (lv_at hl 1 rfl) ?_
  refine wk_qi (wM cI b L) v (As := [.int x0]) (rest := []) ⟨hx, hb, hml, hown, hts⟩ (w_X12_setOf l D cI cS _ b L v hL hV x0) hKK hP hD hS hA 0 (ci := 12) rfl rfl (cwV 1 hts gX12_pieceAt_X12_setOf rfl rfl rfl (by decide +kernel) ⟨Nat.le_of_ble_eq_true rfl, Nat.le_of_ble_eq_true rfl⟩) rfl hl.1 rfl (Nat.le_of_ble_eq_true rfl) dX12_pieceAt_2 ⟨Nat.le_of_ble_eq_true rfl, Nat.le_of_ble_eq_true rfl⟩ (fun r5789 v H locs hr5789 hP hD hS => ?_)
  have hV := hr5789.1
  refine lv_istore_n (lv' := [(3, .int r5789), (0, .ref (b 0)), (1, .int x0), (2, .int x1)]) hx hb dX12_pieceAt_5 rfl hl (by decide) rfl (fun ls hl => ?_)
  refine lv_iconst (v := 0) hx hb dX12_pieceAt_6 (by decide) ?_
  refine lv_istore (lv' := [(4, .int 0), (3, .int r5789), (0, .ref (b 0)), (1, .int x0), (2, .int x1)]) hx hb dX12_pieceAt_7 hl (by decide) rfl (fun ls hl => ?_)
  exact lp9 4096 r5789 (0 : Int32) v _ _ ls hr5789.2.1 (by decide : Rg 0 2147483647 (0 : Int32)) hV hP hD hS (lv_sub (l' := [(0, .ref (b 0)), (2, .int x1), (3, .int r5789), (4, .int 0)]) hl [2, 4, 1, 0] rfl) (me_k hr5789.2.1 (by decide))
set_option maxRecDepth 20000 in
theorem ggX12_nextTo_X12_has : GoodIn wsX12_nextTo wsX12_has := goodIn_r _ [6] rfl (by decide +kernel)
set_option maxRecDepth 20000 in
theorem gX12_nextTo_X12_has : GoodIn wsX12_nextTo (va_wsS RX12 59 yX12_has wsX12_has) := goodIn_app (goodIn_of _ (by decide +kernel)) ggX12_nextTo_X12_has
theorem dX12_nextTo_0 : decode cX12_nextTo 0 = .ok (.iconst 0, 1) := by decide +kernel
theorem dX12_nextTo_1 : decode cX12_nextTo 1 = .ok (.istore_n 2, 1) := by decide +kernel
theorem dX12_nextTo_12 : decode cX12_nextTo 12 = .ok (.iload_n 2, 1) := by decide +kernel
theorem dX12_nextTo_13 : decode cX12_nextTo 13 = .ok (.iload_n 1, 1) := by decide +kernel
theorem dX12_nextTo_14 : decode cX12_nextTo 14 = .ok (.iload_n 3, 1) := by decide +kernel
theorem dX12_nextTo_15 : decode cX12_nextTo 15 = .ok (.invokestatic 59, 3) := by decide +kernel
theorem dX12_nextTo_18 : decode cX12_nextTo 18 = .ok (.ifCond .eq 12, 3) := by decide +kernel
theorem dX12_nextTo_2 : decode cX12_nextTo 2 = .ok (.iconst 0, 1) := by decide +kernel
theorem dX12_nextTo_21 : decode cX12_nextTo 21 = .ok (.aload_n 0, 1) := by decide +kernel
theorem dX12_nextTo_22 : decode cX12_nextTo 22 = .ok (.getfield 13, 3) := by decide +kernel
theorem dX12_nextTo_25 : decode cX12_nextTo 25 = .ok (.iload_n 3, 1) := by decide +kernel
theorem dX12_nextTo_26 : decode cX12_nextTo 26 = .ok (.iaload, 1) := by decide +kernel
theorem dX12_nextTo_27 : decode cX12_nextTo 27 = .ok (.goto 4, 3) := by decide +kernel
theorem dX12_nextTo_3 : decode cX12_nextTo 3 = .ok (.istore_n 3, 1) := by decide +kernel
theorem dX12_nextTo_30 : decode cX12_nextTo 30 = .ok (.iconst 0, 1) := by decide +kernel
theorem dX12_nextTo_31 : decode cX12_nextTo 31 = .ok (.ior, 1) := by decide +kernel
theorem dX12_nextTo_32 : decode cX12_nextTo 32 = .ok (.istore_n 2, 1) := by decide +kernel
theorem dX12_nextTo_33 : decode cX12_nextTo 33 = .ok (.iinc 3 1, 3) := by decide +kernel
theorem dX12_nextTo_36 : decode cX12_nextTo 36 = .ok (.goto (-32), 3) := by decide +kernel
theorem dX12_nextTo_39 : decode cX12_nextTo 39 = .ok (.iload_n 2, 1) := by decide +kernel
theorem dX12_nextTo_4 : decode cX12_nextTo 4 = .ok (.iload_n 3, 1) := by decide +kernel
theorem dX12_nextTo_40 : decode cX12_nextTo 40 = .ok (.ireturn, 1) := by decide +kernel
theorem dX12_nextTo_5 : decode cX12_nextTo 5 = .ok (.aload_n 0, 1) := by decide +kernel
theorem dX12_nextTo_6 : decode cX12_nextTo 6 = .ok (.getfield 63, 3) := by decide +kernel
theorem dX12_nextTo_9 : decode cX12_nextTo 9 = .ok (.if_icmp .ge 30, 3) := by decide +kernel
set_option maxHeartbeats 4000000 in
set_option maxRecDepth 100000 in
theorem w_X12_nextTo (l : Launch) (D : va_G) (cI cS : ClassId) (b : Nat → Nat) (L v : SU) (hL : TyL L) (hV : TyV v) (x0 : Int32) (px0 : Rg 0 4095 x0) : Met l yX12_nextTo wsX12_nextTo ({ frames := 1, cells := 0, slots := 0, locals := 40 }) (PS D cI cS (wM cI b L v) [.ref (b 0), .int x0]) (vp_Si (fun r => Rg 0 4095 r ∧ True)) 0 0 (fun _ => False) := by
  refine Met.ofW (cc := cX12_nextTo) (maxL := 4) (ret := (some .int)) (by decide) rfl ?_
  intro p e s m args below meth c s₁ B hml hv
  obtain ⟨rfl, hP, hKK⟩ := hv
  have hx := B.exec
  have hb := B.bytes
  have hr := B.returns
  have hts := atoms_spec (ws := wsX12_nextTo) B.pre
  have hown : s.vm.findClass RX12 = some m.cls := findClass_of_methodNamed B.named
  have hlocks := B.notSynchronized
  have hK := hKK.1
  have hin12 : ∀ w ∈ wsX120, w ∈ wsX12_nextTo := by decide +kernel
  have hl := lv_entry ([.ref (b 0), .int x0]) (n := 4) (Nat.le_of_ble_eq_true rfl)
  rw [lg_entry_eq]
  generalize (lg_sl ([.ref (b 0), .int x0]) ++ List.replicate (4 - (lg_sl ([.ref (b 0), .int x0])).length) Slot.unset).toArray = ls at hl ⊢
  have hl : lv_has ls 4 [(0, .ref (b 0)), (1, .int x0)] := hl
  have lp4 : ∀ (n4 : Nat) (y4_l2 : Int32) (y4_l3 : Int32) (ls : Array Slot), Rg 0 4095 x0 → Rg 0 4095 y4_l2 → Rg 0 12 y4_l3 → lv_has ls 4 [(0, .ref (b 0)), (1, .int x0), (2, .int y4_l2), (3, .int y4_l3)] → 12 - y4_l3.toInt < (n4 : Int) → W p l e (headSpec wsX12_nextTo ({ frames := 1, cells := 0, slots := 0, locals := 40 })).room s m ([.ref (b 0), .int x0]).toArray below meth c s.heap [] 0 0 (MQ below (vp_Si (fun r => Rg 0 4095 r ∧ True)) ([.ref (b 0), .int x0]).toArray s 0 0 (fun _ => False)) (F0 m 4 ls []) := by
    intro n4
    induction n4 with
    | zero =>
      intro y4_l2 y4_l3 ls g4_l1 g4_l2 g4_l3 hl hm4
      exact absurd rfl (me_z g4_l3 hm4)
    | succ n4 ih4 =>
      intro y4_l2 y4_l3 ls g4_l1 g4_l2 g4_l3 hl hm4
      refine lv_iload_n hx hb dX12_nextTo_4 rfl (lv_at hl 3 rfl) ?_
      refine lv_aload_n hx hb dX12_nextTo_5 rfl (lv_at hl 0 rfl) ?_
      refine va_get (D := D) (ci := 12) (v := .int (L 0 0)) (C := RX12) (T := TX12) (N := 24) hx hb hts hin12 hown hK hP 0 rfl rfl 0 (by decide) (hts (.fieldLink RX12 63 "MissedPointsModel" "many" "I") (by decide +kernel)) (fun _ h9 => h9) rfl dX12_nextTo_6 ?_
      refine lv_icmp_ge (tgt := 39) hx hb dX12_nextTo_9 (by decide) (fun c5892 => ?_) (fun c5892 => ?_)
      · refine lv_iload_n hx hb dX12_nextTo_39 rfl (lv_at hl 2 rfl) ?_
        exact W.iret (v := y4_l2) hx hb hr (fun t ht hW => ⟨_, rfl, ⟨g4_l2, trivial⟩, ht⟩) (fun q hq => absurd hq List.not_mem_nil) dX12_nextTo_40
      · have g5893 : Rg 1 12 (L 0 0) := rg_ltr g4_l3 hL.1 (rg_nle c5892) (by decide)
        have g5894 : Rg 0 11 y4_l3 := rg_ltl g4_l3 hL.1 (rg_nle c5892) (by decide)
        refine lv_iload_n hx hb dX12_nextTo_12 rfl (lv_at hl 2 rfl) ?_
        refine lv_iload_n hx hb dX12_nextTo_13 rfl (lv_at hl 1 rfl) ?_
        refine lv_iload_n hx hb dX12_nextTo_14 rfl (lv_at hl 3 rfl) ?_
        refine lz_ss (As := [.int x0, .int y4_l3]) (rest := [.int y4_l2]) ⟨hx, hb, hml, hown, hts⟩ (w_X12_has l D cI cS x0 y4_l3) hKK (hP.sub (ws' := []) [] rfl) (va_cwS 2 hts gX12_nextTo_X12_has rfl rfl rfl (by decide +kernel) ⟨Nat.le_of_ble_eq_true rfl, Nat.le_of_ble_eq_true rfl⟩) rfl hl.1 rfl (Nat.le_of_ble_eq_true rfl) dX12_nextTo_15 ⟨Nat.le_of_ble_eq_true rfl, Nat.le_of_ble_eq_true rfl⟩ (fun r5895 hr5895 => ?_)
        refine lv_if_eq (tgt := 30) hx hb dX12_nextTo_18 (by decide) (fun c5896 => ?_) (fun c5896 => ?_)
        · have g5897 : Rg 0 0 r5895 := wk_eql hr5895.1 (by decide : Rg 0 0 (0 : Int32)) c5896 (by decide)
          refine lv_iconst (v := 0) hx hb dX12_nextTo_30 (by decide) ?_
          refine wk_ior 12 (e1 := 0) (f := 4095) hx hb dX12_nextTo_31 g4_l2 (by decide : Rg 0 0 (0 : Int32)) (by decide) (fun r5898 hr5898 qr5898 => ?_)
          refine lv_istore_n (lv' := [(2, .int r5898), (0, .ref (b 0)), (1, .int x0), (3, .int y4_l3)]) hx hb dX12_nextTo_32 rfl hl (by decide) rfl (fun ls hl => ?_)
          refine wk_iinc (lv' := fun r => [(3, .int r), (2, .int r5898), (0, .ref (b 0)), (1, .int x0)]) (e1 := 1) (f := 12) hx hb dX12_nextTo_33 hl (k := 3) rfl (by decide) g5894 (by decide) (fun _ => rfl) (fun r5899 ls hr5899 er5899 hl => ?_)
          refine lv_goto (tgt := 4) hx hb dX12_nextTo_36 (by decide) ?_
          exact ih4 r5898 r5899 ls g4_l1 hr5898 (show Rg 0 12 r5899 from rg_w hr5899 (by decide) (by decide)) (lv_sub (l' := [(0, .ref (b 0)), (1, .int x0), (2, .int r5898), (3, .int r5899)]) hl [2, 3, 1, 0] rfl) (me_up hm4 er5899 (by decide))
        · have g5900 : Rg 1 1 r5895 := rg_ne_lo (k := 0) hr5895.1 (by decide) c5896 (by decide)
          refine lv_aload_n hx hb dX12_nextTo_21 rfl (lv_at hl 0 rfl) ?_
          refine va_get (D := D) (ci := 12) (v := .ref (b 1)) (C := RX12) (T := TX12) (N := 24) hx hb hts hin12 hown hK hP 0 rfl rfl 2 (by decide) (hts (.fieldLink RX12 13 "MissedPointsModel" "near" "[I") (by decide +kernel)) (fun _ h9 => h9) rfl dX12_nextTo_22 ?_
          refine lv_iload_n hx hb dX12_nextTo_25 rfl (lv_at hl 3 rfl) ?_
          refine wk_ald hx hb hK hP 1 0 rfl rfl (rg_in g5894 (by decide) (by decide)) dX12_nextTo_26 hV.1 (fun r5901 hr5901 => ?_)
          refine lv_goto (tgt := 31) hx hb dX12_nextTo_27 (by decide) ?_
          refine wk_ior 12 (e1 := 0) (f := 4095) hx hb dX12_nextTo_31 g4_l2 hr5901 (by decide) (fun r5902 hr5902 qr5902 => ?_)
          refine lv_istore_n (lv' := [(2, .int r5902), (0, .ref (b 0)), (1, .int x0), (3, .int y4_l3)]) hx hb dX12_nextTo_32 rfl hl (by decide) rfl (fun ls hl => ?_)
          refine wk_iinc (lv' := fun r => [(3, .int r), (2, .int r5902), (0, .ref (b 0)), (1, .int x0)]) (e1 := 1) (f := 12) hx hb dX12_nextTo_33 hl (k := 3) rfl (by decide) g5894 (by decide) (fun _ => rfl) (fun r5903 ls hr5903 er5903 hl => ?_)
          refine lv_goto (tgt := 4) hx hb dX12_nextTo_36 (by decide) ?_
          exact ih4 r5902 r5903 ls g4_l1 hr5902 (show Rg 0 12 r5903 from rg_w hr5903 (by decide) (by decide)) (lv_sub (l' := [(0, .ref (b 0)), (1, .int x0), (2, .int r5902), (3, .int r5903)]) hl [2, 3, 1, 0] rfl) (me_up hm4 er5903 (by decide))
  refine lv_iconst (v := 0) hx hb dX12_nextTo_0 (by decide) ?_
  refine lv_istore_n (lv' := [(2, .int 0), (0, .ref (b 0)), (1, .int x0)]) hx hb dX12_nextTo_1 rfl hl (by decide) rfl (fun ls hl => ?_)
  refine lv_iconst (v := 0) hx hb dX12_nextTo_2 (by decide) ?_
  refine lv_istore_n (lv' := [(3, .int 0), (2, .int 0), (0, .ref (b 0)), (1, .int x0)]) hx hb dX12_nextTo_3 rfl hl (by decide) rfl (fun ls hl => ?_)
  exact lp4 13 (0 : Int32) (0 : Int32) ls px0 (by decide : Rg 0 4095 (0 : Int32)) (by decide : Rg 0 12 (0 : Int32)) (lv_sub (l' := [(0, .ref (b 0)), (1, .int x0), (2, .int 0), (3, .int 0)]) hl [2, 3, 1, 0] rfl) (me_i (by decide : Rg 0 12 (0 : Int32)) (by decide))
set_option maxRecDepth 20000 in
theorem ggX12_piece_X12_markedSet : GoodIn wsX12_piece wsX12_markedSet := goodIn_r _ [34, 19, 20, 35, 36, 37, 3, 38, 18, 21, 22, 23, 24, 47, 48, 49, 50, 51, 52, 53, 54, 55, 56, 57, 58, 59, 60, 61, 62, 63, 64, 65, 66, 67, 68, 69, 70] rfl (by decide +kernel)
set_option maxRecDepth 20000 in
theorem gX12_piece_X12_markedSet : GoodIn wsX12_piece (wsV RX12 126 RX12 yX12_markedSet wsX12_markedSet) := goodIn_app (goodIn_of _ (by decide +kernel)) ggX12_piece_X12_markedSet
set_option maxRecDepth 20000 in
theorem ggX12_piece_X12_nextTo : GoodIn wsX12_piece wsX12_nextTo := goodIn_r _ [46, 19, 20, 28, 29, 3, 30, 47, 48, 49, 50, 51, 52, 53, 54, 55, 56, 57, 58, 59, 60, 61, 62, 63, 64, 65, 66, 67, 68, 69, 70] rfl (by decide +kernel)
set_option maxRecDepth 20000 in
theorem gX12_piece_X12_nextTo : GoodIn wsX12_piece (wsV RX12 138 RX12 yX12_nextTo wsX12_nextTo) := goodIn_app (goodIn_of _ (by decide +kernel)) ggX12_piece_X12_nextTo
theorem dX12_piece_38 : decode cX12_piece 38 = .ok (.iload_n 3, 1) := by decide +kernel
theorem dX12_piece_39 : decode cX12_piece 39 = .ok (.ifCond .ne 8, 3) := by decide +kernel
theorem dX12_piece_42 : decode cX12_piece 42 = .ok (.iload 4, 2) := by decide +kernel
theorem dX12_piece_44 : decode cX12_piece 44 = .ok (.goto 15, 3) := by decide +kernel
theorem dX12_piece_47 : decode cX12_piece 47 = .ok (.aload_n 0, 1) := by decide +kernel
theorem dX12_piece_48 : decode cX12_piece 48 = .ok (.iload 4, 2) := by decide +kernel
theorem dX12_piece_50 : decode cX12_piece 50 = .ok (.invokevirtual 138, 3) := by decide +kernel
theorem dX12_piece_53 : decode cX12_piece 53 = .ok (.aload_n 0, 1) := by decide +kernel
theorem dX12_piece_54 : decode cX12_piece 54 = .ok (.iconst 1, 1) := by decide +kernel
theorem dX12_piece_55 : decode cX12_piece 55 = .ok (.invokevirtual 126, 3) := by decide +kernel
theorem dX12_piece_58 : decode cX12_piece 58 = .ok (.iand, 1) := by decide +kernel
set_option maxHeartbeats 4000000 in
set_option maxRecDepth 100000 in
theorem w_X12_piece (l : Launch) (D : va_G) (cI cS : ClassId) (sz : Nat) (b : Nat → Nat) (L v0 : SU) (hL : TyL L) (hV : TyV v0) (x0 x1 x2 : Int32) : Met l yX12_piece wsX12_piece ({ frames := 5, cells := 0, slots := 0, locals := 200 }) (PQ D cI cS (wM cI b L v0) sz [.ref (b 0), .int x0, .int x1, .int x2]) (QF (S := SU) D (wM cI b L v0) (wM cI b L) sz (fun r u => TyV u ∧ Rg (-2) 4095 r ∧ True)) 0 0 (va_A (wM cI b L v0) sz) := by
  refine Met.ofW (cc := cX12_piece) (maxL := 5) (ret := (some .int)) (by decide) rfl ?_
  intro p e s m args below meth c s₁ B hml hv
  obtain ⟨rfl, hsz, hP, hKK, hD0⟩ := hv
  have hx := B.exec
  have hb := B.bytes
  have hr := B.returns
  have hts := atoms_spec (ws := wsX12_piece) B.pre
  have hown : s.vm.findClass RX12 = some m.cls := findClass_of_methodNamed B.named
  have hlocks := B.notSynchronized
  have hK := hKK.1
  subst hsz
  have hD := hD0.self (sz := s.heap.size)
  obtain ⟨A, hAe⟩ : ∃ A, A = va_A (wM cI b L v0) s.heap.size := ⟨_, rfl⟩
  rw [← hAe] at hD
  have hA : ∀ q : Nat, s.heap.size ≤ q → A q := fun q h => by rw [hAe]; exact Or.inr h
  have hS : va_S A s.heap s.heap [] := va_S.rf
  have hl := lv_entry ([.ref (b 0), .int x0, .int x1, .int x2]) (n := 5) (Nat.le_of_ble_eq_true rfl)
  rw [lg_entry_eq]
  generalize (lg_sl ([.ref (b 0), .int x0, .int x1, .int x2]) ++ List.replicate (5 - (lg_sl ([.ref (b 0), .int x0, .int x1, .int x2])).length) Slot.unset).toArray = ls at hl ⊢
  have hl : lv_has ls 5 [(0, .ref (b 0)), (1, .int x0), (2, .int x1), (3, .int x2)] := hl
  obtain ⟨v, hv9⟩ : ∃ v : SU, v = v0 := ⟨_, rfl⟩
  rw [← hv9] at hP hD hV
  refine lv_iload_n hx hb dX12_piece_0 rfl (lv_at hl 1 rfl) ?_
  refine lv_iconst (v := 0) hx hb dX12_piece_1 (by decide) ?_
  refine lv_iconst (v := 1) hx hb dX12_piece_2 (by decide) ?_
  refine lz_ss (As := [.int x0, .int 0, .int 1]) (rest := []) ⟨hx, hb, hml, hown, hts⟩ (w_X12_in l D cI cS x0 (0 : Int32) (1 : Int32)) hKK (hP.sub (ws' := []) [] rfl) (va_cwS 3 hts gX12_piece_X12_in rfl rfl rfl (by decide +kernel) ⟨Nat.le_of_ble_eq_true rfl, Nat.le_of_ble_eq_true rfl⟩) rfl hl.1 rfl (Nat.le_of_ble_eq_true rfl) dX12_piece_3 ⟨Nat.le_of_ble_eq_true rfl, Nat.le_of_ble_eq_true rfl⟩ (fun r5928 hr5928 => ?_)
  refine lv_if_eq (tgt := 18) hx hb dX12_piece_6 (by decide) (fun c5929 => ?_) (fun c5929 => ?_)
  · have zt5930 : (x0.toInt < (0 : Int32).toInt ∨ (1 : Int32).toInt < x0.toInt) := hr5928.2.1 c5929
    have g5931 : Rg 0 0 r5928 := wk_eql hr5928.1 (by decide : Rg 0 0 (0 : Int32)) c5929 (by decide)
    refine lv_bipush (v := (-2)) hx hb dX12_piece_18 (by decide) ?_
    subst hAe
    exact W.iret (v := (-2)) hx hb hr (fun t ht hW => ⟨⟨_, v, rfl, ⟨hV, (by decide : Rg (-2) 4095 ((-2) : Int32)), trivial⟩, by rw [ht]; exact hP, hD⟩, hS.F ht⟩) hS.2.2 dX12_piece_20
  · have zn5932 : (0 : Int32).toInt ≤ x0.toInt ∧ x0.toInt ≤ (1 : Int32).toInt := (hr5928.2.2 c5929)
    have g5933 : Rg 0 1 x0 := wk_in3 (rg_any x0) (by decide : Rg 0 0 (0 : Int32)) (by decide : Rg 1 1 (1 : Int32)) (hr5928.2.2 c5929) (by decide)
    have g5934 : Rg 1 1 r5928 := rg_ne_lo (k := 0) hr5928.1 (by decide) c5929 (by decide)
    refine lv_iload_n hx hb dX12_piece_9 rfl (lv_at hl 3 rfl) ?_
    refine lv_iconst (v := 0) hx hb dX12_piece_10 (by decide) ?_
    refine lv_iconst (v := 1) hx hb dX12_piece_11 (by decide) ?_
    refine lz_ss (As := [.int x2, .int 0, .int 1]) (rest := []) ⟨hx, hb, hml, hown, hts⟩ (w_X12_in l D cI cS x2 (0 : Int32) (1 : Int32)) hKK (hP.sub (ws' := []) [] rfl) (va_cwS 3 hts gX12_piece_X12_in rfl rfl rfl (by decide +kernel) ⟨Nat.le_of_ble_eq_true rfl, Nat.le_of_ble_eq_true rfl⟩) rfl hl.1 rfl (Nat.le_of_ble_eq_true rfl) dX12_piece_12 ⟨Nat.le_of_ble_eq_true rfl, Nat.le_of_ble_eq_true rfl⟩ (fun r5935 hr5935 => ?_)
    refine lv_if_ne (tgt := 21) hx hb dX12_piece_15 (by decide) (fun c5936 => ?_) (fun c5936 => ?_)
    · have zn5937 : (0 : Int32).toInt ≤ x2.toInt ∧ x2.toInt ≤ (1 : Int32).toInt := (hr5935.2.2 c5936)
      have g5938 : Rg 0 1 x2 := wk_in3 (rg_any x2) (by decide : Rg 0 0 (0 : Int32)) (by decide : Rg 1 1 (1 : Int32)) (hr5935.2.2 c5936) (by decide)
      have g5939 : Rg 1 1 r5935 := rg_ne_lo (k := 0) hr5935.1 (by decide) c5936 (by decide)
      refine lv_aload_n hx hb dX12_piece_21 rfl (lv_at hl 0 rfl) ?_
      refine lv_iload_n hx hb dX12_piece_22 rfl (lv_at hl 1 rfl) ?_
      refine lv_iload_n hx hb dX12_piece_23 rfl (lv_at hl 2 rfl) ?_
      refine wk_qi (wM cI b L) v (As := [.int x0, .int x1]) (rest := []) ⟨hx, hb, hml, hown, hts⟩ (w_X12_pieceAt l D cI cS _ b L v hL hV x0 x1 g5933) hKK hP hD hS hA 0 (ci := 12) rfl rfl (cwV 2 hts gX12_piece_X12_pieceAt rfl rfl rfl (by decide +kernel) ⟨Nat.le_of_ble_eq_true rfl, Nat.le_of_ble_eq_true rfl⟩) rfl hl.1 rfl (Nat.le_of_ble_eq_true rfl) dX12_piece_24 ⟨Nat.le_of_ble_eq_true rfl, Nat.le_of_ble_eq_true rfl⟩ (fun r5940 v H locs hr5940 hP hD hS => ?_)
      have hV := hr5940.1
      refine lv_istore (lv' := [(4, .int r5940), (0, .ref (b 0)), (1, .int x0), (2, .int x1), (3, .int x2)]) hx hb dX12_piece_27 hl (by decide) rfl (fun ls hl => ?_)
      refine lv_iload hx hb dX12_piece_29 (lv_at hl 0 rfl) ?_
      refine lv_if_ne (tgt := 38) hx hb dX12_piece_31 (by decide) (fun c5941 => ?_) (fun c5941 => ?_)
      · have g5942 : Rg 1 4095 r5940 := rg_ne_lo (k := 0) hr5940.2.1 (by decide) c5941 (by decide)
        refine lv_iload_n hx hb dX12_piece_38 rfl (lv_at hl 4 rfl) ?_
        refine lv_if_ne (tgt := 47) hx hb dX12_piece_39 (by decide) (fun c5943 => ?_) (fun c5943 => ?_)
        · have g5944 : Rg 1 1 x2 := rg_ne_lo (k := 0) g5938 (by decide) c5943 (by decide)
          refine lv_aload_n hx hb dX12_piece_47 rfl (lv_at hl 1 rfl) ?_
          refine lv_iload hx hb dX12_piece_48 (lv_at hl 0 rfl) ?_
          refine wk_sv 0 (As := [.int r5940]) (rest := []) ⟨hx, hb, hml, hown, hts⟩ (w_X12_nextTo l D cI cS b L v hL hV r5940 (show Rg 0 4095 r5940 from rg_w g5942 (by decide) (by decide))) hKK hP (ci := 12) rfl rfl (cwV 1 hts gX12_piece_X12_nextTo rfl rfl rfl (by decide +kernel) ⟨Nat.le_of_ble_eq_true rfl, Nat.le_of_ble_eq_true rfl⟩) rfl hl.1 rfl (Nat.le_of_ble_eq_true rfl) dX12_piece_50 ⟨Nat.le_of_ble_eq_true rfl, Nat.le_of_ble_eq_true rfl⟩ (fun r5945 hr5945 => ?_)
          refine lv_aload_n hx hb dX12_piece_53 rfl (lv_at hl 1 rfl) ?_
          refine lv_iconst (v := 1) hx hb dX12_piece_54 (by decide) ?_
          refine wk_sv 0 (As := [.int 1]) (rest := [.int r5945]) ⟨hx, hb, hml, hown, hts⟩ (w_X12_markedSet l D cI cS b L v hL hV (1 : Int32)) hKK hP (ci := 12) rfl rfl (cwV 1 hts gX12_piece_X12_markedSet rfl rfl rfl (by decide +kernel) ⟨Nat.le_of_ble_eq_true rfl, Nat.le_of_ble_eq_true rfl⟩) rfl hl.1 rfl (Nat.le_of_ble_eq_true rfl) dX12_piece_55 ⟨Nat.le_of_ble_eq_true rfl, Nat.le_of_ble_eq_true rfl⟩ (fun r5946 hr5946 => ?_)
          refine wk_iandl hx hb dX12_piece_58 hr5945.1 (by decide) (fun r5947 hr5947 qr5947 => ?_)
          subst hAe
          exact W.iret (v := r5947) hx hb hr (fun t ht hW => ⟨⟨_, v, rfl, ⟨hV, (show Rg (-2) 4095 r5947 from rg_w hr5947 (by decide) (by decide)), trivial⟩, by rw [ht]; exact hP, hD⟩, hS.F ht⟩) hS.2.2 dX12_piece_59
        · have g5948 : Rg 0 0 x2 := wk_eql g5938 (by decide : Rg 0 0 (0 : Int32)) c5943 (by decide)
          refine lv_iload hx hb dX12_piece_42 (lv_at hl 0 rfl) ?_
          refine lv_goto (tgt := 59) hx hb dX12_piece_44 (by decide) ?_
          subst hAe
          exact W.iret (v := r5940) hx hb hr (fun t ht hW => ⟨⟨_, v, rfl, ⟨hV, (show Rg (-2) 4095 r5940 from rg_w g5942 (by decide) (by decide)), trivial⟩, by rw [ht]; exact hP, hD⟩, hS.F ht⟩) hS.2.2 dX12_piece_59
      · have g5949 : Rg 0 0 r5940 := wk_eql hr5940.2.1 (by decide : Rg 0 0 (0 : Int32)) c5941 (by decide)
        refine lv_iconst (v := (-1)) hx hb dX12_piece_34 (by decide) ?_
        refine lv_goto (tgt := 59) hx hb dX12_piece_35 (by decide) ?_
        subst hAe
        exact W.iret (v := (-1)) hx hb hr (fun t ht hW => ⟨⟨_, v, rfl, ⟨hV, (by decide : Rg (-2) 4095 ((-1) : Int32)), trivial⟩, by rw [ht]; exact hP, hD⟩, hS.F ht⟩) hS.2.2 dX12_piece_59
    · have zt5950 : (x2.toInt < (0 : Int32).toInt ∨ (1 : Int32).toInt < x2.toInt) := hr5935.2.1 c5936
      have g5951 : Rg 0 0 r5935 := wk_eql hr5935.1 (by decide : Rg 0 0 (0 : Int32)) c5936 (by decide)
      refine lv_bipush (v := (-2)) hx hb dX12_piece_18 (by decide) ?_
      subst hAe
      exact W.iret (v := (-2)) hx hb hr (fun t ht hW => ⟨⟨_, v, rfl, ⟨hV, (by decide : Rg (-2) 4095 ((-2) : Int32)), trivial⟩, by rw [ht]; exact hP, hD⟩, hS.F ht⟩) hS.2.2 dX12_piece_20
set_option maxRecDepth 20000 in
theorem ggX12_surplus_X12_nextTo : GoodIn wsX12_surplus wsX12_nextTo := goodIn_r _ [42, 8, 9, 17, 18, 4, 19, 43, 44, 45, 46, 47, 48, 49, 50, 51, 52, 53, 54, 55, 56, 57, 58, 59, 60, 61, 62, 63, 64, 65, 66] rfl (by decide +kernel)
set_option maxRecDepth 20000 in
theorem gX12_surplus_X12_nextTo : GoodIn wsX12_surplus (wsV RX12 138 RX12 yX12_nextTo wsX12_nextTo) := goodIn_app (goodIn_of _ (by decide +kernel)) ggX12_surplus_X12_nextTo
set_option maxRecDepth 20000 in
theorem ggX12_surplus_X12_pieceOf : GoodIn wsX12_surplus wsX12_pieceOf := goodIn_r _ [38, 8, 9, 17, 18, 4, 19, 43, 44, 45, 46, 47, 48, 49, 50, 51, 52, 53, 54, 55, 56, 57, 58, 59, 60, 61, 62, 63, 64, 65, 66] rfl (by decide +kernel)
set_option maxRecDepth 20000 in
theorem gX12_surplus_X12_pieceOf : GoodIn wsX12_surplus (wsV RX12 129 RX12 yX12_pieceOf wsX12_pieceOf) := goodIn_app (goodIn_of _ (by decide +kernel)) ggX12_surplus_X12_pieceOf
theorem dX12_surplus_43 : decode cX12_surplus 43 = .ok (.iload_n 2, 1) := by decide +kernel
theorem dX12_surplus_44 : decode cX12_surplus 44 = .ok (.aload_n 0, 1) := by decide +kernel
theorem dX12_surplus_45 : decode cX12_surplus 45 = .ok (.aload_n 0, 1) := by decide +kernel
theorem dX12_surplus_46 : decode cX12_surplus 46 = .ok (.iload_n 3, 1) := by decide +kernel
theorem dX12_surplus_47 : decode cX12_surplus 47 = .ok (.invokevirtual 129, 3) := by decide +kernel
theorem dX12_surplus_50 : decode cX12_surplus 50 = .ok (.invokevirtual 138, 3) := by decide +kernel
theorem dX12_surplus_53 : decode cX12_surplus 53 = .ok (.iload_n 1, 1) := by decide +kernel
theorem dX12_surplus_54 : decode cX12_surplus 54 = .ok (.iand, 1) := by decide +kernel
theorem dX12_surplus_55 : decode cX12_surplus 55 = .ok (.ifCond .eq 7, 3) := by decide +kernel
theorem dX12_surplus_58 : decode cX12_surplus 58 = .ok (.iconst 1, 1) := by decide +kernel
theorem dX12_surplus_59 : decode cX12_surplus 59 = .ok (.goto 4, 3) := by decide +kernel
theorem dX12_surplus_62 : decode cX12_surplus 62 = .ok (.iconst 0, 1) := by decide +kernel
theorem dX12_surplus_63 : decode cX12_surplus 63 = .ok (.iadd, 1) := by decide +kernel
theorem dX12_surplus_64 : decode cX12_surplus 64 = .ok (.istore_n 2, 1) := by decide +kernel
theorem dX12_surplus_65 : decode cX12_surplus 65 = .ok (.iload_n 3, 1) := by decide +kernel
theorem dX12_surplus_66 : decode cX12_surplus 66 = .ok (.aload_n 0, 1) := by decide +kernel
theorem dX12_surplus_67 : decode cX12_surplus 67 = .ok (.iload_n 3, 1) := by decide +kernel
theorem dX12_surplus_68 : decode cX12_surplus 68 = .ok (.invokevirtual 129, 3) := by decide +kernel
theorem dX12_surplus_71 : decode cX12_surplus 71 = .ok (.iconst (-1), 1) := by decide +kernel
theorem dX12_surplus_72 : decode cX12_surplus 72 = .ok (.ixor, 1) := by decide +kernel
theorem dX12_surplus_73 : decode cX12_surplus 73 = .ok (.iand, 1) := by decide +kernel
theorem dX12_surplus_74 : decode cX12_surplus 74 = .ok (.istore_n 3, 1) := by decide +kernel
theorem dX12_surplus_75 : decode cX12_surplus 75 = .ok (.goto (-36), 3) := by decide +kernel
set_option maxHeartbeats 4000000 in
set_option maxRecDepth 100000 in
theorem w_X12_surplus (l : Launch) (D : va_G) (cI cS : ClassId) (sz : Nat) (b : Nat → Nat) (L v0 : SU) (hL : TyL L) (hV : TyV v0) (x0 : Int32) : Met l yX12_surplus wsX12_surplus ({ frames := 3, cells := 0, slots := 0, locals := 120 }) (PQ D cI cS (wM cI b L v0) sz [.ref (b 0), .int x0]) (QF (S := SU) D (wM cI b L v0) (wM cI b L) sz (fun r u => TyV u ∧ Rg (-2147483648) 2147483647 r ∧ True)) 0 0 (va_A (wM cI b L v0) sz) := by
  refine Met.ofW (cc := cX12_surplus) (maxL := 4) (ret := (some .int)) (by decide) rfl ?_
  intro p e s m args below meth c s₁ B hml hv
  obtain ⟨rfl, hsz, hP, hKK, hD0⟩ := hv
  have hx := B.exec
  have hb := B.bytes
  have hr := B.returns
  have hts := atoms_spec (ws := wsX12_surplus) B.pre
  have hown : s.vm.findClass RX12 = some m.cls := findClass_of_methodNamed B.named
  have hlocks := B.notSynchronized
  have hK := hKK.1
  subst hsz
  have hD := hD0.self (sz := s.heap.size)
  obtain ⟨A, hAe⟩ : ∃ A, A = va_A (wM cI b L v0) s.heap.size := ⟨_, rfl⟩
  rw [← hAe] at hD
  have hA : ∀ q : Nat, s.heap.size ≤ q → A q := fun q h => by rw [hAe]; exact Or.inr h
  have hS : va_S A s.heap s.heap [] := va_S.rf
  have hl := lv_entry ([.ref (b 0), .int x0]) (n := 4) (Nat.le_of_ble_eq_true rfl)
  rw [lg_entry_eq]
  generalize (lg_sl ([.ref (b 0), .int x0]) ++ List.replicate (4 - (lg_sl ([.ref (b 0), .int x0])).length) Slot.unset).toArray = ls at hl ⊢
  have hl : lv_has ls 4 [(0, .ref (b 0)), (1, .int x0)] := hl
  obtain ⟨v, hv9⟩ : ∃ v : SU, v = v0 := ⟨_, rfl⟩
  rw [← hv9] at hP hD hV
  have lp39 : ∀ (n39 : Nat) (y39_l2 : Int32) (y39_l3 : Int32) (v : SU) (H : Heap) (locs : List Loc) (ls : Array Slot), Rg 0 4095 x0 → Rg 0 4095 y39_l3 → TyV v → va_P D cls (wM cI b L v) H → va_D A (wM cI b L v) → va_S A s.heap H locs → lv_has ls 4 [(0, .ref (b 0)), (1, .int x0), (2, .int y39_l2), (3, .int y39_l3)] → y39_l3.toInt < (n39 : Int) → W p l e (headSpec wsX12_surplus ({ frames := 3, cells := 0, slots := 0, locals := 120 })).room s m ([.ref (b 0), .int x0]).toArray below meth c H locs 0 0 (MQ below (QF (S := SU) D (wM cI b L v0) (wM cI b L) s.heap.size (fun r u => TyV u ∧ Rg (-2147483648) 2147483647 r ∧ True)) ([.ref (b 0), .int x0]).toArray s 0 0 (va_A (wM cI b L v0) s.heap.size)) (F0 m 39 ls []) := by
    intro n39
    induction n39 with
    | zero =>
      intro y39_l2 y39_l3 v H locs ls g39_l1 g39_l3 hV hP hD hS hl hm39
      exact absurd rfl (me_0 g39_l3 (by decide) hm39)
    | succ n39 ih39 =>
      intro y39_l2 y39_l3 v H locs ls g39_l1 g39_l3 hV hP hD hS hl hm39
      refine lv_iload_n hx hb dX12_surplus_39 rfl (lv_at hl 3 rfl) ?_
      refine lv_if_eq (tgt := 78) hx hb dX12_surplus_40 (by decide) (fun c6016 => ?_) (fun c6016 => ?_)
      · have g6017 : Rg 0 0 y39_l3 := wk_eql g39_l3 (by decide : Rg 0 0 (0 : Int32)) c6016 (by decide)
        refine lv_iload_n hx hb dX12_surplus_78 rfl (lv_at hl 2 rfl) ?_
        subst hAe
        exact W.iret (v := y39_l2) hx hb hr (fun t ht hW => ⟨⟨_, v, rfl, ⟨hV, (rg_any y39_l2), trivial⟩, by rw [ht]; exact hP, hD⟩, hS.F ht⟩) hS.2.2 dX12_surplus_79
      · have g6018 : Rg 1 4095 y39_l3 := rg_ne_lo (k := 0) g39_l3 (by decide) c6016 (by decide)
        refine lv_iload_n hx hb dX12_surplus_43 rfl (lv_at hl 2 rfl) ?_
        refine lv_aload_n hx hb dX12_surplus_44 rfl (lv_at hl 0 rfl) ?_
        refine lv_aload_n hx hb dX12_surplus_45 rfl (lv_at hl 0 rfl) ?_
        refine lv_iload_n hx hb dX12_surplus_46 rfl (lv_at hl 3 rfl) ?_
        refine wk_sv 0 (As := [.int y39_l3]) (rest := [.ref (b 0), .int y39_l2]) ⟨hx, hb, hml, hown, hts⟩ (w_X12_pieceOf l D cI cS b L v hL hV y39_l3 g6018) hKK hP (ci := 12) rfl rfl (cwV 1 hts gX12_surplus_X12_pieceOf rfl rfl rfl (by decide +kernel) ⟨Nat.le_of_ble_eq_true rfl, Nat.le_of_ble_eq_true rfl⟩) rfl hl.1 rfl (Nat.le_of_ble_eq_true rfl) dX12_surplus_47 ⟨Nat.le_of_ble_eq_true rfl, Nat.le_of_ble_eq_true rfl⟩ (fun r6019 hr6019 => ?_)
        refine wk_sv 0 (As := [.int r6019]) (rest := [.int y39_l2]) ⟨hx, hb, hml, hown, hts⟩ (w_X12_nextTo l D cI cS b L v hL hV r6019 hr6019.1) hKK hP (ci := 12) rfl rfl (cwV 1 hts gX12_surplus_X12_nextTo rfl rfl rfl (by decide +kernel) ⟨Nat.le_of_ble_eq_true rfl, Nat.le_of_ble_eq_true rfl⟩) rfl hl.1 rfl (Nat.le_of_ble_eq_true rfl) dX12_surplus_50 ⟨Nat.le_of_ble_eq_true rfl, Nat.le_of_ble_eq_true rfl⟩ (fun r6020 hr6020 => ?_)
        refine lv_iload_n hx hb dX12_surplus_53 rfl (lv_at hl 1 rfl) ?_
        refine wk_iandl hx hb dX12_surplus_54 hr6020.1 (by decide) (fun r6021 hr6021 qr6021 => ?_)
        refine lv_if_eq (tgt := 62) hx hb dX12_surplus_55 (by decide) (fun c6022 => ?_) (fun c6022 => ?_)
        · have g6023 : Rg 0 0 r6021 := wk_eql hr6021 (by decide : Rg 0 0 (0 : Int32)) c6022 (by decide)
          refine lv_iconst (v := 0) hx hb dX12_surplus_62 (by decide) ?_
          refine wk_iadd (e1 := (-2147483648)) (f := 2147483647) hx hb dX12_surplus_63 (rg_any y39_l2) (by decide : Rg 0 0 (0 : Int32)) (by decide) (fun r6024 hr6024 er6024 qr6024 => ?_)
          refine lv_istore_n (lv' := [(2, .int r6024), (0, .ref (b 0)), (1, .int x0), (3, .int y39_l3)]) hx hb dX12_surplus_64 rfl hl (by decide) rfl (fun ls hl => ?_)
          refine lv_iload_n hx hb dX12_surplus_65 rfl (lv_at hl 3 rfl) ?_
          refine lv_aload_n hx hb dX12_surplus_66 rfl (lv_at hl 1 rfl) ?_
          refine lv_iload_n hx hb dX12_surplus_67 rfl (lv_at hl 3 rfl) ?_
          refine wk_sv 0 (As := [.int y39_l3]) (rest := [.int y39_l3]) ⟨hx, hb, hml, hown, hts⟩ (w_X12_pieceOf l D cI cS b L v hL hV y39_l3 g6018) hKK hP (ci := 12) rfl rfl (cwV 1 hts gX12_surplus_X12_pieceOf rfl rfl rfl (by decide +kernel) ⟨Nat.le_of_ble_eq_true rfl, Nat.le_of_ble_eq_true rfl⟩) rfl hl.1 rfl (Nat.le_of_ble_eq_true rfl) dX12_surplus_68 ⟨Nat.le_of_ble_eq_true rfl, Nat.le_of_ble_eq_true rfl⟩ (fun r6025 hr6025 => ?_)
          refine lv_iconst (v := (-1)) hx hb dX12_surplus_71 (by decide) ?_
          refine lv_ixor hx hb dX12_surplus_72 ?_
          refine wk_topP (P := fun r => r = r6025 ^^^ ((-1) : Int32)) rfl (fun r6026 qr6026 => ?_)
          refine wk_iandl hx hb dX12_surplus_73 g6018 (by decide) (fun r6027 hr6027 qr6027 => ?_)
          refine lv_istore_n (lv' := [(3, .int r6027), (2, .int r6024), (0, .ref (b 0)), (1, .int x0)]) hx hb dX12_surplus_74 rfl hl (by decide) rfl (fun ls hl => ?_)
          refine lv_goto (tgt := 39) hx hb dX12_surplus_75 (by decide) ?_
          exact ih39 r6024 r6027 v _ _ ls g39_l1 hr6027 hV hP hD hS (lv_sub (l' := [(0, .ref (b 0)), (1, .int x0), (2, .int r6024), (3, .int r6027)]) hl [2, 3, 1, 0] rfl) (me_lt hm39 (by rw [qr6027, qr6026]; exact an_piece g6018 hr6025.2))
        · have g6028 : Rg 1 4095 r6021 := rg_ne_lo (k := 0) hr6021 (by decide) c6022 (by decide)
          refine lv_iconst (v := 1) hx hb dX12_surplus_58 (by decide) ?_
          refine lv_goto (tgt := 63) hx hb dX12_surplus_59 (by decide) ?_
          refine lv_iadd hx hb dX12_surplus_63 ?_
          refine wk_topP (P := fun r => r = y39_l2 + (1 : Int32)) rfl (fun r6029 qr6029 => ?_)
          refine lv_istore_n (lv' := [(2, .int r6029), (0, .ref (b 0)), (1, .int x0), (3, .int y39_l3)]) hx hb dX12_surplus_64 rfl hl (by decide) rfl (fun ls hl => ?_)
          refine lv_iload_n hx hb dX12_surplus_65 rfl (lv_at hl 3 rfl) ?_
          refine lv_aload_n hx hb dX12_surplus_66 rfl (lv_at hl 1 rfl) ?_
          refine lv_iload_n hx hb dX12_surplus_67 rfl (lv_at hl 3 rfl) ?_
          refine wk_sv 0 (As := [.int y39_l3]) (rest := [.int y39_l3]) ⟨hx, hb, hml, hown, hts⟩ (w_X12_pieceOf l D cI cS b L v hL hV y39_l3 g6018) hKK hP (ci := 12) rfl rfl (cwV 1 hts gX12_surplus_X12_pieceOf rfl rfl rfl (by decide +kernel) ⟨Nat.le_of_ble_eq_true rfl, Nat.le_of_ble_eq_true rfl⟩) rfl hl.1 rfl (Nat.le_of_ble_eq_true rfl) dX12_surplus_68 ⟨Nat.le_of_ble_eq_true rfl, Nat.le_of_ble_eq_true rfl⟩ (fun r6030 hr6030 => ?_)
          refine lv_iconst (v := (-1)) hx hb dX12_surplus_71 (by decide) ?_
          refine lv_ixor hx hb dX12_surplus_72 ?_
          refine wk_topP (P := fun r => r = r6030 ^^^ ((-1) : Int32)) rfl (fun r6031 qr6031 => ?_)
          refine wk_iandl hx hb dX12_surplus_73 g6018 (by decide) (fun r6032 hr6032 qr6032 => ?_)
          refine lv_istore_n (lv' := [(3, .int r6032), (2, .int r6029), (0, .ref (b 0)), (1, .int x0)]) hx hb dX12_surplus_74 rfl hl (by decide) rfl (fun ls hl => ?_)
          refine lv_goto (tgt := 39) hx hb dX12_surplus_75 (by decide) ?_
          exact ih39 r6029 r6032 v _ _ ls g39_l1 hr6032 hV hP hD hS (lv_sub (l' := [(0, .ref (b 0)), (1, .int x0), (2, .int r6029), (3, .int r6032)]) hl [2, 3, 1, 0] rfl) (me_lt hm39 (by rw [qr6032, qr6031]; exact an_piece g6018 hr6030.2))
  refine lv_aload_n hx hb dX12_surplus_0 rfl (lv_at hl 0 rfl) ?_
  refine wk_qv (wM cI b L) v (As := []) (rest := []) ⟨hx, hb, hml, hown, hts⟩ (w_X12_reckons l D cI cS _ b L v hL hV) hKK hP hD hS hA 0 (ci := 12) rfl rfl (cwV 0 hts gX12_surplus_X12_reckons rfl rfl rfl (by decide +kernel) ⟨Nat.le_of_ble_eq_true rfl, Nat.le_of_ble_eq_true rfl⟩) rfl hl.1 rfl (Nat.le_of_ble_eq_true rfl) dX12_surplus_1 ⟨Nat.le_of_ble_eq_true rfl, Nat.le_of_ble_eq_true rfl⟩ (fun v H locs hr6033 hP hD hS => ?_)
  have hV := hr6033.1
  refine lv_aload_n hx hb dX12_surplus_4 rfl (lv_at hl 0 rfl) ?_
  refine lv_iload_n hx hb dX12_surplus_5 rfl (lv_at hl 1 rfl) ?_
  refine wk_sv 0 (As := [.int x0]) (rest := []) ⟨hx, hb, hml, hown, hts⟩ (w_X12_isSet l D cI cS b L v hL hV x0) hKK hP (ci := 12) rfl rfl (cwV 1 hts gX12_surplus_X12_isSet rfl rfl rfl (by decide +kernel) ⟨Nat.le_of_ble_eq_true rfl, Nat.le_of_ble_eq_true rfl⟩) rfl hl.1 rfl (Nat.le_of_ble_eq_true rfl) dX12_surplus_6 ⟨Nat.le_of_ble_eq_true rfl, Nat.le_of_ble_eq_true rfl⟩ (fun r6034 hr6034 => ?_)
  refine lv_if_eq (tgt := 24) hx hb dX12_surplus_9 (by decide) (fun c6035 => ?_) (fun c6035 => ?_)
  · have g6036 : Rg 0 0 r6034 := wk_eql hr6034.1 (by decide : Rg 0 0 (0 : Int32)) c6035 (by decide)
    refine lv_bipush (v := (-2)) hx hb dX12_surplus_24 (by decide) ?_
    subst hAe
    exact W.iret (v := (-2)) hx hb hr (fun t ht hW => ⟨⟨_, v, rfl, ⟨hV, (by decide : Rg (-2147483648) 2147483647 ((-2) : Int32)), trivial⟩, by rw [ht]; exact hP, hD⟩, hS.F ht⟩) hS.2.2 dX12_surplus_26
  · have g6037 : Rg 0 4095 x0 := (hr6034.2.1 c6035)
    have g6038 : Rg 1 1 r6034 := rg_ne_lo (k := 0) hr6034.1 (by decide) c6035 (by decide)
    refine lv_iload_n hx hb dX12_surplus_12 rfl (lv_at hl 1 rfl) ?_
    refine lv_aload_n hx hb dX12_surplus_13 rfl (lv_at hl 0 rfl) ?_
    refine lv_iconst (v := 1) hx hb dX12_surplus_14 (by decide) ?_
    refine wk_sv 0 (As := [.int 1]) (rest := [.int x0]) ⟨hx, hb, hml, hown, hts⟩ (w_X12_markedSet l D cI cS b L v hL hV (1 : Int32)) hKK hP (ci := 12) rfl rfl (cwV 1 hts gX12_surplus_X12_markedSet rfl rfl rfl (by decide +kernel) ⟨Nat.le_of_ble_eq_true rfl, Nat.le_of_ble_eq_true rfl⟩) rfl hl.1 rfl (Nat.le_of_ble_eq_true rfl) dX12_surplus_15 ⟨Nat.le_of_ble_eq_true rfl, Nat.le_of_ble_eq_true rfl⟩ (fun r6039 hr6039 => ?_)
    refine lv_iconst (v := (-1)) hx hb dX12_surplus_18 (by decide) ?_
    refine lv_ixor hx hb dX12_surplus_19 ?_
    refine wk_topP (P := fun r => r = r6039 ^^^ ((-1) : Int32)) rfl (fun r6040 qr6040 => ?_)
    refine wk_iandl hx hb dX12_surplus_20 g6037 (by decide) (fun r6041 hr6041 qr6041 => ?_)
    refine lv_if_eq (tgt := 27) hx hb dX12_surplus_21 (by decide) (fun c6042 => ?_) (fun c6042 => ?_)
    · have g6043 : Rg 0 0 r6041 := wk_eql hr6041 (by decide : Rg 0 0 (0 : Int32)) c6042 (by decide)
      refine lv_iload_n hx hb dX12_surplus_27 rfl (lv_at hl 1 rfl) ?_
      refine lz_ss (As := [.int x0]) (rest := []) ⟨hx, hb, hml, hown, hts⟩ (w_X12_bits l D cI cS x0) hKK (hP.sub (ws' := []) [] rfl) (va_cwS 1 hts gX12_surplus_X12_bits rfl rfl rfl (by decide +kernel) ⟨Nat.le_of_ble_eq_true rfl, Nat.le_of_ble_eq_true rfl⟩) rfl hl.1 rfl (Nat.le_of_ble_eq_true rfl) dX12_surplus_28 ⟨Nat.le_of_ble_eq_true rfl, Nat.le_of_ble_eq_true rfl⟩ (fun r6044 hr6044 => ?_)
      refine lv_ineg hx hb dX12_surplus_31 ?_
      refine wk_topP (P := fun r => r = -r6044) rfl (fun r6045 qr6045 => ?_)
      refine lv_istore_n (lv' := [(2, .int r6045), (0, .ref (b 0)), (1, .int x0)]) hx hb dX12_surplus_32 rfl hl (by decide) rfl (fun ls hl => ?_)
      refine lv_aload_n hx hb dX12_surplus_33 rfl (lv_at hl 1 rfl) ?_
      refine lv_iconst (v := 0) hx hb dX12_surplus_34 (by decide) ?_
      refine wk_sv 0 (As := [.int 0]) (rest := []) ⟨hx, hb, hml, hown, hts⟩ (w_X12_markedSet l D cI cS b L v hL hV (0 : Int32)) hKK hP (ci := 12) rfl rfl (cwV 1 hts gX12_surplus_X12_markedSet rfl rfl rfl (by decide +kernel) ⟨Nat.le_of_ble_eq_true rfl, Nat.le_of_ble_eq_true rfl⟩) rfl hl.1 rfl (Nat.le_of_ble_eq_true rfl) dX12_surplus_35 ⟨Nat.le_of_ble_eq_true rfl, Nat.le_of_ble_eq_true rfl⟩ (fun r6046 hr6046 => ?_)
      refine lv_istore_n (lv' := [(3, .int r6046), (2, .int r6045), (0, .ref (b 0)), (1, .int x0)]) hx hb dX12_surplus_38 rfl hl (by decide) rfl (fun ls hl => ?_)
      exact lp39 4096 r6045 r6046 v _ _ ls g6037 hr6046.1 hV hP hD hS (lv_sub (l' := [(0, .ref (b 0)), (1, .int x0), (2, .int r6045), (3, .int r6046)]) hl [2, 3, 1, 0] rfl) (me_k hr6046.1 (by decide))
    · have g6047 : Rg 1 4095 r6041 := rg_ne_lo (k := 0) hr6041 (by decide) c6042 (by decide)
      refine lv_bipush (v := (-2)) hx hb dX12_surplus_24 (by decide) ?_
      subst hAe
      exact W.iret (v := (-2)) hx hb hr (fun t ht hW => ⟨⟨_, v, rfl, ⟨hV, (by decide : Rg (-2147483648) 2147483647 ((-2) : Int32)), trivial⟩, by rw [ht]; exact hP, hD⟩, hS.F ht⟩) hS.2.2 dX12_surplus_26
set_option maxRecDepth 20000 in
theorem ggX12_oddOf_X12_bits : GoodIn wsX12_oddOf wsX12_bits := goodIn_r _ [17] rfl (by decide +kernel)
set_option maxRecDepth 20000 in
theorem gX12_oddOf_X12_bits : GoodIn wsX12_oddOf (va_wsS RX12 85 yX12_bits wsX12_bits) := goodIn_app (goodIn_of _ (by decide +kernel)) ggX12_oddOf_X12_bits
set_option maxRecDepth 20000 in
theorem ggX12_oddOf_X12_pieceOf : GoodIn wsX12_oddOf wsX12_pieceOf := goodIn_r _ [10, 6, 11, 12, 13, 4, 14, 18, 19, 20, 21, 22, 23, 24, 25, 26, 27, 28, 29, 30, 31, 32, 33, 34, 35, 36, 37, 38, 39, 40, 41] rfl (by decide +kernel)
set_option maxRecDepth 20000 in
theorem gX12_oddOf_X12_pieceOf : GoodIn wsX12_oddOf (wsV RX12 129 RX12 yX12_pieceOf wsX12_pieceOf) := goodIn_app (goodIn_of _ (by decide +kernel)) ggX12_oddOf_X12_pieceOf
theorem dX12_oddOf_15 : decode cX12_oddOf 15 = .ok (.iload_n 2, 1) := by decide +kernel
theorem dX12_oddOf_16 : decode cX12_oddOf 16 = .ok (.aload_n 0, 1) := by decide +kernel
theorem dX12_oddOf_17 : decode cX12_oddOf 17 = .ok (.iload_n 3, 1) := by decide +kernel
theorem dX12_oddOf_18 : decode cX12_oddOf 18 = .ok (.invokevirtual 129, 3) := by decide +kernel
theorem dX12_oddOf_21 : decode cX12_oddOf 21 = .ok (.invokestatic 85, 3) := by decide +kernel
theorem dX12_oddOf_24 : decode cX12_oddOf 24 = .ok (.iconst 2, 1) := by decide +kernel
theorem dX12_oddOf_25 : decode cX12_oddOf 25 = .ok (.irem, 1) := by decide +kernel
theorem dX12_oddOf_26 : decode cX12_oddOf 26 = .ok (.iadd, 1) := by decide +kernel
theorem dX12_oddOf_27 : decode cX12_oddOf 27 = .ok (.istore_n 2, 1) := by decide +kernel
theorem dX12_oddOf_28 : decode cX12_oddOf 28 = .ok (.iload_n 3, 1) := by decide +kernel
theorem dX12_oddOf_29 : decode cX12_oddOf 29 = .ok (.aload_n 0, 1) := by decide +kernel
theorem dX12_oddOf_30 : decode cX12_oddOf 30 = .ok (.iload_n 3, 1) := by decide +kernel
theorem dX12_oddOf_31 : decode cX12_oddOf 31 = .ok (.invokevirtual 129, 3) := by decide +kernel
theorem dX12_oddOf_34 : decode cX12_oddOf 34 = .ok (.iconst (-1), 1) := by decide +kernel
theorem dX12_oddOf_35 : decode cX12_oddOf 35 = .ok (.ixor, 1) := by decide +kernel
theorem dX12_oddOf_36 : decode cX12_oddOf 36 = .ok (.iand, 1) := by decide +kernel
theorem dX12_oddOf_37 : decode cX12_oddOf 37 = .ok (.istore_n 3, 1) := by decide +kernel
theorem dX12_oddOf_38 : decode cX12_oddOf 38 = .ok (.goto (-27), 3) := by decide +kernel
set_option maxHeartbeats 4000000 in
set_option maxRecDepth 100000 in
theorem w_X12_oddOf (l : Launch) (D : va_G) (cI cS : ClassId) (b : Nat → Nat) (L v : SU) (hL : TyL L) (hV : TyV v) (x0 : Int32) (px0 : Rg 0 4095 x0) : Met l yX12_oddOf wsX12_oddOf ({ frames := 2, cells := 0, slots := 0, locals := 80 }) (PS D cI cS (wM cI b L v) [.ref (b 0), .int x0]) (vp_Si (fun r => Rg (-2147483648) 2147483647 r ∧ True)) 0 0 (fun _ => False) := by
  refine Met.ofW (cc := cX12_oddOf) (maxL := 4) (ret := (some .int)) (by decide) rfl ?_
  intro p e s m args below meth c s₁ B hml hv
  obtain ⟨rfl, hP, hKK⟩ := hv
  have hx := B.exec
  have hb := B.bytes
  have hr := B.returns
  have hts := atoms_spec (ws := wsX12_oddOf) B.pre
  have hown : s.vm.findClass RX12 = some m.cls := findClass_of_methodNamed B.named
  have hlocks := B.notSynchronized
  have hK := hKK.1
  have hl := lv_entry ([.ref (b 0), .int x0]) (n := 4) (Nat.le_of_ble_eq_true rfl)
  rw [lg_entry_eq]
  generalize (lg_sl ([.ref (b 0), .int x0]) ++ List.replicate (4 - (lg_sl ([.ref (b 0), .int x0])).length) Slot.unset).toArray = ls at hl ⊢
  have hl : lv_has ls 4 [(0, .ref (b 0)), (1, .int x0)] := hl
  have lp11 : ∀ (n11 : Nat) (y11_l2 : Int32) (y11_l3 : Int32) (ls : Array Slot), Rg 0 4095 y11_l3 → lv_has ls 4 [(0, .ref (b 0)), (2, .int y11_l2), (3, .int y11_l3)] → y11_l3.toInt < (n11 : Int) → W p l e (headSpec wsX12_oddOf ({ frames := 2, cells := 0, slots := 0, locals := 80 })).room s m ([.ref (b 0), .int x0]).toArray below meth c s.heap [] 0 0 (MQ below (vp_Si (fun r => Rg (-2147483648) 2147483647 r ∧ True)) ([.ref (b 0), .int x0]).toArray s 0 0 (fun _ => False)) (F0 m 11 ls []) := by
    intro n11
    induction n11 with
    | zero =>
      intro y11_l2 y11_l3 ls g11_l3 hl hm11
      exact absurd rfl (me_0 g11_l3 (by decide) hm11)
    | succ n11 ih11 =>
      intro y11_l2 y11_l3 ls g11_l3 hl hm11
      refine lv_iload_n hx hb dX12_oddOf_11 rfl (lv_at hl 2 rfl) ?_
      refine lv_if_eq (tgt := 41) hx hb dX12_oddOf_12 (by decide) (fun c6074 => ?_) (fun c6074 => ?_)
      · have g6075 : Rg 0 0 y11_l3 := wk_eql g11_l3 (by decide : Rg 0 0 (0 : Int32)) c6074 (by decide)
        refine lv_iload_n hx hb dX12_oddOf_41 rfl (lv_at hl 1 rfl) ?_
        exact W.iret (v := y11_l2) hx hb hr (fun t ht hW => ⟨_, rfl, ⟨(rg_any y11_l2), trivial⟩, ht⟩) (fun q hq => absurd hq List.not_mem_nil) dX12_oddOf_42
      · have g6076 : Rg 1 4095 y11_l3 := rg_ne_lo (k := 0) g11_l3 (by decide) c6074 (by decide)
        refine lv_iload_n hx hb dX12_oddOf_15 rfl (lv_at hl 1 rfl) ?_
        refine lv_aload_n hx hb dX12_oddOf_16 rfl (lv_at hl 0 rfl) ?_
        refine lv_iload_n hx hb dX12_oddOf_17 rfl (lv_at hl 2 rfl) ?_
        refine wk_sv 0 (As := [.int y11_l3]) (rest := [.int y11_l2]) ⟨hx, hb, hml, hown, hts⟩ (w_X12_pieceOf l D cI cS b L v hL hV y11_l3 g6076) hKK hP (ci := 12) rfl rfl (cwV 1 hts gX12_oddOf_X12_pieceOf rfl rfl rfl (by decide +kernel) ⟨Nat.le_of_ble_eq_true rfl, Nat.le_of_ble_eq_true rfl⟩) rfl hl.1 rfl (Nat.le_of_ble_eq_true rfl) dX12_oddOf_18 ⟨Nat.le_of_ble_eq_true rfl, Nat.le_of_ble_eq_true rfl⟩ (fun r6077 hr6077 => ?_)
        refine lz_ss (As := [.int r6077]) (rest := [.int y11_l2]) ⟨hx, hb, hml, hown, hts⟩ (w_X12_bits l D cI cS r6077) hKK (hP.sub (ws' := []) [] rfl) (va_cwS 1 hts gX12_oddOf_X12_bits rfl rfl rfl (by decide +kernel) ⟨Nat.le_of_ble_eq_true rfl, Nat.le_of_ble_eq_true rfl⟩) rfl hl.1 rfl (Nat.le_of_ble_eq_true rfl) dX12_oddOf_21 ⟨Nat.le_of_ble_eq_true rfl, Nat.le_of_ble_eq_true rfl⟩ (fun r6078 hr6078 => ?_)
        refine lv_iconst (v := 2) hx hb dX12_oddOf_24 (by decide) ?_
        refine lv_irem hx hb dX12_oddOf_25 (by decide) ?_
        refine wk_any (fun r6079 => ?_)
        refine lv_iadd hx hb dX12_oddOf_26 ?_
        refine wk_topP (P := fun r => r = y11_l2 + r6079) rfl (fun r6080 qr6080 => ?_)
        refine lv_istore_n (lv' := [(2, .int r6080), (0, .ref (b 0)), (3, .int y11_l3)]) hx hb dX12_oddOf_27 rfl hl (by decide) rfl (fun ls hl => ?_)
        refine lv_iload_n hx hb dX12_oddOf_28 rfl (lv_at hl 2 rfl) ?_
        refine lv_aload_n hx hb dX12_oddOf_29 rfl (lv_at hl 1 rfl) ?_
        refine lv_iload_n hx hb dX12_oddOf_30 rfl (lv_at hl 2 rfl) ?_
        refine wk_sv 0 (As := [.int y11_l3]) (rest := [.int y11_l3]) ⟨hx, hb, hml, hown, hts⟩ (w_X12_pieceOf l D cI cS b L v hL hV y11_l3 g6076) hKK hP (ci := 12) rfl rfl (cwV 1 hts gX12_oddOf_X12_pieceOf rfl rfl rfl (by decide +kernel) ⟨Nat.le_of_ble_eq_true rfl, Nat.le_of_ble_eq_true rfl⟩) rfl hl.1 rfl (Nat.le_of_ble_eq_true rfl) dX12_oddOf_31 ⟨Nat.le_of_ble_eq_true rfl, Nat.le_of_ble_eq_true rfl⟩ (fun r6081 hr6081 => ?_)
        refine lv_iconst (v := (-1)) hx hb dX12_oddOf_34 (by decide) ?_
        refine lv_ixor hx hb dX12_oddOf_35 ?_
        refine wk_topP (P := fun r => r = r6081 ^^^ ((-1) : Int32)) rfl (fun r6082 qr6082 => ?_)
        refine wk_iandl hx hb dX12_oddOf_36 g6076 (by decide) (fun r6083 hr6083 qr6083 => ?_)
        refine lv_istore_n (lv' := [(3, .int r6083), (2, .int r6080), (0, .ref (b 0))]) hx hb dX12_oddOf_37 rfl hl (by decide) rfl (fun ls hl => ?_)
        refine lv_goto (tgt := 11) hx hb dX12_oddOf_38 (by decide) ?_
        exact ih11 r6080 r6083 ls hr6083 (lv_sub (l' := [(0, .ref (b 0)), (2, .int r6080), (3, .int r6083)]) hl [2, 1, 0] rfl) (me_lt hm11 (by rw [qr6083, qr6082]; exact an_piece g6076 hr6081.2))
  refine lv_iconst (v := 0) hx hb dX12_oddOf_0 (by decide) ?_
  refine lv_istore_n (lv' := [(2, .int 0), (0, .ref (b 0)), (1, .int x0)]) hx hb dX12_oddOf_1 rfl hl (by decide) rfl (fun ls hl => ?_)
  refine lv_aload_n hx hb dX12_oddOf_2 rfl (lv_at hl 1 rfl) ?_
  refine wk_sv 0 (As := []) (rest := []) ⟨hx, hb, hml, hown, hts⟩ (w_X12_all l D cI cS b L v hL hV) hKK hP (ci := 12) rfl rfl (cwV 0 hts gX12_oddOf_X12_all rfl rfl rfl (by decide +kernel) ⟨Nat.le_of_ble_eq_true rfl, Nat.le_of_ble_eq_true rfl⟩) rfl hl.1 rfl (Nat.le_of_ble_eq_true rfl) dX12_oddOf_3 ⟨Nat.le_of_ble_eq_true rfl, Nat.le_of_ble_eq_true rfl⟩ (fun r6084 hr6084 => ?_)
  refine lv_iload_n hx hb dX12_oddOf_6 rfl (lv_at hl 2 rfl) ?_
  refine lv_iconst (v := (-1)) hx hb dX12_oddOf_7 (by decide) ?_
  refine lv_ixor hx hb dX12_oddOf_8 ?_
  refine wk_topP (P := fun r => r = x0 ^^^ ((-1) : Int32)) rfl (fun r6085 qr6085 => ?_)
  refine wk_iandl hx hb dX12_oddOf_9 hr6084.1 (by decide) (fun r6086 hr6086 qr6086 => ?_)
  refine lv_istore_n (lv' := [(3, .int r6086), (2, .int 0), (0, .ref (b 0)), (1, .int x0)]) hx hb dX12_oddOf_10 rfl hl (by decide) rfl (fun ls hl => ?_)
  exact lp11 4096 (0 : Int32) r6086 ls hr6086 (lv_sub (l' := [(0, .ref (b 0)), (2, .int 0), (3, .int r6086)]) hl [2, 1, 0] rfl) (me_k hr6086 (by decide))
set_option maxHeartbeats 4000000 in
set_option maxRecDepth 100000 in
theorem w_X12_odd (l : Launch) (D : va_G) (cI cS : ClassId) (b : Nat → Nat) (L v : SU) (hL : TyL L) (hV : TyV v) (x0 : Int32) : Met l yX12_odd wsX12_odd ({ frames := 3, cells := 0, slots := 0, locals := 120 }) (PS D cI cS (wM cI b L v) [.ref (b 0), .int x0]) (vp_Si (fun r => Rg (-2147483648) 2147483647 r ∧ True)) 0 0 (fun _ => False) := by
  refine Met.ofW (cc := cX12_odd) (maxL := 2) (ret := (some .int)) (by decide) rfl ?_
  intro p e s m args below meth c s₁ B hml hv
  obtain ⟨rfl, hP, hKK⟩ := hv
  have hx := B.exec
  have hb := B.bytes
  have hr := B.returns
  have hts := atoms_spec (ws := wsX12_odd) B.pre
  have hown : s.vm.findClass RX12 = some m.cls := findClass_of_methodNamed B.named
  have hlocks := B.notSynchronized
  have hK := hKK.1
  have hl := lv_entry ([.ref (b 0), .int x0]) (n := 2) (Nat.le_of_ble_eq_true rfl)
  rw [lg_entry_eq]
  generalize (lg_sl ([.ref (b 0), .int x0]) ++ List.replicate (2 - (lg_sl ([.ref (b 0), .int x0])).length) Slot.unset).toArray = ls at hl ⊢
  have hl : lv_has ls 2 [(0, .ref (b 0)), (1, .int x0)] := hl
  refine lv_aload_n hx hb dX12_odd_0 rfl (lv_at hl 0 rfl) ?_
  refine lv_iload_n hx hb dX12_odd_1 rfl (lv_at hl 1 rfl) ?_
  refine wk_sv 0 (As := [.int x0]) (rest := []) ⟨hx, hb, hml, hown, hts⟩ (w_X12_isSet l D cI cS b L v hL hV x0) hKK hP (ci := 12) rfl rfl (cwV 1 hts gX12_odd_X12_isSet rfl rfl rfl (by decide +kernel) ⟨Nat.le_of_ble_eq_true rfl, Nat.le_of_ble_eq_true rfl⟩) rfl hl.1 rfl (Nat.le_of_ble_eq_true rfl) dX12_odd_2 ⟨Nat.le_of_ble_eq_true rfl, Nat.le_of_ble_eq_true rfl⟩ (fun r6093 hr6093 => ?_)
  refine lv_if_eq (tgt := 16) hx hb dX12_odd_5 (by decide) (fun c6094 => ?_) (fun c6094 => ?_)
  · have g6095 : Rg 0 0 r6093 := wk_eql hr6093.1 (by decide : Rg 0 0 (0 : Int32)) c6094 (by decide)
    refine lv_bipush (v := (-2)) hx hb dX12_odd_16 (by decide) ?_
    exact W.iret (v := (-2)) hx hb hr (fun t ht hW => ⟨_, rfl, ⟨(by decide : Rg (-2147483648) 2147483647 ((-2) : Int32)), trivial⟩, ht⟩) (fun q hq => absurd hq List.not_mem_nil) dX12_odd_18
  · have g6096 : Rg 0 4095 x0 := (hr6093.2.1 c6094)
    have g6097 : Rg 1 1 r6093 := rg_ne_lo (k := 0) hr6093.1 (by decide) c6094 (by decide)
    refine lv_aload_n hx hb dX12_odd_8 rfl (lv_at hl 0 rfl) ?_
    refine lv_iload_n hx hb dX12_odd_9 rfl (lv_at hl 1 rfl) ?_
    refine wk_sv 0 (As := [.int x0]) (rest := []) ⟨hx, hb, hml, hown, hts⟩ (w_X12_oddOf l D cI cS b L v hL hV x0 g6096) hKK hP (ci := 12) rfl rfl (cwV 1 hts gX12_odd_X12_oddOf rfl rfl rfl (by decide +kernel) ⟨Nat.le_of_ble_eq_true rfl, Nat.le_of_ble_eq_true rfl⟩) rfl hl.1 rfl (Nat.le_of_ble_eq_true rfl) dX12_odd_10 ⟨Nat.le_of_ble_eq_true rfl, Nat.le_of_ble_eq_true rfl⟩ (fun r6098 hr6098 => ?_)
    refine lv_goto (tgt := 18) hx hb dX12_odd_13 (by decide) ?_
    exact W.iret (v := r6098) hx hb hr (fun t ht hW => ⟨_, rfl, ⟨hr6098.1, trivial⟩, ht⟩) (fun q hq => absurd hq List.not_mem_nil) dX12_odd_18
theorem dX12_barrier_34 : decode cX12_barrier 34 = .ok (.iconst 0, 1) := by decide +kernel
set_option maxHeartbeats 4000000 in
set_option maxRecDepth 100000 in
theorem w_X12_barrier (l : Launch) (D : va_G) (cI cS : ClassId) (sz : Nat) (b : Nat → Nat) (L v0 : SU) (hL : TyL L) (hV : TyV v0) (x0 : Int32) : Met l yX12_barrier wsX12_barrier ({ frames := 5, cells := 0, slots := 0, locals := 200 }) (PQ D cI cS (wM cI b L v0) sz [.ref (b 0), .int x0]) (QF (S := SU) D (wM cI b L v0) (wM cI b L) sz (fun r u => TyV u ∧ Rg (-2) 1 r ∧ (r = 0 → Rg 0 4095 x0))) 0 0 (va_A (wM cI b L v0) sz) := by
  refine Met.ofW (cc := cX12_barrier) (maxL := 2) (ret := (some .int)) (by decide) rfl ?_
  intro p e s m args below meth c s₁ B hml hv
  obtain ⟨rfl, hsz, hP, hKK, hD0⟩ := hv
  have hx := B.exec
  have hb := B.bytes
  have hr := B.returns
  have hts := atoms_spec (ws := wsX12_barrier) B.pre
  have hown : s.vm.findClass RX12 = some m.cls := findClass_of_methodNamed B.named
  have hlocks := B.notSynchronized
  have hK := hKK.1
  subst hsz
  have hD := hD0.self (sz := s.heap.size)
  obtain ⟨A, hAe⟩ : ∃ A, A = va_A (wM cI b L v0) s.heap.size := ⟨_, rfl⟩
  rw [← hAe] at hD
  have hA : ∀ q : Nat, s.heap.size ≤ q → A q := fun q h => by rw [hAe]; exact Or.inr h
  have hS : va_S A s.heap s.heap [] := va_S.rf
  have hl := lv_entry ([.ref (b 0), .int x0]) (n := 2) (Nat.le_of_ble_eq_true rfl)
  rw [lg_entry_eq]
  generalize (lg_sl ([.ref (b 0), .int x0]) ++ List.replicate (2 - (lg_sl ([.ref (b 0), .int x0])).length) Slot.unset).toArray = ls at hl ⊢
  have hl : lv_has ls 2 [(0, .ref (b 0)), (1, .int x0)] := hl
  obtain ⟨v, hv9⟩ : ∃ v : SU, v = v0 := ⟨_, rfl⟩
  rw [← hv9] at hP hD hV
  refine lv_aload_n hx hb dX12_barrier_0 rfl (lv_at hl 0 rfl) ?_
  refine lv_iload_n hx hb dX12_barrier_1 rfl (lv_at hl 1 rfl) ?_
  refine wk_sv 0 (As := [.int x0]) (rest := []) ⟨hx, hb, hml, hown, hts⟩ (w_X12_isSet l D cI cS b L v hL hV x0) hKK hP (ci := 12) rfl rfl (cwV 1 hts gX12_barrier_X12_isSet rfl rfl rfl (by decide +kernel) ⟨Nat.le_of_ble_eq_true rfl, Nat.le_of_ble_eq_true rfl⟩) rfl hl.1 rfl (Nat.le_of_ble_eq_true rfl) dX12_barrier_2 ⟨Nat.le_of_ble_eq_true rfl, Nat.le_of_ble_eq_true rfl⟩ (fun r6109 hr6109 => ?_)
  refine lv_if_ne (tgt := 13) hx hb dX12_barrier_5 (by decide) (fun c6110 => ?_) (fun c6110 => ?_)
  · have g6111 : Rg 0 4095 x0 := (hr6109.2.1 c6110)
    have g6112 : Rg 1 1 r6109 := rg_ne_lo (k := 0) hr6109.1 (by decide) c6110 (by decide)
    refine lv_aload_n hx hb dX12_barrier_13 rfl (lv_at hl 0 rfl) ?_
    refine lv_iload_n hx hb dX12_barrier_14 rfl (lv_at hl 1 rfl) ?_
    refine wk_sv 0 (As := [.int x0]) (rest := []) ⟨hx, hb, hml, hown, hts⟩ (w_X12_oddOf l D cI cS b L v hL hV x0 g6111) hKK hP (ci := 12) rfl rfl (cwV 1 hts gX12_barrier_X12_oddOf rfl rfl rfl (by decide +kernel) ⟨Nat.le_of_ble_eq_true rfl, Nat.le_of_ble_eq_true rfl⟩) rfl hl.1 rfl (Nat.le_of_ble_eq_true rfl) dX12_barrier_15 ⟨Nat.le_of_ble_eq_true rfl, Nat.le_of_ble_eq_true rfl⟩ (fun r6113 hr6113 => ?_)
    refine lv_iload_n hx hb dX12_barrier_18 rfl (lv_at hl 1 rfl) ?_
    refine lz_ss (As := [.int x0]) (rest := [.int r6113]) ⟨hx, hb, hml, hown, hts⟩ (w_X12_bits l D cI cS x0) hKK (hP.sub (ws' := []) [] rfl) (va_cwS 1 hts gX12_barrier_X12_bits rfl rfl rfl (by decide +kernel) ⟨Nat.le_of_ble_eq_true rfl, Nat.le_of_ble_eq_true rfl⟩) rfl hl.1 rfl (Nat.le_of_ble_eq_true rfl) dX12_barrier_19 ⟨Nat.le_of_ble_eq_true rfl, Nat.le_of_ble_eq_true rfl⟩ (fun r6114 hr6114 => ?_)
    refine lv_isub hx hb dX12_barrier_22 ?_
    refine wk_topP (P := fun r => r = r6113 - r6114) rfl (fun r6115 qr6115 => ?_)
    refine lv_aload_n hx hb dX12_barrier_23 rfl (lv_at hl 0 rfl) ?_
    refine wk_qi (wM cI b L) v (As := []) (rest := [.int r6115]) ⟨hx, hb, hml, hown, hts⟩ (w_X12_lack l D cI cS _ b L v hL hV) hKK hP hD hS hA 0 (ci := 12) rfl rfl (cwV 0 hts gX12_barrier_X12_lack rfl rfl rfl (by decide +kernel) ⟨Nat.le_of_ble_eq_true rfl, Nat.le_of_ble_eq_true rfl⟩) rfl hl.1 rfl (Nat.le_of_ble_eq_true rfl) dX12_barrier_24 ⟨Nat.le_of_ble_eq_true rfl, Nat.le_of_ble_eq_true rfl⟩ (fun r6116 v H locs hr6116 hP hD hS => ?_)
    have hV := hr6116.1
    refine lv_icmp_ne (tgt := 34) hx hb dX12_barrier_27 (by decide) (fun c6117 => ?_) (fun c6117 => ?_)
    · refine lv_iconst (v := 0) hx hb dX12_barrier_34 (by decide) ?_
      subst hAe
      exact W.iret (v := 0) hx hb hr (fun t ht hW => ⟨⟨_, v, rfl, ⟨hV, (by decide : Rg (-2) 1 (0 : Int32)), fun _ => g6111⟩, by rw [ht]; exact hP, hD⟩, hS.F ht⟩) hS.2.2 dX12_barrier_35
    · refine lv_iconst (v := 1) hx hb dX12_barrier_30 (by decide) ?_
      refine lv_goto (tgt := 35) hx hb dX12_barrier_31 (by decide) ?_
      subst hAe
      exact W.iret (v := 1) hx hb hr (fun t ht hW => ⟨⟨_, v, rfl, ⟨hV, (by decide : Rg (-2) 1 (1 : Int32)), fun h9 => absurd h9 (by decide)⟩, by rw [ht]; exact hP, hD⟩, hS.F ht⟩) hS.2.2 dX12_barrier_35
  · have g6118 : Rg 0 0 r6109 := wk_eql hr6109.1 (by decide : Rg 0 0 (0 : Int32)) c6110 (by decide)
    refine lv_bipush (v := (-2)) hx hb dX12_barrier_8 (by decide) ?_
    refine lv_goto (tgt := 35) hx hb dX12_barrier_10 (by decide) ?_
    subst hAe
    exact W.iret (v := (-2)) hx hb hr (fun t ht hW => ⟨⟨_, v, rfl, ⟨hV, (by decide : Rg (-2) 1 ((-2) : Int32)), fun h9 => absurd h9 (by decide)⟩, by rw [ht]; exact hP, hD⟩, hS.F ht⟩) hS.2.2 dX12_barrier_35
theorem dX12_barriers_56 : decode cX12_barriers 56 = .ok (.goto 41, 3) := by decide +kernel
theorem dX12_barriers_68 : decode cX12_barriers 68 = .ok (.iload 6, 2) := by decide +kernel
theorem dX12_barriers_70 : decode cX12_barriers 70 = .ok (.invokestatic 85, 3) := by decide +kernel
theorem dX12_barriers_73 : decode cX12_barriers 73 = .ok (.iload 4, 2) := by decide +kernel
theorem dX12_barriers_75 : decode cX12_barriers 75 = .ok (.invokestatic 85, 3) := by decide +kernel
theorem dX12_barriers_78 : decode cX12_barriers 78 = .ok (.if_icmp .le 8, 3) := by decide +kernel
theorem dX12_barriers_86 : decode cX12_barriers 86 = .ok (.iload 4, 2) := by decide +kernel
set_option maxHeartbeats 4000000 in
set_option maxRecDepth 100000 in
theorem w_X12_barriers (l : Launch) (D : va_G) (cI cS : ClassId) (sz : Nat) (b : Nat → Nat) (L v0 : SU) (hL : TyL L) (hV : TyV v0) (x0 : Int32) : Met l yX12_barriers wsX12_barriers ({ frames := 5, cells := 0, slots := 0, locals := 200 }) (PQ D cI cS (wM cI b L v0) sz [.ref (b 0), .int x0]) (QF (S := SU) D (wM cI b L v0) (wM cI b L) sz (fun r u => TyV u ∧ Rg (-2147483648) 2147483647 r ∧ True)) 0 0 (va_A (wM cI b L v0) sz) := by
  refine Met.ofW (cc := cX12_barriers) (maxL := 7) (ret := (some .int)) (by decide) rfl ?_
  intro p e s m args below meth c s₁ B hml hv
  obtain ⟨rfl, hsz, hP, hKK, hD0⟩ := hv
  have hx := B.exec
  have hb := B.bytes
  have hr := B.returns
  have hts := atoms_spec (ws := wsX12_barriers) B.pre
  have hown : s.vm.findClass RX12 = some m.cls := findClass_of_methodNamed B.named
  have hlocks := B.notSynchronized
  have hK := hKK.1
  subst hsz
  have hD := hD0.self (sz := s.heap.size)
  obtain ⟨A, hAe⟩ : ∃ A, A = va_A (wM cI b L v0) s.heap.size := ⟨_, rfl⟩
  rw [← hAe] at hD
  have hA : ∀ q : Nat, s.heap.size ≤ q → A q := fun q h => by rw [hAe]; exact Or.inr h
  have hS : va_S A s.heap s.heap [] := va_S.rf
  have hl := lv_entry ([.ref (b 0), .int x0]) (n := 7) (Nat.le_of_ble_eq_true rfl)
  rw [lg_entry_eq]
  generalize (lg_sl ([.ref (b 0), .int x0]) ++ List.replicate (7 - (lg_sl ([.ref (b 0), .int x0])).length) Slot.unset).toArray = ls at hl ⊢
  have hl : lv_has ls 7 [(0, .ref (b 0)), (1, .int x0)] := hl
  obtain ⟨v, hv9⟩ : ∃ v : SU, v = v0 := ⟨_, rfl⟩
  rw [← hv9] at hP hD hV
  have lp31 : ∀ (n31 : Nat) (y31_l2 : Int32) (y31_l3 : Int32) (y31_l4 : Int32) (y31_l5 : Int32) (y31_l6 : Int32) (v : SU) (H : Heap) (locs : List Loc) (ls : Array Slot), Rg 0 2 x0 → Rg (-1) 4095 y31_l4 → Rg 0 4095 y31_l5 → Rg 0 4096 y31_l6 → TyV v → va_P D cls (wM cI b L v) H → va_D A (wM cI b L v) → va_S A s.heap H locs → lv_has ls 7 [(0, .ref (b 0)), (1, .int x0), (2, .int y31_l2), (3, .int y31_l3), (4, .int y31_l4), (5, .int y31_l5), (6, .int y31_l6)] → 4096 - y31_l6.toInt < (n31 : Int) → W p l e (headSpec wsX12_barriers ({ frames := 5, cells := 0, slots := 0, locals := 200 })).room s m ([.ref (b 0), .int x0]).toArray below meth c H locs 0 0 (MQ below (QF (S := SU) D (wM cI b L v0) (wM cI b L) s.heap.size (fun r u => TyV u ∧ Rg (-2147483648) 2147483647 r ∧ True)) ([.ref (b 0), .int x0]).toArray s 0 0 (va_A (wM cI b L v0) s.heap.size)) (F0 m 31 ls []) := by
    intro n31
    induction n31 with
    | zero =>
      intro y31_l2 y31_l3 y31_l4 y31_l5 y31_l6 v H locs ls g31_l1 g31_l4 g31_l5 g31_l6 hV hP hD hS hl hm31
      exact absurd rfl (me_z g31_l6 hm31)
    | succ n31 ih31 =>
      intro y31_l2 y31_l3 y31_l4 y31_l5 y31_l6 v H locs ls g31_l1 g31_l4 g31_l5 g31_l6 hV hP hD hS hl hm31
      refine lv_iload hx hb dX12_barriers_31 (lv_at hl 6 rfl) ?_
      refine lv_aload_n hx hb dX12_barriers_33 rfl (lv_at hl 0 rfl) ?_
      refine wk_sv 0 (As := []) (rest := [.int y31_l6]) ⟨hx, hb, hml, hown, hts⟩ (w_X12_all l D cI cS b L v hL hV) hKK hP (ci := 12) rfl rfl (cwV 0 hts gX12_barriers_X12_all rfl rfl rfl (by decide +kernel) ⟨Nat.le_of_ble_eq_true rfl, Nat.le_of_ble_eq_true rfl⟩) rfl hl.1 rfl (Nat.le_of_ble_eq_true rfl) dX12_barriers_34 ⟨Nat.le_of_ble_eq_true rfl, Nat.le_of_ble_eq_true rfl⟩ (fun r7139 hr7139 => ?_)
      refine lv_icmp_gt (tgt := 103) hx hb dX12_barriers_37 (by decide) (fun c7140 => ?_) (fun c7140 => ?_)
      · have g7141 : Rg 1 4096 y31_l6 := rg_ltr hr7139.1 g31_l6 c7140 (by decide)
        refine lv_iload_n hx hb dX12_barriers_103 rfl (lv_at hl 1 rfl) ?_
        refine lv_if_ne (tgt := 111) hx hb dX12_barriers_104 (by decide) (fun c7142 => ?_) (fun c7142 => ?_)
        · have g7143 : Rg 1 2 x0 := rg_ne_lo (k := 0) g31_l1 (by decide) c7142 (by decide)
          refine lv_iload_n hx hb dX12_barriers_111 rfl (lv_at hl 1 rfl) ?_
          refine lv_iconst (v := 1) hx hb dX12_barriers_112 (by decide) ?_
          refine lv_icmp_ne (tgt := 121) hx hb dX12_barriers_113 (by decide) (fun c7144 => ?_) (fun c7144 => ?_)
          · have g7145 : Rg 2 2 x0 := rg_ne_lo (k := 1) g7143 (by decide) c7144 (by decide)
            refine lv_iload hx hb dX12_barriers_121 (lv_at hl 5 rfl) ?_
            subst hAe
            exact W.iret (v := y31_l5) hx hb hr (fun t ht hW => ⟨⟨_, v, rfl, ⟨hV, (rg_any y31_l5), trivial⟩, by rw [ht]; exact hP, hD⟩, hS.F ht⟩) hS.2.2 dX12_barriers_123
          · have g7146 : Rg 1 1 x0 := wk_eql g7143 (by decide : Rg 1 1 (1 : Int32)) c7144 (by decide)
            refine lv_iload hx hb dX12_barriers_116 (lv_at hl 4 rfl) ?_
            refine lv_goto (tgt := 123) hx hb dX12_barriers_118 (by decide) ?_
            subst hAe
            exact W.iret (v := y31_l4) hx hb hr (fun t ht hW => ⟨⟨_, v, rfl, ⟨hV, (rg_any y31_l4), trivial⟩, by rw [ht]; exact hP, hD⟩, hS.F ht⟩) hS.2.2 dX12_barriers_123
        · have g7147 : Rg 0 0 x0 := wk_eql g31_l1 (by decide : Rg 0 0 (0 : Int32)) c7142 (by decide)
          refine lv_iload_n hx hb dX12_barriers_107 rfl (lv_at hl 3 rfl) ?_
          refine lv_goto (tgt := 123) hx hb dX12_barriers_108 (by decide) ?_
          subst hAe
          exact W.iret (v := y31_l3) hx hb hr (fun t ht hW => ⟨⟨_, v, rfl, ⟨hV, (rg_any y31_l3), trivial⟩, by rw [ht]; exact hP, hD⟩, hS.F ht⟩) hS.2.2 dX12_barriers_123
      · have g7148 : Rg 0 4095 y31_l6 := rg_lel g31_l6 hr7139.1 (rg_nlt c7140) (by decide)
        refine lv_aload_n hx hb dX12_barriers_40 rfl (lv_at hl 0 rfl) ?_
        refine lv_iload hx hb dX12_barriers_41 (lv_at hl 6 rfl) ?_
        refine wk_sv 0 (As := [.int y31_l6]) (rest := []) ⟨hx, hb, hml, hown, hts⟩ (w_X12_oddOf l D cI cS b L v hL hV y31_l6 g7148) hKK hP (ci := 12) rfl rfl (cwV 1 hts gX12_barriers_X12_oddOf rfl rfl rfl (by decide +kernel) ⟨Nat.le_of_ble_eq_true rfl, Nat.le_of_ble_eq_true rfl⟩) rfl hl.1 rfl (Nat.le_of_ble_eq_true rfl) dX12_barriers_43 ⟨Nat.le_of_ble_eq_true rfl, Nat.le_of_ble_eq_true rfl⟩ (fun r7149 hr7149 => ?_)
        refine lv_iload hx hb dX12_barriers_46 (lv_at hl 6 rfl) ?_
        refine lz_ss (As := [.int y31_l6]) (rest := [.int r7149]) ⟨hx, hb, hml, hown, hts⟩ (w_X12_bits l D cI cS y31_l6) hKK (hP.sub (ws' := []) [] rfl) (va_cwS 1 hts gX12_barriers_X12_bits rfl rfl rfl (by decide +kernel) ⟨Nat.le_of_ble_eq_true rfl, Nat.le_of_ble_eq_true rfl⟩) rfl hl.1 rfl (Nat.le_of_ble_eq_true rfl) dX12_barriers_48 ⟨Nat.le_of_ble_eq_true rfl, Nat.le_of_ble_eq_true rfl⟩ (fun r7150 hr7150 => ?_)
        refine lv_isub hx hb dX12_barriers_51 ?_
        refine wk_topP (P := fun r => r = r7149 - r7150) rfl (fun r7151 qr7151 => ?_)
        refine lv_iload_n hx hb dX12_barriers_52 rfl (lv_at hl 2 rfl) ?_
        refine lv_icmp_eq (tgt := 59) hx hb dX12_barriers_53 (by decide) (fun c7152 => ?_) (fun c7152 => ?_)
        · refine wk_iincA (lv' := fun r => [(3, .int r), (0, .ref (b 0)), (1, .int x0), (2, .int y31_l2), (4, .int y31_l4), (5, .int y31_l5), (6, .int y31_l6)]) hx hb dX12_barriers_59 hl (k := 3) rfl (by decide) (fun _ => rfl) (fun r7153 ls hl => ?_)
          refine lv_iload hx hb dX12_barriers_62 (lv_at hl 4 rfl) ?_
          refine lv_iconst (v := (-1)) hx hb dX12_barriers_64 (by decide) ?_
          refine lv_icmp_eq (tgt := 81) hx hb dX12_barriers_65 (by decide) (fun c7154 => ?_) (fun c7154 => ?_)
          · have g7155 : Rg (-1) (-1) y31_l4 := wk_eql g31_l4 (by decide : Rg (-1) (-1) ((-1) : Int32)) c7154 (by decide)
            refine lv_iload hx hb dX12_barriers_81 (lv_at hl 6 rfl) ?_
            refine lv_goto (tgt := 88) hx hb dX12_barriers_83 (by decide) ?_
            refine lv_istore (lv' := [(4, .int y31_l6), (3, .int r7153), (0, .ref (b 0)), (1, .int x0), (2, .int y31_l2), (5, .int y31_l5), (6, .int y31_l6)]) hx hb dX12_barriers_88 hl (by decide) rfl (fun ls hl => ?_)
            refine lv_iload hx hb dX12_barriers_90 (lv_at hl 5 rfl) ?_
            refine lv_iload hx hb dX12_barriers_92 (lv_at hl 6 rfl) ?_
            refine wk_iandl hx hb dX12_barriers_94 g31_l5 (by decide) (fun r7156 hr7156 qr7156 => ?_)
            refine lv_istore (lv' := [(5, .int r7156), (4, .int y31_l6), (3, .int r7153), (0, .ref (b 0)), (1, .int x0), (2, .int y31_l2), (6, .int y31_l6)]) hx hb dX12_barriers_95 hl (by decide) rfl (fun ls hl => ?_)
            refine wk_iinc (lv' := fun r => [(6, .int r), (5, .int r7156), (4, .int y31_l6), (3, .int r7153), (0, .ref (b 0)), (1, .int x0), (2, .int y31_l2)]) (e1 := 1) (f := 4096) hx hb dX12_barriers_97 hl (k := 6) rfl (by decide) g7148 (by decide) (fun _ => rfl) (fun r7157 ls hr7157 er7157 hl => ?_)
            refine lv_goto (tgt := 31) hx hb dX12_barriers_100 (by decide) ?_
            exact ih31 y31_l2 r7153 y31_l6 r7156 r7157 v _ _ ls g31_l1 (show Rg (-1) 4095 y31_l6 from rg_w g7148 (by decide) (by decide)) hr7156 (show Rg 0 4096 r7157 from rg_w hr7157 (by decide) (by decide)) hV hP hD hS (lv_sub (l' := [(0, .ref (b 0)), (1, .int x0), (2, .int y31_l2), (3, .int r7153), (4, .int y31_l6), (5, .int r7156), (6, .int r7157)]) hl [4, 5, 6, 3, 2, 1, 0] rfl) (me_up hm31 er7157 (by decide))
          · have g7158 : Rg 0 4095 y31_l4 := rg_ne_lo (k := (-1)) g31_l4 (by decide) c7154 (by decide)
            refine lv_iload hx hb dX12_barriers_68 (lv_at hl 6 rfl) ?_
            refine lz_ss (As := [.int y31_l6]) (rest := []) ⟨hx, hb, hml, hown, hts⟩ (w_X12_bits l D cI cS y31_l6) hKK (hP.sub (ws' := []) [] rfl) (va_cwS 1 hts gX12_barriers_X12_bits rfl rfl rfl (by decide +kernel) ⟨Nat.le_of_ble_eq_true rfl, Nat.le_of_ble_eq_true rfl⟩) rfl hl.1 rfl (Nat.le_of_ble_eq_true rfl) dX12_barriers_70 ⟨Nat.le_of_ble_eq_true rfl, Nat.le_of_ble_eq_true rfl⟩ (fun r7159 hr7159 => ?_)
            refine lv_iload hx hb dX12_barriers_73 (lv_at hl 4 rfl) ?_
            refine lz_ss (As := [.int y31_l4]) (rest := [.int r7159]) ⟨hx, hb, hml, hown, hts⟩ (w_X12_bits l D cI cS y31_l4) hKK (hP.sub (ws' := []) [] rfl) (va_cwS 1 hts gX12_barriers_X12_bits rfl rfl rfl (by decide +kernel) ⟨Nat.le_of_ble_eq_true rfl, Nat.le_of_ble_eq_true rfl⟩) rfl hl.1 rfl (Nat.le_of_ble_eq_true rfl) dX12_barriers_75 ⟨Nat.le_of_ble_eq_true rfl, Nat.le_of_ble_eq_true rfl⟩ (fun r7160 hr7160 => ?_)
            refine lv_icmp_le (tgt := 86) hx hb dX12_barriers_78 (by decide) (fun c7161 => ?_) (fun c7161 => ?_)
            · refine lv_iload hx hb dX12_barriers_86 (lv_at hl 4 rfl) ?_
              refine lv_istore (lv' := [(4, .int y31_l4), (3, .int r7153), (0, .ref (b 0)), (1, .int x0), (2, .int y31_l2), (5, .int y31_l5), (6, .int y31_l6)]) hx hb dX12_barriers_88 hl (by decide) rfl (fun ls hl => ?_)
              refine lv_iload hx hb dX12_barriers_90 (lv_at hl 5 rfl) ?_
              refine lv_iload hx hb dX12_barriers_92 (lv_at hl 6 rfl) ?_
              refine wk_iandl hx hb dX12_barriers_94 g31_l5 (by decide) (fun r7162 hr7162 qr7162 => ?_)
              refine lv_istore (lv' := [(5, .int r7162), (4, .int y31_l4), (3, .int r7153), (0, .ref (b 0)), (1, .int x0), (2, .int y31_l2), (6, .int y31_l6)]) hx hb dX12_barriers_95 hl (by decide) rfl (fun ls hl => ?_)
              refine wk_iinc (lv' := fun r => [(6, .int r), (5, .int r7162), (4, .int y31_l4), (3, .int r7153), (0, .ref (b 0)), (1, .int x0), (2, .int y31_l2)]) (e1 := 1) (f := 4096) hx hb dX12_barriers_97 hl (k := 6) rfl (by decide) g7148 (by decide) (fun _ => rfl) (fun r7163 ls hr7163 er7163 hl => ?_)
              refine lv_goto (tgt := 31) hx hb dX12_barriers_100 (by decide) ?_
              exact ih31 y31_l2 r7153 y31_l4 r7162 r7163 v _ _ ls g31_l1 (show Rg (-1) 4095 y31_l4 from rg_w g7158 (by decide) (by decide)) hr7162 (show Rg 0 4096 r7163 from rg_w hr7163 (by decide) (by decide)) hV hP hD hS (lv_sub (l' := [(0, .ref (b 0)), (1, .int x0), (2, .int y31_l2), (3, .int r7153), (4, .int y31_l4), (5, .int r7162), (6, .int r7163)]) hl [4, 5, 6, 3, 2, 1, 0] rfl) (me_up hm31 er7163 (by decide))
            · refine lv_iload hx hb dX12_barriers_81 (lv_at hl 6 rfl) ?_
              refine lv_goto (tgt := 88) hx hb dX12_barriers_83 (by decide) ?_
              refine lv_istore (lv' := [(4, .int y31_l6), (3, .int r7153), (0, .ref (b 0)), (1, .int x0), (2, .int y31_l2), (5, .int y31_l5), (6, .int y31_l6)]) hx hb dX12_barriers_88 hl (by decide) rfl (fun ls hl => ?_)
              refine lv_iload hx hb dX12_barriers_90 (lv_at hl 5 rfl) ?_
              refine lv_iload hx hb dX12_barriers_92 (lv_at hl 6 rfl) ?_
              refine wk_iandl hx hb dX12_barriers_94 g31_l5 (by decide) (fun r7164 hr7164 qr7164 => ?_)
              refine lv_istore (lv' := [(5, .int r7164), (4, .int y31_l6), (3, .int r7153), (0, .ref (b 0)), (1, .int x0), (2, .int y31_l2), (6, .int y31_l6)]) hx hb dX12_barriers_95 hl (by decide) rfl (fun ls hl => ?_)
              refine wk_iinc (lv' := fun r => [(6, .int r), (5, .int r7164), (4, .int y31_l6), (3, .int r7153), (0, .ref (b 0)), (1, .int x0), (2, .int y31_l2)]) (e1 := 1) (f := 4096) hx hb dX12_barriers_97 hl (k := 6) rfl (by decide) g7148 (by decide) (fun _ => rfl) (fun r7165 ls hr7165 er7165 hl => ?_)
              refine lv_goto (tgt := 31) hx hb dX12_barriers_100 (by decide) ?_
              exact ih31 y31_l2 r7153 y31_l6 r7164 r7165 v _ _ ls g31_l1 (show Rg (-1) 4095 y31_l6 from rg_w g7148 (by decide) (by decide)) hr7164 (show Rg 0 4096 r7165 from rg_w hr7165 (by decide) (by decide)) hV hP hD hS (lv_sub (l' := [(0, .ref (b 0)), (1, .int x0), (2, .int y31_l2), (3, .int r7153), (4, .int y31_l6), (5, .int r7164), (6, .int r7165)]) hl [4, 5, 6, 3, 2, 1, 0] rfl) (me_up hm31 er7165 (by decide))
        · refine lv_goto (tgt := 97) hx hb dX12_barriers_56 (by decide) ?_
          refine wk_iinc (lv' := fun r => [(6, .int r), (0, .ref (b 0)), (1, .int x0), (2, .int y31_l2), (3, .int y31_l3), (4, .int y31_l4), (5, .int y31_l5)]) (e1 := 1) (f := 4096) hx hb dX12_barriers_97 hl (k := 6) rfl (by decide) g7148 (by decide) (fun _ => rfl) (fun r7166 ls hr7166 er7166 hl => ?_)
          refine lv_goto (tgt := 31) hx hb dX12_barriers_100 (by decide) ?_
          exact ih31 y31_l2 y31_l3 y31_l4 y31_l5 r7166 v _ _ ls g31_l1 g31_l4 g31_l5 (show Rg 0 4096 r7166 from rg_w hr7166 (by decide) (by decide)) hV hP hD hS (lv_sub (l' := [(0, .ref (b 0)), (1, .int x0), (2, .int y31_l2), (3, .int y31_l3), (4, .int y31_l4), (5, .int y31_l5), (6, .int r7166)]) hl [1, 2, 3, 4, 5, 6, 0] rfl) (me_up hm31 er7166 (by decide))
  refine lv_iload_n hx hb dX12_barriers_0 rfl (lv_at hl 1 rfl) ?_
  refine lv_iconst (v := 0) hx hb dX12_barriers_1 (by decide) ?_
  refine lv_iconst (v := 2) hx hb dX12_barriers_2 (by decide) ?_
  refine lz_ss (As := [.int x0, .int 0, .int 2]) (rest := []) ⟨hx, hb, hml, hown, hts⟩ (w_X12_in l D cI cS x0 (0 : Int32) (2 : Int32)) hKK (hP.sub (ws' := []) [] rfl) (va_cwS 3 hts gX12_barriers_X12_in rfl rfl rfl (by decide +kernel) ⟨Nat.le_of_ble_eq_true rfl, Nat.le_of_ble_eq_true rfl⟩) rfl hl.1 rfl (Nat.le_of_ble_eq_true rfl) dX12_barriers_3 ⟨Nat.le_of_ble_eq_true rfl, Nat.le_of_ble_eq_true rfl⟩ (fun r7167 hr7167 => ?_)
  refine lv_if_ne (tgt := 12) hx hb dX12_barriers_6 (by decide) (fun c7168 => ?_) (fun c7168 => ?_)
  · have zn7169 : (0 : Int32).toInt ≤ x0.toInt ∧ x0.toInt ≤ (2 : Int32).toInt := (hr7167.2.2 c7168)
    have g7170 : Rg 0 2 x0 := wk_in3 (rg_any x0) (by decide : Rg 0 0 (0 : Int32)) (by decide : Rg 2 2 (2 : Int32)) (hr7167.2.2 c7168) (by decide)
    have g7171 : Rg 1 1 r7167 := rg_ne_lo (k := 0) hr7167.1 (by decide) c7168 (by decide)
    refine lv_aload_n hx hb dX12_barriers_12 rfl (lv_at hl 0 rfl) ?_
    refine wk_qi (wM cI b L) v (As := []) (rest := []) ⟨hx, hb, hml, hown, hts⟩ (w_X12_lack l D cI cS _ b L v hL hV) hKK hP hD hS hA 0 (ci := 12) rfl rfl (cwV 0 hts gX12_barriers_X12_lack rfl rfl rfl (by decide +kernel) ⟨Nat.le_of_ble_eq_true rfl, Nat.le_of_ble_eq_true rfl⟩) rfl hl.1 rfl (Nat.le_of_ble_eq_true rfl) dX12_barriers_13 ⟨Nat.le_of_ble_eq_true rfl, Nat.le_of_ble_eq_true rfl⟩ (fun r7172 v H locs hr7172 hP hD hS => ?_)
    have hV := hr7172.1
    refine lv_istore_n (lv' := [(2, .int r7172), (0, .ref (b 0)), (1, .int x0)]) hx hb dX12_barriers_16 rfl hl (by decide) rfl (fun ls hl => ?_)
    refine lv_iconst (v := 0) hx hb dX12_barriers_17 (by decide) ?_
    refine lv_istore_n (lv' := [(3, .int 0), (2, .int r7172), (0, .ref (b 0)), (1, .int x0)]) hx hb dX12_barriers_18 rfl hl (by decide) rfl (fun ls hl => ?_)
    refine lv_iconst (v := (-1)) hx hb dX12_barriers_19 (by decide) ?_
    refine lv_istore (lv' := [(4, .int (-1)), (3, .int 0), (2, .int r7172), (0, .ref (b 0)), (1, .int x0)]) hx hb dX12_barriers_20 hl (by decide) rfl (fun ls hl => ?_)
    refine lv_aload_n hx hb dX12_barriers_22 rfl (lv_at hl 3 rfl) ?_
    refine wk_sv 0 (As := []) (rest := []) ⟨hx, hb, hml, hown, hts⟩ (w_X12_all l D cI cS b L v hL hV) hKK hP (ci := 12) rfl rfl (cwV 0 hts gX12_barriers_X12_all rfl rfl rfl (by decide +kernel) ⟨Nat.le_of_ble_eq_true rfl, Nat.le_of_ble_eq_true rfl⟩) rfl hl.1 rfl (Nat.le_of_ble_eq_true rfl) dX12_barriers_23 ⟨Nat.le_of_ble_eq_true rfl, Nat.le_of_ble_eq_true rfl⟩ (fun r7173 hr7173 => ?_)
    refine lv_istore (lv' := [(5, .int r7173), (4, .int (-1)), (3, .int 0), (2, .int r7172), (0, .ref (b 0)), (1, .int x0)]) hx hb dX12_barriers_26 hl (by decide) rfl (fun ls hl => ?_)
    refine lv_iconst (v := 0) hx hb dX12_barriers_28 (by decide) ?_
    refine lv_istore (lv' := [(6, .int 0), (5, .int r7173), (4, .int (-1)), (3, .int 0), (2, .int r7172), (0, .ref (b 0)), (1, .int x0)]) hx hb dX12_barriers_29 hl (by decide) rfl (fun ls hl => ?_)
    exact lp31 4097 r7172 (0 : Int32) (((-1) : Int32)) r7173 (0 : Int32) v _ _ ls g7170 (by decide : Rg (-1) 4095 ((-1) : Int32)) hr7173.1 (by decide : Rg 0 4096 (0 : Int32)) hV hP hD hS (lv_sub (l' := [(0, .ref (b 0)), (1, .int x0), (2, .int r7172), (3, .int 0), (4, .int (-1)), (5, .int r7173), (6, .int 0)]) hl [5, 6, 4, 3, 2, 1, 0] rfl) (me_i (by decide : Rg 0 4096 (0 : Int32)) (by decide))
  · have zt7174 : (x0.toInt < (0 : Int32).toInt ∨ (2 : Int32).toInt < x0.toInt) := hr7167.2.1 c7168
    have g7175 : Rg 0 0 r7167 := wk_eql hr7167.1 (by decide : Rg 0 0 (0 : Int32)) c7168 (by decide)
    refine lv_bipush (v := (-2)) hx hb dX12_barriers_9 (by decide) ?_
    subst hAe
    exact W.iret (v := (-2)) hx hb hr (fun t ht hW => ⟨⟨_, v, rfl, ⟨hV, (by decide : Rg (-2147483648) 2147483647 ((-2) : Int32)), trivial⟩, by rw [ht]; exact hP, hD⟩, hS.F ht⟩) hS.2.2 dX12_barriers_11
set_option maxRecDepth 20000 in
theorem ggX12_isCritical_X12_has : GoodIn wsX12_isCritical wsX12_has := goodIn_r _ [9] rfl (by decide +kernel)
set_option maxRecDepth 20000 in
theorem gX12_isCritical_X12_has : GoodIn wsX12_isCritical (va_wsS RX12 59 yX12_has wsX12_has) := goodIn_app (goodIn_of _ (by decide +kernel)) ggX12_isCritical_X12_has
theorem dX12_isCritical_10 : decode cX12_isCritical 10 = .ok (.iconst 1, 1) := by decide +kernel
theorem dX12_isCritical_11 : decode cX12_isCritical 11 = .ok (.goto 4, 3) := by decide +kernel
theorem dX12_isCritical_26 : decode cX12_isCritical 26 = .ok (.iload_n 2, 1) := by decide +kernel
theorem dX12_isCritical_27 : decode cX12_isCritical 27 = .ok (.ifCond .eq 38, 3) := by decide +kernel
theorem dX12_isCritical_30 : decode cX12_isCritical 30 = .ok (.iload_n 1, 1) := by decide +kernel
theorem dX12_isCritical_31 : decode cX12_isCritical 31 = .ok (.iload_n 3, 1) := by decide +kernel
theorem dX12_isCritical_32 : decode cX12_isCritical 32 = .ok (.invokestatic 59, 3) := by decide +kernel
theorem dX12_isCritical_35 : decode cX12_isCritical 35 = .ok (.ifCond .eq 26, 3) := by decide +kernel
theorem dX12_isCritical_38 : decode cX12_isCritical 38 = .ok (.iconst 2, 1) := by decide +kernel
theorem dX12_isCritical_39 : decode cX12_isCritical 39 = .ok (.aload_n 0, 1) := by decide +kernel
theorem dX12_isCritical_40 : decode cX12_isCritical 40 = .ok (.getfield 17, 3) := by decide +kernel
theorem dX12_isCritical_43 : decode cX12_isCritical 43 = .ok (.iload_n 1, 1) := by decide +kernel
theorem dX12_isCritical_44 : decode cX12_isCritical 44 = .ok (.iconst 1, 1) := by decide +kernel
theorem dX12_isCritical_45 : decode cX12_isCritical 45 = .ok (.iload_n 3, 1) := by decide +kernel
theorem dX12_isCritical_46 : decode cX12_isCritical 46 = .ok (.ishl, 1) := by decide +kernel
theorem dX12_isCritical_47 : decode cX12_isCritical 47 = .ok (.iconst (-1), 1) := by decide +kernel
theorem dX12_isCritical_48 : decode cX12_isCritical 48 = .ok (.ixor, 1) := by decide +kernel
theorem dX12_isCritical_49 : decode cX12_isCritical 49 = .ok (.iand, 1) := by decide +kernel
theorem dX12_isCritical_50 : decode cX12_isCritical 50 = .ok (.iaload, 1) := by decide +kernel
theorem dX12_isCritical_51 : decode cX12_isCritical 51 = .ok (.imul, 1) := by decide +kernel
theorem dX12_isCritical_52 : decode cX12_isCritical 52 = .ok (.iload_n 1, 1) := by decide +kernel
theorem dX12_isCritical_53 : decode cX12_isCritical 53 = .ok (.invokestatic 85, 3) := by decide +kernel
theorem dX12_isCritical_56 : decode cX12_isCritical 56 = .ok (.iconst 1, 1) := by decide +kernel
theorem dX12_isCritical_57 : decode cX12_isCritical 57 = .ok (.isub, 1) := by decide +kernel
theorem dX12_isCritical_58 : decode cX12_isCritical 58 = .ok (.if_icmp .ne 7, 3) := by decide +kernel
theorem dX12_isCritical_61 : decode cX12_isCritical 61 = .ok (.iconst 1, 1) := by decide +kernel
theorem dX12_isCritical_62 : decode cX12_isCritical 62 = .ok (.goto 4, 3) := by decide +kernel
theorem dX12_isCritical_65 : decode cX12_isCritical 65 = .ok (.iconst 0, 1) := by decide +kernel
theorem dX12_isCritical_66 : decode cX12_isCritical 66 = .ok (.istore_n 2, 1) := by decide +kernel
theorem dX12_isCritical_67 : decode cX12_isCritical 67 = .ok (.iinc 3 1, 3) := by decide +kernel
theorem dX12_isCritical_70 : decode cX12_isCritical 70 = .ok (.goto (-52), 3) := by decide +kernel
set_option maxHeartbeats 4000000 in
set_option maxRecDepth 100000 in
theorem w_X12_isCritical (l : Launch) (D : va_G) (cI cS : ClassId) (b : Nat → Nat) (L v : SU) (hL : TyL L) (hV : TyV v) (x0 : Int32) (px0 : Rg 0 4095 x0) : Met l yX12_isCritical wsX12_isCritical ({ frames := 1, cells := 0, slots := 0, locals := 40 }) (PS D cI cS (wM cI b L v) [.ref (b 0), .int x0]) (vp_Si (fun r => Rg 0 1 r ∧ True)) 0 0 (fun _ => False) := by
  refine Met.ofW (cc := cX12_isCritical) (maxL := 4) (ret := (some .boolean)) (by decide) rfl ?_
  intro p e s m args below meth c s₁ B hml hv
  obtain ⟨rfl, hP, hKK⟩ := hv
  have hx := B.exec
  have hb := B.bytes
  have hr := B.returns
  have hts := atoms_spec (ws := wsX12_isCritical) B.pre
  have hown : s.vm.findClass RX12 = some m.cls := findClass_of_methodNamed B.named
  have hlocks := B.notSynchronized
  have hK := hKK.1
  have hin12 : ∀ w ∈ wsX120, w ∈ wsX12_isCritical := by decide +kernel
  have hl := lv_entry ([.ref (b 0), .int x0]) (n := 4) (Nat.le_of_ble_eq_true rfl)
  rw [lg_entry_eq]
  generalize (lg_sl ([.ref (b 0), .int x0]) ++ List.replicate (4 - (lg_sl ([.ref (b 0), .int x0])).length) Slot.unset).toArray = ls at hl ⊢
  have hl : lv_has ls 4 [(0, .ref (b 0)), (1, .int x0)] := hl
  have lp18 : ∀ (n18 : Nat) (y18_l2 : Int32) (y18_l3 : Int32) (ls : Array Slot), Rg 0 4095 x0 → Rg 0 1 y18_l2 → Rg 0 12 y18_l3 → lv_has ls 4 [(0, .ref (b 0)), (1, .int x0), (2, .int y18_l2), (3, .int y18_l3)] → 12 - y18_l3.toInt < (n18 : Int) → W p l e (headSpec wsX12_isCritical ({ frames := 1, cells := 0, slots := 0, locals := 40 })).room s m ([.ref (b 0), .int x0]).toArray below meth c s.heap [] 0 0 (MQ below (vp_Si (fun r => Rg 0 1 r ∧ True)) ([.ref (b 0), .int x0]).toArray s 0 0 (fun _ => False)) (F0 m 18 ls []) := by
    intro n18
    induction n18 with
    | zero =>
      intro y18_l2 y18_l3 ls g18_l1 g18_l2 g18_l3 hl hm18
      exact absurd rfl (me_z g18_l3 hm18)
    | succ n18 ih18 =>
      intro y18_l2 y18_l3 ls g18_l1 g18_l2 g18_l3 hl hm18
      refine lv_iload_n hx hb dX12_isCritical_18 rfl (lv_at hl 3 rfl) ?_
      refine lv_aload_n hx hb dX12_isCritical_19 rfl (lv_at hl 0 rfl) ?_
      refine va_get (D := D) (ci := 12) (v := .int (L 0 0)) (C := RX12) (T := TX12) (N := 24) hx hb hts hin12 hown hK hP 0 rfl rfl 0 (by decide) (hts (.fieldLink RX12 63 "MissedPointsModel" "many" "I") (by decide +kernel)) (fun _ h9 => h9) rfl dX12_isCritical_20 ?_
      refine lv_icmp_ge (tgt := 73) hx hb dX12_isCritical_23 (by decide) (fun c7398 => ?_) (fun c7398 => ?_)
      · refine lv_iload_n hx hb dX12_isCritical_73 rfl (lv_at hl 2 rfl) ?_
        exact W.zret (v := y18_l2) hx hb hr (wk_nb g18_l2) (fun t ht hW => ⟨_, rfl, ⟨g18_l2, trivial⟩, ht⟩) (fun q hq => absurd hq List.not_mem_nil) dX12_isCritical_74
      · have g7399 : Rg 1 12 (L 0 0) := rg_ltr g18_l3 hL.1 (rg_nle c7398) (by decide)
        have g7400 : Rg 0 11 y18_l3 := rg_ltl g18_l3 hL.1 (rg_nle c7398) (by decide)
        refine lv_iload_n hx hb dX12_isCritical_26 rfl (lv_at hl 2 rfl) ?_
        refine lv_if_eq (tgt := 65) hx hb dX12_isCritical_27 (by decide) (fun c7401 => ?_) (fun c7401 => ?_)
        · have g7402 : Rg 0 0 y18_l2 := wk_eql g18_l2 (by decide : Rg 0 0 (0 : Int32)) c7401 (by decide)
          refine lv_iconst (v := 0) hx hb dX12_isCritical_65 (by decide) ?_
          refine lv_istore_n (lv' := [(2, .int 0), (0, .ref (b 0)), (1, .int x0), (3, .int y18_l3)]) hx hb dX12_isCritical_66 rfl hl (by decide) rfl (fun ls hl => ?_)
          refine wk_iinc (lv' := fun r => [(3, .int r), (2, .int 0), (0, .ref (b 0)), (1, .int x0)]) (e1 := 1) (f := 12) hx hb dX12_isCritical_67 hl (k := 3) rfl (by decide) g7400 (by decide) (fun _ => rfl) (fun r7403 ls hr7403 er7403 hl => ?_)
          refine lv_goto (tgt := 18) hx hb dX12_isCritical_70 (by decide) ?_
          exact ih18 (0 : Int32) r7403 ls g18_l1 (by decide : Rg 0 1 (0 : Int32)) (show Rg 0 12 r7403 from rg_w hr7403 (by decide) (by decide)) (lv_sub (l' := [(0, .ref (b 0)), (1, .int x0), (2, .int 0), (3, .int r7403)]) hl [2, 3, 1, 0] rfl) (me_up hm18 er7403 (by decide))
        · have g7404 : Rg 1 1 y18_l2 := rg_ne_lo (k := 0) g18_l2 (by decide) c7401 (by decide)
          refine lv_iload_n hx hb dX12_isCritical_30 rfl (lv_at hl 1 rfl) ?_
          refine lv_iload_n hx hb dX12_isCritical_31 rfl (lv_at hl 3 rfl) ?_
          refine lz_ss (As := [.int x0, .int y18_l3]) (rest := []) ⟨hx, hb, hml, hown, hts⟩ (w_X12_has l D cI cS x0 y18_l3) hKK (hP.sub (ws' := []) [] rfl) (va_cwS 2 hts gX12_isCritical_X12_has rfl rfl rfl (by decide +kernel) ⟨Nat.le_of_ble_eq_true rfl, Nat.le_of_ble_eq_true rfl⟩) rfl hl.1 rfl (Nat.le_of_ble_eq_true rfl) dX12_isCritical_32 ⟨Nat.le_of_ble_eq_true rfl, Nat.le_of_ble_eq_true rfl⟩ (fun r7405 hr7405 => ?_)
          refine lv_if_eq (tgt := 61) hx hb dX12_isCritical_35 (by decide) (fun c7406 => ?_) (fun c7406 => ?_)
          · have g7407 : Rg 0 0 r7405 := wk_eql hr7405.1 (by decide : Rg 0 0 (0 : Int32)) c7406 (by decide)
            refine lv_iconst (v := 1) hx hb dX12_isCritical_61 (by decide) ?_
            refine lv_goto (tgt := 66) hx hb dX12_isCritical_62 (by decide) ?_
            refine lv_istore_n (lv' := [(2, .int 1), (0, .ref (b 0)), (1, .int x0), (3, .int y18_l3)]) hx hb dX12_isCritical_66 rfl hl (by decide) rfl (fun ls hl => ?_)
            refine wk_iinc (lv' := fun r => [(3, .int r), (2, .int 1), (0, .ref (b 0)), (1, .int x0)]) (e1 := 1) (f := 12) hx hb dX12_isCritical_67 hl (k := 3) rfl (by decide) g7400 (by decide) (fun _ => rfl) (fun r7408 ls hr7408 er7408 hl => ?_)
            refine lv_goto (tgt := 18) hx hb dX12_isCritical_70 (by decide) ?_
            exact ih18 (1 : Int32) r7408 ls g18_l1 (by decide : Rg 0 1 (1 : Int32)) (show Rg 0 12 r7408 from rg_w hr7408 (by decide) (by decide)) (lv_sub (l' := [(0, .ref (b 0)), (1, .int x0), (2, .int 1), (3, .int r7408)]) hl [2, 3, 1, 0] rfl) (me_up hm18 er7408 (by decide))
          · have g7409 : Rg 1 1 r7405 := rg_ne_lo (k := 0) hr7405.1 (by decide) c7406 (by decide)
            refine lv_iconst (v := 2) hx hb dX12_isCritical_38 (by decide) ?_
            refine lv_aload_n hx hb dX12_isCritical_39 rfl (lv_at hl 0 rfl) ?_
            refine va_get (D := D) (ci := 12) (v := .ref (b 2)) (C := RX12) (T := TX12) (N := 24) hx hb hts hin12 hown hK hP 0 rfl rfl 3 (by decide) (hts (.fieldLink RX12 17 "MissedPointsModel" "pairs" "[I") (by decide +kernel)) (fun _ h9 => h9) rfl dX12_isCritical_40 ?_
            refine lv_iload_n hx hb dX12_isCritical_43 rfl (lv_at hl 1 rfl) ?_
            refine lv_iconst (v := 1) hx hb dX12_isCritical_44 (by decide) ?_
            refine lv_iload_n hx hb dX12_isCritical_45 rfl (lv_at hl 3 rfl) ?_
            refine wk_ishl1 (f := 2048) hx hb dX12_isCritical_46 g7400 (by decide) (fun r7410 hr7410 qr7410 => ?_)
            refine lv_iconst (v := (-1)) hx hb dX12_isCritical_47 (by decide) ?_
            refine lv_ixor hx hb dX12_isCritical_48 ?_
            refine wk_topP (P := fun r => r = r7410 ^^^ ((-1) : Int32)) rfl (fun r7411 qr7411 => ?_)
            refine wk_iandl hx hb dX12_isCritical_49 g18_l1 (by decide) (fun r7412 hr7412 qr7412 => ?_)
            refine wk_aldA hx hb hK hP 2 0 rfl rfl (rg_in hr7412 (by decide) (by decide)) dX12_isCritical_50 (fun r7413 => ?_)
            refine lv_imul hx hb dX12_isCritical_51 ?_
            refine wk_topP (P := fun r => r = (2 : Int32) * r7413) rfl (fun r7414 qr7414 => ?_)
            refine lv_iload_n hx hb dX12_isCritical_52 rfl (lv_at hl 1 rfl) ?_
            refine lz_ss (As := [.int x0]) (rest := [.int r7414]) ⟨hx, hb, hml, hown, hts⟩ (w_X12_bits l D cI cS x0) hKK (hP.sub (ws' := []) [] rfl) (va_cwS 1 hts gX12_isCritical_X12_bits rfl rfl rfl (by decide +kernel) ⟨Nat.le_of_ble_eq_true rfl, Nat.le_of_ble_eq_true rfl⟩) rfl hl.1 rfl (Nat.le_of_ble_eq_true rfl) dX12_isCritical_53 ⟨Nat.le_of_ble_eq_true rfl, Nat.le_of_ble_eq_true rfl⟩ (fun r7415 hr7415 => ?_)
            refine lv_iconst (v := 1) hx hb dX12_isCritical_56 (by decide) ?_
            refine lv_isub hx hb dX12_isCritical_57 ?_
            refine wk_topP (P := fun r => r = r7415 - (1 : Int32)) rfl (fun r7416 qr7416 => ?_)
            refine lv_icmp_ne (tgt := 65) hx hb dX12_isCritical_58 (by decide) (fun c7417 => ?_) (fun c7417 => ?_)
            · refine lv_iconst (v := 0) hx hb dX12_isCritical_65 (by decide) ?_
              refine lv_istore_n (lv' := [(2, .int 0), (0, .ref (b 0)), (1, .int x0), (3, .int y18_l3)]) hx hb dX12_isCritical_66 rfl hl (by decide) rfl (fun ls hl => ?_)
              refine wk_iinc (lv' := fun r => [(3, .int r), (2, .int 0), (0, .ref (b 0)), (1, .int x0)]) (e1 := 1) (f := 12) hx hb dX12_isCritical_67 hl (k := 3) rfl (by decide) g7400 (by decide) (fun _ => rfl) (fun r7418 ls hr7418 er7418 hl => ?_)
              refine lv_goto (tgt := 18) hx hb dX12_isCritical_70 (by decide) ?_
              exact ih18 (0 : Int32) r7418 ls g18_l1 (by decide : Rg 0 1 (0 : Int32)) (show Rg 0 12 r7418 from rg_w hr7418 (by decide) (by decide)) (lv_sub (l' := [(0, .ref (b 0)), (1, .int x0), (2, .int 0), (3, .int r7418)]) hl [2, 3, 1, 0] rfl) (me_up hm18 er7418 (by decide))
            · refine lv_iconst (v := 1) hx hb dX12_isCritical_61 (by decide) ?_
              refine lv_goto (tgt := 66) hx hb dX12_isCritical_62 (by decide) ?_
              refine lv_istore_n (lv' := [(2, .int 1), (0, .ref (b 0)), (1, .int x0), (3, .int y18_l3)]) hx hb dX12_isCritical_66 rfl hl (by decide) rfl (fun ls hl => ?_)
              refine wk_iinc (lv' := fun r => [(3, .int r), (2, .int 1), (0, .ref (b 0)), (1, .int x0)]) (e1 := 1) (f := 12) hx hb dX12_isCritical_67 hl (k := 3) rfl (by decide) g7400 (by decide) (fun _ => rfl) (fun r7419 ls hr7419 er7419 hl => ?_)
              refine lv_goto (tgt := 18) hx hb dX12_isCritical_70 (by decide) ?_
              exact ih18 (1 : Int32) r7419 ls g18_l1 (by decide : Rg 0 1 (1 : Int32)) (show Rg 0 12 r7419 from rg_w hr7419 (by decide) (by decide)) (lv_sub (l' := [(0, .ref (b 0)), (1, .int x0), (2, .int 1), (3, .int r7419)]) hl [2, 3, 1, 0] rfl) (me_up hm18 er7419 (by decide))
  refine lv_iload_n hx hb dX12_isCritical_0 rfl (lv_at hl 1 rfl) ?_
  refine lz_ss (As := [.int x0]) (rest := []) ⟨hx, hb, hml, hown, hts⟩ (w_X12_bits l D cI cS x0) hKK (hP.sub (ws' := []) [] rfl) (va_cwS 1 hts gX12_isCritical_X12_bits rfl rfl rfl (by decide +kernel) ⟨Nat.le_of_ble_eq_true rfl, Nat.le_of_ble_eq_true rfl⟩) rfl hl.1 rfl (Nat.le_of_ble_eq_true rfl) dX12_isCritical_1 ⟨Nat.le_of_ble_eq_true rfl, Nat.le_of_ble_eq_true rfl⟩ (fun r7420 hr7420 => ?_)
  refine lv_iconst (v := 2) hx hb dX12_isCritical_4 (by decide) ?_
  refine lv_irem hx hb dX12_isCritical_5 (by decide) ?_
  refine wk_any (fun r7421 => ?_)
  refine lv_iconst (v := 1) hx hb dX12_isCritical_6 (by decide) ?_
  refine lv_icmp_ne (tgt := 14) hx hb dX12_isCritical_7 (by decide) (fun c7422 => ?_) (fun c7422 => ?_)
  · refine lv_iconst (v := 0) hx hb dX12_isCritical_14 (by decide) ?_
    refine lv_istore_n (lv' := [(2, .int 0), (0, .ref (b 0)), (1, .int x0)]) hx hb dX12_isCritical_15 rfl hl (by decide) rfl (fun ls hl => ?_)
    refine lv_iconst (v := 0) hx hb dX12_isCritical_16 (by decide) ?_
    refine lv_istore_n (lv' := [(3, .int 0), (2, .int 0), (0, .ref (b 0)), (1, .int x0)]) hx hb dX12_isCritical_17 rfl hl (by decide) rfl (fun ls hl => ?_)
    exact lp18 13 (0 : Int32) (0 : Int32) ls px0 (by decide : Rg 0 1 (0 : Int32)) (by decide : Rg 0 12 (0 : Int32)) (lv_sub (l' := [(0, .ref (b 0)), (1, .int x0), (2, .int 0), (3, .int 0)]) hl [2, 3, 1, 0] rfl) (me_i (by decide : Rg 0 12 (0 : Int32)) (by decide))
  · have g7423 : Rg 1 1 r7421 := wk_eql (rg_any r7421) (by decide : Rg 1 1 (1 : Int32)) c7422 (by decide)
    refine lv_iconst (v := 1) hx hb dX12_isCritical_10 (by decide) ?_
    refine lv_goto (tgt := 15) hx hb dX12_isCritical_11 (by decide) ?_
    refine lv_istore_n (lv' := [(2, .int 1), (0, .ref (b 0)), (1, .int x0)]) hx hb dX12_isCritical_15 rfl hl (by decide) rfl (fun ls hl => ?_)
    refine lv_iconst (v := 0) hx hb dX12_isCritical_16 (by decide) ?_
    refine lv_istore_n (lv' := [(3, .int 0), (2, .int 1), (0, .ref (b 0)), (1, .int x0)]) hx hb dX12_isCritical_17 rfl hl (by decide) rfl (fun ls hl => ?_)
    exact lp18 13 (1 : Int32) (0 : Int32) ls px0 (by decide : Rg 0 1 (1 : Int32)) (by decide : Rg 0 12 (0 : Int32)) (lv_sub (l' := [(0, .ref (b 0)), (1, .int x0), (2, .int 1), (3, .int 0)]) hl [2, 3, 1, 0] rfl) (me_i (by decide : Rg 0 12 (0 : Int32)) (by decide))
theorem dX12_critical_23 : decode cX12_critical 23 = .ok (.iconst 1, 1) := by decide +kernel
theorem dX12_critical_24 : decode cX12_critical 24 = .ok (.goto 4, 3) := by decide +kernel
set_option maxHeartbeats 4000000 in
set_option maxRecDepth 100000 in
theorem w_X12_critical (l : Launch) (D : va_G) (cI cS : ClassId) (sz : Nat) (b : Nat → Nat) (L v0 : SU) (hL : TyL L) (hV : TyV v0) (x0 : Int32) : Met l yX12_critical wsX12_critical ({ frames := 3, cells := 0, slots := 0, locals := 120 }) (PQ D cI cS (wM cI b L v0) sz [.ref (b 0), .int x0]) (QF (S := SU) D (wM cI b L v0) (wM cI b L) sz (fun r u => TyV u ∧ Rg (-2) 1 r ∧ (r = 0 → Rg 0 4095 x0))) 0 0 (va_A (wM cI b L v0) sz) := by
  refine Met.ofW (cc := cX12_critical) (maxL := 2) (ret := (some .int)) (by decide) rfl ?_
  intro p e s m args below meth c s₁ B hml hv
  obtain ⟨rfl, hsz, hP, hKK, hD0⟩ := hv
  have hx := B.exec
  have hb := B.bytes
  have hr := B.returns
  have hts := atoms_spec (ws := wsX12_critical) B.pre
  have hown : s.vm.findClass RX12 = some m.cls := findClass_of_methodNamed B.named
  have hlocks := B.notSynchronized
  have hK := hKK.1
  subst hsz
  have hD := hD0.self (sz := s.heap.size)
  obtain ⟨A, hAe⟩ : ∃ A, A = va_A (wM cI b L v0) s.heap.size := ⟨_, rfl⟩
  rw [← hAe] at hD
  have hA : ∀ q : Nat, s.heap.size ≤ q → A q := fun q h => by rw [hAe]; exact Or.inr h
  have hS : va_S A s.heap s.heap [] := va_S.rf
  have hl := lv_entry ([.ref (b 0), .int x0]) (n := 2) (Nat.le_of_ble_eq_true rfl)
  rw [lg_entry_eq]
  generalize (lg_sl ([.ref (b 0), .int x0]) ++ List.replicate (2 - (lg_sl ([.ref (b 0), .int x0])).length) Slot.unset).toArray = ls at hl ⊢
  have hl : lv_has ls 2 [(0, .ref (b 0)), (1, .int x0)] := hl
  obtain ⟨v, hv9⟩ : ∃ v : SU, v = v0 := ⟨_, rfl⟩
  rw [← hv9] at hP hD hV
  refine lv_aload_n hx hb dX12_critical_0 rfl (lv_at hl 0 rfl) ?_
  refine lv_iload_n hx hb dX12_critical_1 rfl (lv_at hl 1 rfl) ?_
  refine wk_sv 0 (As := [.int x0]) (rest := []) ⟨hx, hb, hml, hown, hts⟩ (w_X12_isSet l D cI cS b L v hL hV x0) hKK hP (ci := 12) rfl rfl (cwV 1 hts gX12_critical_X12_isSet rfl rfl rfl (by decide +kernel) ⟨Nat.le_of_ble_eq_true rfl, Nat.le_of_ble_eq_true rfl⟩) rfl hl.1 rfl (Nat.le_of_ble_eq_true rfl) dX12_critical_2 ⟨Nat.le_of_ble_eq_true rfl, Nat.le_of_ble_eq_true rfl⟩ (fun r7434 hr7434 => ?_)
  refine lv_if_ne (tgt := 11) hx hb dX12_critical_5 (by decide) (fun c7435 => ?_) (fun c7435 => ?_)
  · have g7436 : Rg 0 4095 x0 := (hr7434.2.1 c7435)
    have g7437 : Rg 1 1 r7434 := rg_ne_lo (k := 0) hr7434.1 (by decide) c7435 (by decide)
    refine lv_aload_n hx hb dX12_critical_11 rfl (lv_at hl 0 rfl) ?_
    refine wk_qv (wM cI b L) v (As := []) (rest := []) ⟨hx, hb, hml, hown, hts⟩ (w_X12_reckons l D cI cS _ b L v hL hV) hKK hP hD hS hA 0 (ci := 12) rfl rfl (cwV 0 hts gX12_critical_X12_reckons rfl rfl rfl (by decide +kernel) ⟨Nat.le_of_ble_eq_true rfl, Nat.le_of_ble_eq_true rfl⟩) rfl hl.1 rfl (Nat.le_of_ble_eq_true rfl) dX12_critical_12 ⟨Nat.le_of_ble_eq_true rfl, Nat.le_of_ble_eq_true rfl⟩ (fun v H locs hr7438 hP hD hS => ?_)
    have hV := hr7438.1
    refine lv_aload_n hx hb dX12_critical_15 rfl (lv_at hl 0 rfl) ?_
    refine lv_iload_n hx hb dX12_critical_16 rfl (lv_at hl 1 rfl) ?_
    refine wk_sv 0 (As := [.int x0]) (rest := []) ⟨hx, hb, hml, hown, hts⟩ (w_X12_isCritical l D cI cS b L v hL hV x0 g7436) hKK hP (ci := 12) rfl rfl (cwV 1 hts gX12_critical_X12_isCritical rfl rfl rfl (by decide +kernel) ⟨Nat.le_of_ble_eq_true rfl, Nat.le_of_ble_eq_true rfl⟩) rfl hl.1 rfl (Nat.le_of_ble_eq_true rfl) dX12_critical_17 ⟨Nat.le_of_ble_eq_true rfl, Nat.le_of_ble_eq_true rfl⟩ (fun r7439 hr7439 => ?_)
    refine lv_if_eq (tgt := 27) hx hb dX12_critical_20 (by decide) (fun c7440 => ?_) (fun c7440 => ?_)
    · have g7441 : Rg 0 0 r7439 := wk_eql hr7439.1 (by decide : Rg 0 0 (0 : Int32)) c7440 (by decide)
      refine lv_iconst (v := 0) hx hb dX12_critical_27 (by decide) ?_
      subst hAe
      exact W.iret (v := 0) hx hb hr (fun t ht hW => ⟨⟨_, v, rfl, ⟨hV, (by decide : Rg (-2) 1 (0 : Int32)), fun _ => g7436⟩, by rw [ht]; exact hP, hD⟩, hS.F ht⟩) hS.2.2 dX12_critical_28
    · have g7442 : Rg 1 1 r7439 := rg_ne_lo (k := 0) hr7439.1 (by decide) c7440 (by decide)
      refine lv_iconst (v := 1) hx hb dX12_critical_23 (by decide) ?_
      refine lv_goto (tgt := 28) hx hb dX12_critical_24 (by decide) ?_
      subst hAe
      exact W.iret (v := 1) hx hb hr (fun t ht hW => ⟨⟨_, v, rfl, ⟨hV, (by decide : Rg (-2) 1 (1 : Int32)), fun h9 => absurd h9 (by decide)⟩, by rw [ht]; exact hP, hD⟩, hS.F ht⟩) hS.2.2 dX12_critical_28
  · have g7443 : Rg 0 0 r7434 := wk_eql hr7434.1 (by decide : Rg 0 0 (0 : Int32)) c7435 (by decide)
    refine lv_bipush (v := (-2)) hx hb dX12_critical_8 (by decide) ?_
    subst hAe
    exact W.iret (v := (-2)) hx hb hr (fun t ht hW => ⟨⟨_, v, rfl, ⟨hV, (by decide : Rg (-2) 1 ((-2) : Int32)), fun h9 => absurd h9 (by decide)⟩, by rw [ht]; exact hP, hD⟩, hS.F ht⟩) hS.2.2 dX12_critical_10
set_option maxRecDepth 20000 in
theorem ggX12_verdictOf_X12_all : GoodIn wsX12_verdictOf wsX12_all := goodIn_r _ [7, 8, 9, 10, 11, 12, 13, 14, 15, 16, 17, 18, 19, 20, 21, 22, 23, 24, 25, 26, 27, 28, 29, 30, 31, 32] rfl (by decide +kernel)
set_option maxRecDepth 20000 in
theorem gX12_verdictOf_X12_all : GoodIn wsX12_verdictOf (wsV RX12 70 RX12 yX12_all wsX12_all) := goodIn_app (goodIn_of _ (by decide +kernel)) ggX12_verdictOf_X12_all
theorem dX12_verdictOf_0 : decode cX12_verdictOf 0 = .ok (.aload_n 0, 1) := by decide +kernel
theorem dX12_verdictOf_1 : decode cX12_verdictOf 1 = .ok (.invokevirtual 70, 3) := by decide +kernel
theorem dX12_verdictOf_10 : decode cX12_verdictOf 10 = .ok (.ior, 1) := by decide +kernel
theorem dX12_verdictOf_11 : decode cX12_verdictOf 11 = .ok (.iconst (-1), 1) := by decide +kernel
theorem dX12_verdictOf_12 : decode cX12_verdictOf 12 = .ok (.ixor, 1) := by decide +kernel
theorem dX12_verdictOf_13 : decode cX12_verdictOf 13 = .ok (.iand, 1) := by decide +kernel
theorem dX12_verdictOf_14 : decode cX12_verdictOf 14 = .ok (.istore_n 3, 1) := by decide +kernel
theorem dX12_verdictOf_15 : decode cX12_verdictOf 15 = .ok (.aload_n 0, 1) := by decide +kernel
theorem dX12_verdictOf_16 : decode cX12_verdictOf 16 = .ok (.getfield 17, 3) := by decide +kernel
theorem dX12_verdictOf_19 : decode cX12_verdictOf 19 = .ok (.iload_n 3, 1) := by decide +kernel
theorem dX12_verdictOf_20 : decode cX12_verdictOf 20 = .ok (.iaload, 1) := by decide +kernel
theorem dX12_verdictOf_21 : decode cX12_verdictOf 21 = .ok (.iconst 1, 1) := by decide +kernel
theorem dX12_verdictOf_22 : decode cX12_verdictOf 22 = .ok (.iadd, 1) := by decide +kernel
theorem dX12_verdictOf_23 : decode cX12_verdictOf 23 = .ok (.aload_n 0, 1) := by decide +kernel
theorem dX12_verdictOf_24 : decode cX12_verdictOf 24 = .ok (.getfield 17, 3) := by decide +kernel
theorem dX12_verdictOf_27 : decode cX12_verdictOf 27 = .ok (.aload_n 0, 1) := by decide +kernel
theorem dX12_verdictOf_28 : decode cX12_verdictOf 28 = .ok (.invokevirtual 70, 3) := by decide +kernel
theorem dX12_verdictOf_31 : decode cX12_verdictOf 31 = .ok (.iaload, 1) := by decide +kernel
theorem dX12_verdictOf_32 : decode cX12_verdictOf 32 = .ok (.if_icmp .ge 7, 3) := by decide +kernel
theorem dX12_verdictOf_35 : decode cX12_verdictOf 35 = .ok (.iconst 0, 1) := by decide +kernel
theorem dX12_verdictOf_36 : decode cX12_verdictOf 36 = .ok (.goto 26, 3) := by decide +kernel
theorem dX12_verdictOf_39 : decode cX12_verdictOf 39 = .ok (.aload_n 0, 1) := by decide +kernel
theorem dX12_verdictOf_4 : decode cX12_verdictOf 4 = .ok (.iconst 1, 1) := by decide +kernel
theorem dX12_verdictOf_40 : decode cX12_verdictOf 40 = .ok (.getfield 20, 3) := by decide +kernel
theorem dX12_verdictOf_43 : decode cX12_verdictOf 43 = .ok (.iload_n 3, 1) := by decide +kernel
theorem dX12_verdictOf_44 : decode cX12_verdictOf 44 = .ok (.iaload, 1) := by decide +kernel
theorem dX12_verdictOf_45 : decode cX12_verdictOf 45 = .ok (.aload_n 0, 1) := by decide +kernel
theorem dX12_verdictOf_46 : decode cX12_verdictOf 46 = .ok (.getfield 20, 3) := by decide +kernel
theorem dX12_verdictOf_49 : decode cX12_verdictOf 49 = .ok (.aload_n 0, 1) := by decide +kernel
theorem dX12_verdictOf_5 : decode cX12_verdictOf 5 = .ok (.iload_n 1, 1) := by decide +kernel
theorem dX12_verdictOf_50 : decode cX12_verdictOf 50 = .ok (.invokevirtual 70, 3) := by decide +kernel
theorem dX12_verdictOf_53 : decode cX12_verdictOf 53 = .ok (.iaload, 1) := by decide +kernel
theorem dX12_verdictOf_54 : decode cX12_verdictOf 54 = .ok (.if_icmp .ne 7, 3) := by decide +kernel
theorem dX12_verdictOf_57 : decode cX12_verdictOf 57 = .ok (.iconst 2, 1) := by decide +kernel
theorem dX12_verdictOf_58 : decode cX12_verdictOf 58 = .ok (.goto 4, 3) := by decide +kernel
theorem dX12_verdictOf_6 : decode cX12_verdictOf 6 = .ok (.ishl, 1) := by decide +kernel
theorem dX12_verdictOf_61 : decode cX12_verdictOf 61 = .ok (.iconst 1, 1) := by decide +kernel
theorem dX12_verdictOf_62 : decode cX12_verdictOf 62 = .ok (.ireturn, 1) := by decide +kernel
theorem dX12_verdictOf_7 : decode cX12_verdictOf 7 = .ok (.iconst 1, 1) := by decide +kernel
theorem dX12_verdictOf_8 : decode cX12_verdictOf 8 = .ok (.iload_n 2, 1) := by decide +kernel
theorem dX12_verdictOf_9 : decode cX12_verdictOf 9 = .ok (.ishl, 1) := by decide +kernel
set_option maxHeartbeats 4000000 in
set_option maxRecDepth 100000 in
theorem w_X12_verdictOf (l : Launch) (D : va_G) (cI cS : ClassId) (b : Nat → Nat) (L v : SU) (hL : TyL L) (hV : TyV v) (x0 x1 : Int32) (px0 : Rg 0 11 x0) (px1 : Rg 0 11 x1) : Met l yX12_verdictOf wsX12_verdictOf ({ frames := 1, cells := 0, slots := 0, locals := 40 }) (PS D cI cS (wM cI b L v) [.ref (b 0), .int x0, .int x1]) (vp_Si (fun r => Rg 0 2 r ∧ True)) 0 0 (fun _ => False) := by
  refine Met.ofW (cc := cX12_verdictOf) (maxL := 4) (ret := (some .int)) (by decide) rfl ?_
  intro p e s m args below meth c s₁ B hml hv
  obtain ⟨rfl, hP, hKK⟩ := hv
  have hx := B.exec
  have hb := B.bytes
  have hr := B.returns
  have hts := atoms_spec (ws := wsX12_verdictOf) B.pre
  have hown : s.vm.findClass RX12 = some m.cls := findClass_of_methodNamed B.named
  have hlocks := B.notSynchronized
  have hK := hKK.1
  have hin12 : ∀ w ∈ wsX120, w ∈ wsX12_verdictOf := by decide +kernel
  have hl := lv_entry ([.ref (b 0), .int x0, .int x1]) (n := 4) (Nat.le_of_ble_eq_true rfl)
  rw [lg_entry_eq]
  generalize (lg_sl ([.ref (b 0), .int x0, .int x1]) ++ List.replicate (4 - (lg_sl ([.ref (b 0), .int x0, .int x1])).length) Slot.unset).toArray = ls at hl ⊢
  have hl : lv_has ls 4 [(0, .ref (b 0)), (1, .int x0), (2, .int x1)] := hl
  refine lv_aload_n hx hb dX12_verdictOf_0 rfl (lv_at hl 0 rfl) ?_
  refine wk_sv 0 (As := []) (rest := []) ⟨hx, hb, hml, hown, hts⟩ (w_X12_all l D cI cS b L v hL hV) hKK hP (ci := 12) rfl rfl (cwV 0 hts gX12_verdictOf_X12_all rfl rfl rfl (by decide +kernel) ⟨Nat.le_of_ble_eq_true rfl, Nat.le_of_ble_eq_true rfl⟩) rfl hl.1 rfl (Nat.le_of_ble_eq_true rfl) dX12_verdictOf_1 ⟨Nat.le_of_ble_eq_true rfl, Nat.le_of_ble_eq_true rfl⟩ (fun r7459 hr7459 => ?_)
  refine lv_iconst (v := 1) hx hb dX12_verdictOf_4 (by decide) ?_
  refine lv_iload_n hx hb dX12_verdictOf_5 rfl (lv_at hl 1 rfl) ?_
  refine wk_ishl1 (f := 2048) hx hb dX12_verdictOf_6 px0 (by decide) (fun r7460 hr7460 qr7460 => ?_)
  refine lv_iconst (v := 1) hx hb dX12_verdictOf_7 (by decide) ?_
  refine lv_iload_n hx hb dX12_verdictOf_8 rfl (lv_at hl 2 rfl) ?_
  refine wk_ishl1 (f := 2048) hx hb dX12_verdictOf_9 px1 (by decide) (fun r7461 hr7461 qr7461 => ?_)
  refine wk_ior 12 (e1 := 1) (f := 4095) hx hb dX12_verdictOf_10 hr7460 hr7461 (by decide) (fun r7462 hr7462 qr7462 => ?_)
  refine lv_iconst (v := (-1)) hx hb dX12_verdictOf_11 (by decide) ?_
  refine lv_ixor hx hb dX12_verdictOf_12 ?_
  refine wk_topP (P := fun r => r = r7462 ^^^ ((-1) : Int32)) rfl (fun r7463 qr7463 => ?_)
  refine wk_iandl hx hb dX12_verdictOf_13 hr7459.1 (by decide) (fun r7464 hr7464 qr7464 => ?_)
  refine lv_istore_n (lv' := [(3, .int r7464), (0, .ref (b 0)), (1, .int x0), (2, .int x1)]) hx hb dX12_verdictOf_14 rfl hl (by decide) rfl (fun ls hl => ?_)
  refine lv_aload_n hx hb dX12_verdictOf_15 rfl (lv_at hl 1 rfl) ?_
  refine va_get (D := D) (ci := 12) (v := .ref (b 2)) (C := RX12) (T := TX12) (N := 24) hx hb hts hin12 hown hK hP 0 rfl rfl 3 (by decide) (hts (.fieldLink RX12 17 "MissedPointsModel" "pairs" "[I") (by decide +kernel)) (fun _ h9 => h9) rfl dX12_verdictOf_16 ?_
  refine lv_iload_n hx hb dX12_verdictOf_19 rfl (lv_at hl 0 rfl) ?_
  refine wk_aldA hx hb hK hP 2 0 rfl rfl (rg_in hr7464 (by decide) (by decide)) dX12_verdictOf_20 (fun r7465 => ?_)
  refine lv_iconst (v := 1) hx hb dX12_verdictOf_21 (by decide) ?_
  refine lv_iadd hx hb dX12_verdictOf_22 ?_
  refine wk_topP (P := fun r => r = r7465 + (1 : Int32)) rfl (fun r7466 qr7466 => ?_)
  refine lv_aload_n hx hb dX12_verdictOf_23 rfl (lv_at hl 1 rfl) ?_
  refine va_get (D := D) (ci := 12) (v := .ref (b 2)) (C := RX12) (T := TX12) (N := 24) hx hb hts hin12 hown hK hP 0 rfl rfl 3 (by decide) (hts (.fieldLink RX12 17 "MissedPointsModel" "pairs" "[I") (by decide +kernel)) (fun _ h9 => h9) rfl dX12_verdictOf_24 ?_
  refine lv_aload_n hx hb dX12_verdictOf_27 rfl (lv_at hl 1 rfl) ?_
  refine wk_sv 0 (As := []) (rest := [.ref (b 2), .int r7466]) ⟨hx, hb, hml, hown, hts⟩ (w_X12_all l D cI cS b L v hL hV) hKK hP (ci := 12) rfl rfl (cwV 0 hts gX12_verdictOf_X12_all rfl rfl rfl (by decide +kernel) ⟨Nat.le_of_ble_eq_true rfl, Nat.le_of_ble_eq_true rfl⟩) rfl hl.1 rfl (Nat.le_of_ble_eq_true rfl) dX12_verdictOf_28 ⟨Nat.le_of_ble_eq_true rfl, Nat.le_of_ble_eq_true rfl⟩ (fun r7467 hr7467 => ?_)
  refine wk_aldA hx hb hK hP 2 0 rfl rfl (rg_in hr7467.1 (by decide) (by decide)) dX12_verdictOf_31 (fun r7468 => ?_)
  refine lv_icmp_ge (tgt := 39) hx hb dX12_verdictOf_32 (by decide) (fun c7469 => ?_) (fun c7469 => ?_)
  · refine lv_aload_n hx hb dX12_verdictOf_39 rfl (lv_at hl 1 rfl) ?_
    refine va_get (D := D) (ci := 12) (v := .ref (b 3)) (C := RX12) (T := TX12) (N := 24) hx hb hts hin12 hown hK hP 0 rfl rfl 4 (by decide) (hts (.fieldLink RX12 20 "MissedPointsModel" "greatestWays" "[I") (by decide +kernel)) (fun _ h9 => h9) rfl dX12_verdictOf_40 ?_
    refine lv_iload_n hx hb dX12_verdictOf_43 rfl (lv_at hl 0 rfl) ?_
    refine wk_aldA hx hb hK hP 3 0 rfl rfl (rg_in hr7464 (by decide) (by decide)) dX12_verdictOf_44 (fun r7470 => ?_)
    refine lv_aload_n hx hb dX12_verdictOf_45 rfl (lv_at hl 1 rfl) ?_
    refine va_get (D := D) (ci := 12) (v := .ref (b 3)) (C := RX12) (T := TX12) (N := 24) hx hb hts hin12 hown hK hP 0 rfl rfl 4 (by decide) (hts (.fieldLink RX12 20 "MissedPointsModel" "greatestWays" "[I") (by decide +kernel)) (fun _ h9 => h9) rfl dX12_verdictOf_46 ?_
    refine lv_aload_n hx hb dX12_verdictOf_49 rfl (lv_at hl 1 rfl) ?_
    refine wk_sv 0 (As := []) (rest := [.ref (b 3), .int r7470]) ⟨hx, hb, hml, hown, hts⟩ (w_X12_all l D cI cS b L v hL hV) hKK hP (ci := 12) rfl rfl (cwV 0 hts gX12_verdictOf_X12_all rfl rfl rfl (by decide +kernel) ⟨Nat.le_of_ble_eq_true rfl, Nat.le_of_ble_eq_true rfl⟩) rfl hl.1 rfl (Nat.le_of_ble_eq_true rfl) dX12_verdictOf_50 ⟨Nat.le_of_ble_eq_true rfl, Nat.le_of_ble_eq_true rfl⟩ (fun r7471 hr7471 => ?_)
    refine wk_aldA hx hb hK hP 3 0 rfl rfl (rg_in hr7471.1 (by decide) (by decide)) dX12_verdictOf_53 (fun r7472 => ?_)
    refine lv_icmp_ne (tgt := 61) hx hb dX12_verdictOf_54 (by decide) (fun c7473 => ?_) (fun c7473 => ?_)
    · refine lv_iconst (v := 1) hx hb dX12_verdictOf_61 (by decide) ?_
      exact W.iret (v := 1) hx hb hr (fun t ht hW => ⟨_, rfl, ⟨(by decide : Rg 0 2 (1 : Int32)), trivial⟩, ht⟩) (fun q hq => absurd hq List.not_mem_nil) dX12_verdictOf_62
    · refine lv_iconst (v := 2) hx hb dX12_verdictOf_57 (by decide) ?_
      refine lv_goto (tgt := 62) hx hb dX12_verdictOf_58 (by decide) ?_
      exact W.iret (v := 2) hx hb hr (fun t ht hW => ⟨_, rfl, ⟨(by decide : Rg 0 2 (2 : Int32)), trivial⟩, ht⟩) (fun q hq => absurd hq List.not_mem_nil) dX12_verdictOf_62
  · refine lv_iconst (v := 0) hx hb dX12_verdictOf_35 (by decide) ?_
    refine lv_goto (tgt := 62) hx hb dX12_verdictOf_36 (by decide) ?_
    exact W.iret (v := 0) hx hb hr (fun t ht hW => ⟨_, rfl, ⟨(by decide : Rg 0 2 (0 : Int32)), trivial⟩, ht⟩) (fun q hq => absurd hq List.not_mem_nil) dX12_verdictOf_62
set_option maxRecDepth 20000 in
theorem ggX12_verdict_X12_has : GoodIn wsX12_verdict wsX12_has := goodIn_r _ [30] rfl (by decide +kernel)
set_option maxRecDepth 20000 in
theorem gX12_verdict_X12_has : GoodIn wsX12_verdict (va_wsS RX12 59 yX12_has wsX12_has) := goodIn_app (goodIn_of _ (by decide +kernel)) ggX12_verdict_X12_has
set_option maxRecDepth 20000 in
theorem ggX12_verdict_X12_reckons : GoodIn wsX12_verdict wsX12_reckons := goodIn_r _ [18, 19, 20, 11, 1, 21, 22, 23, 5, 24, 25, 26, 27, 28, 29, 30, 35, 36, 37, 38, 39, 40, 41, 42, 43, 44, 45, 46, 47, 48, 49, 50, 51, 52, 53, 54, 55, 56, 57, 58] rfl (by decide +kernel)
set_option maxRecDepth 20000 in
theorem gX12_verdict_X12_reckons : GoodIn wsX12_verdict (wsV RX12 107 RX12 yX12_reckons wsX12_reckons) := goodIn_app (goodIn_of _ (by decide +kernel)) ggX12_verdict_X12_reckons
set_option maxRecDepth 20000 in
theorem ggX12_verdict_X12_verdictOf : GoodIn wsX12_verdict wsX12_verdictOf := goodIn_r _ [34, 20, 19, 21, 22, 23, 5, 24, 11, 35, 36, 37, 38, 39, 40, 41, 42, 43, 44, 45, 46, 47, 48, 49, 50, 51, 52, 53, 54, 55, 56, 57, 58] rfl (by decide +kernel)
set_option maxRecDepth 20000 in
theorem gX12_verdict_X12_verdictOf : GoodIn wsX12_verdict (wsV RX12 150 RX12 yX12_verdictOf wsX12_verdictOf) := goodIn_app (goodIn_of _ (by decide +kernel)) ggX12_verdict_X12_verdictOf
theorem dX12_verdict_12 : decode cX12_verdict 12 = .ok (.aload_n 0, 1) := by decide +kernel
theorem dX12_verdict_13 : decode cX12_verdict 13 = .ok (.invokevirtual 107, 3) := by decide +kernel
theorem dX12_verdict_16 : decode cX12_verdict 16 = .ok (.aload_n 0, 1) := by decide +kernel
theorem dX12_verdict_17 : decode cX12_verdict 17 = .ok (.getfield 13, 3) := by decide +kernel
theorem dX12_verdict_20 : decode cX12_verdict 20 = .ok (.iload_n 1, 1) := by decide +kernel
theorem dX12_verdict_21 : decode cX12_verdict 21 = .ok (.iaload, 1) := by decide +kernel
theorem dX12_verdict_22 : decode cX12_verdict 22 = .ok (.iload_n 2, 1) := by decide +kernel
theorem dX12_verdict_23 : decode cX12_verdict 23 = .ok (.invokestatic 59, 3) := by decide +kernel
theorem dX12_verdict_26 : decode cX12_verdict 26 = .ok (.ifCond .eq 12, 3) := by decide +kernel
theorem dX12_verdict_29 : decode cX12_verdict 29 = .ok (.aload_n 0, 1) := by decide +kernel
theorem dX12_verdict_30 : decode cX12_verdict 30 = .ok (.iload_n 1, 1) := by decide +kernel
theorem dX12_verdict_31 : decode cX12_verdict 31 = .ok (.iload_n 2, 1) := by decide +kernel
theorem dX12_verdict_32 : decode cX12_verdict 32 = .ok (.invokevirtual 150, 3) := by decide +kernel
theorem dX12_verdict_35 : decode cX12_verdict 35 = .ok (.goto 4, 3) := by decide +kernel
theorem dX12_verdict_38 : decode cX12_verdict 38 = .ok (.iconst (-1), 1) := by decide +kernel
theorem dX12_verdict_39 : decode cX12_verdict 39 = .ok (.ireturn, 1) := by decide +kernel
set_option maxHeartbeats 4000000 in
set_option maxRecDepth 100000 in
theorem w_X12_verdict (l : Launch) (D : va_G) (cI cS : ClassId) (sz : Nat) (b : Nat → Nat) (L v0 : SU) (hL : TyL L) (hV : TyV v0) (x0 x1 : Int32) : Met l yX12_verdict wsX12_verdict ({ frames := 3, cells := 0, slots := 0, locals := 120 }) (PQ D cI cS (wM cI b L v0) sz [.ref (b 0), .int x0, .int x1]) (QF (S := SU) D (wM cI b L v0) (wM cI b L) sz (fun r u => TyV u ∧ Rg (-2) 2 r ∧ True)) 0 0 (va_A (wM cI b L v0) sz) := by
  refine Met.ofW (cc := cX12_verdict) (maxL := 3) (ret := (some .int)) (by decide) rfl ?_
  intro p e s m args below meth c s₁ B hml hv
  obtain ⟨rfl, hsz, hP, hKK, hD0⟩ := hv
  have hx := B.exec
  have hb := B.bytes
  have hr := B.returns
  have hts := atoms_spec (ws := wsX12_verdict) B.pre
  have hown : s.vm.findClass RX12 = some m.cls := findClass_of_methodNamed B.named
  have hlocks := B.notSynchronized
  have hK := hKK.1
  have hin12 : ∀ w ∈ wsX120, w ∈ wsX12_verdict := by decide +kernel
  subst hsz
  have hD := hD0.self (sz := s.heap.size)
  obtain ⟨A, hAe⟩ : ∃ A, A = va_A (wM cI b L v0) s.heap.size := ⟨_, rfl⟩
  rw [← hAe] at hD
  have hA : ∀ q : Nat, s.heap.size ≤ q → A q := fun q h => by rw [hAe]; exact Or.inr h
  have hS : va_S A s.heap s.heap [] := va_S.rf
  have hl := lv_entry ([.ref (b 0), .int x0, .int x1]) (n := 3) (Nat.le_of_ble_eq_true rfl)
  rw [lg_entry_eq]
  generalize (lg_sl ([.ref (b 0), .int x0, .int x1]) ++ List.replicate (3 - (lg_sl ([.ref (b 0), .int x0, .int x1])).length) Slot.unset).toArray = ls at hl ⊢
  have hl : lv_has ls 3 [(0, .ref (b 0)), (1, .int x0), (2, .int x1)] := hl
  obtain ⟨v, hv9⟩ : ∃ v : SU, v = v0 := ⟨_, rfl⟩
  rw [← hv9] at hP hD hV
  refine lv_aload_n hx hb dX12_verdict_0 rfl (lv_at hl 0 rfl) ?_
  refine lv_iload_n hx hb dX12_verdict_1 rfl (lv_at hl 1 rfl) ?_
  refine lv_iload_n hx hb dX12_verdict_2 rfl (lv_at hl 2 rfl) ?_
  refine wk_sv 0 (As := [.int x0, .int x1]) (rest := []) ⟨hx, hb, hml, hown, hts⟩ (w_X12_areTwo l D cI cS b L v hL hV x0 x1) hKK hP (ci := 12) rfl rfl (cwV 2 hts gX12_verdict_X12_areTwo rfl rfl rfl (by decide +kernel) ⟨Nat.le_of_ble_eq_true rfl, Nat.le_of_ble_eq_true rfl⟩) rfl hl.1 rfl (Nat.le_of_ble_eq_true rfl) dX12_verdict_3 ⟨Nat.le_of_ble_eq_true rfl, Nat.le_of_ble_eq_true rfl⟩ (fun r7487 hr7487 => ?_)
  refine lv_if_ne (tgt := 12) hx hb dX12_verdict_6 (by decide) (fun c7488 => ?_) (fun c7488 => ?_)
  · have g7489 : Rg 0 11 x0 := (hr7487.2 c7488).1
    have g7490 : Rg 0 11 x1 := (hr7487.2 c7488).2
    have g7491 : Rg 1 1 r7487 := rg_ne_lo (k := 0) hr7487.1 (by decide) c7488 (by decide)
    refine lv_aload_n hx hb dX12_verdict_12 rfl (lv_at hl 0 rfl) ?_
    refine wk_qv (wM cI b L) v (As := []) (rest := []) ⟨hx, hb, hml, hown, hts⟩ (w_X12_reckons l D cI cS _ b L v hL hV) hKK hP hD hS hA 0 (ci := 12) rfl rfl (cwV 0 hts gX12_verdict_X12_reckons rfl rfl rfl (by decide +kernel) ⟨Nat.le_of_ble_eq_true rfl, Nat.le_of_ble_eq_true rfl⟩) rfl hl.1 rfl (Nat.le_of_ble_eq_true rfl) dX12_verdict_13 ⟨Nat.le_of_ble_eq_true rfl, Nat.le_of_ble_eq_true rfl⟩ (fun v H locs hr7492 hP hD hS => ?_)
    have hV := hr7492.1
    refine lv_aload_n hx hb dX12_verdict_16 rfl (lv_at hl 0 rfl) ?_
    refine va_get (D := D) (ci := 12) (v := .ref (b 1)) (C := RX12) (T := TX12) (N := 24) hx hb hts hin12 hown hK hP 0 rfl rfl 2 (by decide) (hts (.fieldLink RX12 13 "MissedPointsModel" "near" "[I") (by decide +kernel)) (fun _ h9 => h9) rfl dX12_verdict_17 ?_
    refine lv_iload_n hx hb dX12_verdict_20 rfl (lv_at hl 1 rfl) ?_
    refine wk_ald hx hb hK hP 1 0 rfl rfl (rg_in g7489 (by decide) (by decide)) dX12_verdict_21 hV.1 (fun r7493 hr7493 => ?_)
    refine lv_iload_n hx hb dX12_verdict_22 rfl (lv_at hl 2 rfl) ?_
    refine lz_ss (As := [.int r7493, .int x1]) (rest := []) ⟨hx, hb, hml, hown, hts⟩ (w_X12_has l D cI cS r7493 x1) hKK (hP.sub (ws' := []) [] rfl) (va_cwS 2 hts gX12_verdict_X12_has rfl rfl rfl (by decide +kernel) ⟨Nat.le_of_ble_eq_true rfl, Nat.le_of_ble_eq_true rfl⟩) rfl hl.1 rfl (Nat.le_of_ble_eq_true rfl) dX12_verdict_23 ⟨Nat.le_of_ble_eq_true rfl, Nat.le_of_ble_eq_true rfl⟩ (fun r7494 hr7494 => ?_)
    refine lv_if_eq (tgt := 38) hx hb dX12_verdict_26 (by decide) (fun c7495 => ?_) (fun c7495 => ?_)
    · have g7496 : Rg 0 0 r7494 := wk_eql hr7494.1 (by decide : Rg 0 0 (0 : Int32)) c7495 (by decide)
      refine lv_iconst (v := (-1)) hx hb dX12_verdict_38 (by decide) ?_
      subst hAe
      exact W.iret (v := (-1)) hx hb hr (fun t ht hW => ⟨⟨_, v, rfl, ⟨hV, (by decide : Rg (-2) 2 ((-1) : Int32)), trivial⟩, by rw [ht]; exact hP, hD⟩, hS.F ht⟩) hS.2.2 dX12_verdict_39
    · have g7497 : Rg 1 1 r7494 := rg_ne_lo (k := 0) hr7494.1 (by decide) c7495 (by decide)
      refine lv_aload_n hx hb dX12_verdict_29 rfl (lv_at hl 0 rfl) ?_
      refine lv_iload_n hx hb dX12_verdict_30 rfl (lv_at hl 1 rfl) ?_
      refine lv_iload_n hx hb dX12_verdict_31 rfl (lv_at hl 2 rfl) ?_
      refine wk_sv 0 (As := [.int x0, .int x1]) (rest := []) ⟨hx, hb, hml, hown, hts⟩ (w_X12_verdictOf l D cI cS b L v hL hV x0 x1 g7489 g7490) hKK hP (ci := 12) rfl rfl (cwV 2 hts gX12_verdict_X12_verdictOf rfl rfl rfl (by decide +kernel) ⟨Nat.le_of_ble_eq_true rfl, Nat.le_of_ble_eq_true rfl⟩) rfl hl.1 rfl (Nat.le_of_ble_eq_true rfl) dX12_verdict_32 ⟨Nat.le_of_ble_eq_true rfl, Nat.le_of_ble_eq_true rfl⟩ (fun r7498 hr7498 => ?_)
      refine lv_goto (tgt := 39) hx hb dX12_verdict_35 (by decide) ?_
      subst hAe
      exact W.iret (v := r7498) hx hb hr (fun t ht hW => ⟨⟨_, v, rfl, ⟨hV, (show Rg (-2) 2 r7498 from rg_w hr7498.1 (by decide) (by decide)), trivial⟩, by rw [ht]; exact hP, hD⟩, hS.F ht⟩) hS.2.2 dX12_verdict_39
  · have g7499 : Rg 0 0 r7487 := wk_eql hr7487.1 (by decide : Rg 0 0 (0 : Int32)) c7488 (by decide)
    refine lv_bipush (v := (-2)) hx hb dX12_verdict_9 (by decide) ?_
    subst hAe
    exact W.iret (v := (-2)) hx hb hr (fun t ht hW => ⟨⟨_, v, rfl, ⟨hV, (by decide : Rg (-2) 2 ((-2) : Int32)), trivial⟩, by rw [ht]; exact hP, hD⟩, hS.F ht⟩) hS.2.2 dX12_verdict_11
set_option maxRecDepth 20000 in
theorem ggX12_twos_X12_all : GoodIn wsX12_twos wsX12_all := goodIn_r _ [13, 1, 24, 25, 26, 27, 28, 29, 30, 31, 32, 33, 34, 35, 36, 37, 38, 39, 40, 41, 42, 43, 44, 45, 46, 47] rfl (by decide +kernel)
set_option maxRecDepth 20000 in
theorem gX12_twos_X12_all : GoodIn wsX12_twos (wsV RX12 70 RX12 yX12_all wsX12_all) := goodIn_app (goodIn_of _ (by decide +kernel)) ggX12_twos_X12_all
set_option maxRecDepth 20000 in
theorem ggX12_twos_X12_verdictOf : GoodIn wsX12_twos wsX12_verdictOf := goodIn_r _ [23, 3, 9, 10, 11, 12, 7, 13, 1, 24, 25, 26, 27, 28, 29, 30, 31, 32, 33, 34, 35, 36, 37, 38, 39, 40, 41, 42, 43, 44, 45, 46, 47] rfl (by decide +kernel)
set_option maxRecDepth 20000 in
theorem gX12_twos_X12_verdictOf : GoodIn wsX12_twos (wsV RX12 150 RX12 yX12_verdictOf wsX12_verdictOf) := goodIn_app (goodIn_of _ (by decide +kernel)) ggX12_twos_X12_verdictOf
theorem dX12_twos_102 : decode cX12_twos 102 = .ok (.iaload, 1) := by decide +kernel
theorem dX12_twos_103 : decode cX12_twos 103 = .ok (.if_icmp .ge 6, 3) := by decide +kernel
theorem dX12_twos_106 : decode cX12_twos 106 = .ok (.goto 27, 3) := by decide +kernel
theorem dX12_twos_109 : decode cX12_twos 109 = .ok (.iload 4, 2) := by decide +kernel
theorem dX12_twos_111 : decode cX12_twos 111 = .ok (.iconst (-1), 1) := by decide +kernel
theorem dX12_twos_112 : decode cX12_twos 112 = .ok (.if_icmp .ne 14, 3) := by decide +kernel
theorem dX12_twos_115 : decode cX12_twos 115 = .ok (.bipush 12, 2) := by decide +kernel
theorem dX12_twos_117 : decode cX12_twos 117 = .ok (.iload 6, 2) := by decide +kernel
theorem dX12_twos_119 : decode cX12_twos 119 = .ok (.imul, 1) := by decide +kernel
theorem dX12_twos_120 : decode cX12_twos 120 = .ok (.iload 7, 2) := by decide +kernel
theorem dX12_twos_122 : decode cX12_twos 122 = .ok (.iadd, 1) := by decide +kernel
theorem dX12_twos_123 : decode cX12_twos 123 = .ok (.goto 5, 3) := by decide +kernel
theorem dX12_twos_126 : decode cX12_twos 126 = .ok (.iload 4, 2) := by decide +kernel
theorem dX12_twos_128 : decode cX12_twos 128 = .ok (.istore 4, 2) := by decide +kernel
theorem dX12_twos_130 : decode cX12_twos 130 = .ok (.iinc 5 1, 3) := by decide +kernel
theorem dX12_twos_133 : decode cX12_twos 133 = .ok (.iinc 7 1, 3) := by decide +kernel
theorem dX12_twos_136 : decode cX12_twos 136 = .ok (.goto (-108), 3) := by decide +kernel
theorem dX12_twos_139 : decode cX12_twos 139 = .ok (.iinc 6 1, 3) := by decide +kernel
theorem dX12_twos_142 : decode cX12_twos 142 = .ok (.goto (-129), 3) := by decide +kernel
theorem dX12_twos_22 : decode cX12_twos 22 = .ok (.iload 6, 2) := by decide +kernel
theorem dX12_twos_24 : decode cX12_twos 24 = .ok (.iconst 1, 1) := by decide +kernel
theorem dX12_twos_25 : decode cX12_twos 25 = .ok (.iadd, 1) := by decide +kernel
theorem dX12_twos_26 : decode cX12_twos 26 = .ok (.istore 7, 2) := by decide +kernel
theorem dX12_twos_28 : decode cX12_twos 28 = .ok (.iload 7, 2) := by decide +kernel
theorem dX12_twos_30 : decode cX12_twos 30 = .ok (.aload_n 0, 1) := by decide +kernel
theorem dX12_twos_31 : decode cX12_twos 31 = .ok (.getfield 63, 3) := by decide +kernel
theorem dX12_twos_34 : decode cX12_twos 34 = .ok (.if_icmp .ge 105, 3) := by decide +kernel
theorem dX12_twos_37 : decode cX12_twos 37 = .ok (.aload_n 0, 1) := by decide +kernel
theorem dX12_twos_38 : decode cX12_twos 38 = .ok (.getfield 13, 3) := by decide +kernel
theorem dX12_twos_41 : decode cX12_twos 41 = .ok (.iload 6, 2) := by decide +kernel
theorem dX12_twos_43 : decode cX12_twos 43 = .ok (.iaload, 1) := by decide +kernel
theorem dX12_twos_44 : decode cX12_twos 44 = .ok (.iload 7, 2) := by decide +kernel
theorem dX12_twos_46 : decode cX12_twos 46 = .ok (.ishr, 1) := by decide +kernel
theorem dX12_twos_47 : decode cX12_twos 47 = .ok (.iconst 1, 1) := by decide +kernel
theorem dX12_twos_48 : decode cX12_twos 48 = .ok (.iand, 1) := by decide +kernel
theorem dX12_twos_49 : decode cX12_twos 49 = .ok (.iload_n 1, 1) := by decide +kernel
theorem dX12_twos_50 : decode cX12_twos 50 = .ok (.if_icmp .ne 83, 3) := by decide +kernel
theorem dX12_twos_53 : decode cX12_twos 53 = .ok (.iload_n 1, 1) := by decide +kernel
theorem dX12_twos_54 : decode cX12_twos 54 = .ok (.iconst 1, 1) := by decide +kernel
theorem dX12_twos_55 : decode cX12_twos 55 = .ok (.if_icmp .ne 18, 3) := by decide +kernel
theorem dX12_twos_58 : decode cX12_twos 58 = .ok (.aload_n 0, 1) := by decide +kernel
theorem dX12_twos_59 : decode cX12_twos 59 = .ok (.iload 6, 2) := by decide +kernel
theorem dX12_twos_61 : decode cX12_twos 61 = .ok (.iload 7, 2) := by decide +kernel
theorem dX12_twos_63 : decode cX12_twos 63 = .ok (.invokevirtual 150, 3) := by decide +kernel
theorem dX12_twos_66 : decode cX12_twos 66 = .ok (.iload_n 2, 1) := by decide +kernel
theorem dX12_twos_67 : decode cX12_twos 67 = .ok (.if_icmp .eq 42, 3) := by decide +kernel
theorem dX12_twos_70 : decode cX12_twos 70 = .ok (.goto 63, 3) := by decide +kernel
theorem dX12_twos_73 : decode cX12_twos 73 = .ok (.aload_n 0, 1) := by decide +kernel
theorem dX12_twos_74 : decode cX12_twos 74 = .ok (.getfield 17, 3) := by decide +kernel
theorem dX12_twos_77 : decode cX12_twos 77 = .ok (.aload_n 0, 1) := by decide +kernel
theorem dX12_twos_78 : decode cX12_twos 78 = .ok (.invokevirtual 70, 3) := by decide +kernel
theorem dX12_twos_81 : decode cX12_twos 81 = .ok (.iconst 1, 1) := by decide +kernel
theorem dX12_twos_82 : decode cX12_twos 82 = .ok (.iload 6, 2) := by decide +kernel
theorem dX12_twos_84 : decode cX12_twos 84 = .ok (.ishl, 1) := by decide +kernel
theorem dX12_twos_85 : decode cX12_twos 85 = .ok (.iconst 1, 1) := by decide +kernel
theorem dX12_twos_86 : decode cX12_twos 86 = .ok (.iload 7, 2) := by decide +kernel
theorem dX12_twos_88 : decode cX12_twos 88 = .ok (.ishl, 1) := by decide +kernel
theorem dX12_twos_89 : decode cX12_twos 89 = .ok (.ior, 1) := by decide +kernel
theorem dX12_twos_90 : decode cX12_twos 90 = .ok (.iconst (-1), 1) := by decide +kernel
theorem dX12_twos_91 : decode cX12_twos 91 = .ok (.ixor, 1) := by decide +kernel
theorem dX12_twos_92 : decode cX12_twos 92 = .ok (.iand, 1) := by decide +kernel
theorem dX12_twos_93 : decode cX12_twos 93 = .ok (.iaload, 1) := by decide +kernel
theorem dX12_twos_94 : decode cX12_twos 94 = .ok (.aload_n 0, 1) := by decide +kernel
theorem dX12_twos_95 : decode cX12_twos 95 = .ok (.getfield 17, 3) := by decide +kernel
theorem dX12_twos_98 : decode cX12_twos 98 = .ok (.aload_n 0, 1) := by decide +kernel
theorem dX12_twos_99 : decode cX12_twos 99 = .ok (.invokevirtual 70, 3) := by decide +kernel
set_option maxHeartbeats 4000000 in
set_option maxRecDepth 100000 in
theorem w_X12_twos (l : Launch) (D : va_G) (cI cS : ClassId) (sz : Nat) (b : Nat → Nat) (L v0 : SU) (hL : TyL L) (hV : TyV v0) (x0 x1 x2 : Int32) (px0 : Rg 0 1 x0) : Met l yX12_twos wsX12_twos ({ frames := 3, cells := 0, slots := 0, locals := 120 }) (PQ D cI cS (wM cI b L v0) sz [.ref (b 0), .int x0, .int x1, .int x2]) (QF (S := SU) D (wM cI b L v0) (wM cI b L) sz (fun r u => TyV u ∧ Rg (-2147483648) 2147483647 r ∧ True)) 0 0 (va_A (wM cI b L v0) sz) := by
  refine Met.ofW (cc := cX12_twos) (maxL := 8) (ret := (some .int)) (by decide) rfl ?_
  intro p e s m args below meth c s₁ B hml hv
  obtain ⟨rfl, hsz, hP, hKK, hD0⟩ := hv
  have hx := B.exec
  have hb := B.bytes
  have hr := B.returns
  have hts := atoms_spec (ws := wsX12_twos) B.pre
  have hown : s.vm.findClass RX12 = some m.cls := findClass_of_methodNamed B.named
  have hlocks := B.notSynchronized
  have hK := hKK.1
  have hin12 : ∀ w ∈ wsX120, w ∈ wsX12_twos := by decide +kernel
  subst hsz
  have hD := hD0.self (sz := s.heap.size)
  obtain ⟨A, hAe⟩ : ∃ A, A = va_A (wM cI b L v0) s.heap.size := ⟨_, rfl⟩
  rw [← hAe] at hD
  have hA : ∀ q : Nat, s.heap.size ≤ q → A q := fun q h => by rw [hAe]; exact Or.inr h
  have hS : va_S A s.heap s.heap [] := va_S.rf
  have hl := lv_entry ([.ref (b 0), .int x0, .int x1, .int x2]) (n := 8) (Nat.le_of_ble_eq_true rfl)
  rw [lg_entry_eq]
  generalize (lg_sl ([.ref (b 0), .int x0, .int x1, .int x2]) ++ List.replicate (8 - (lg_sl ([.ref (b 0), .int x0, .int x1, .int x2])).length) Slot.unset).toArray = ls at hl ⊢
  have hl : lv_has ls 8 [(0, .ref (b 0)), (1, .int x0), (2, .int x1), (3, .int x2)] := hl
  obtain ⟨v, hv9⟩ : ∃ v : SU, v = v0 := ⟨_, rfl⟩
  rw [← hv9] at hP hD hV
  have lp13 : ∀ (n13 : Nat) (y13_l4 : Int32) (y13_l5 : Int32) (y13_l6 : Int32) (v : SU) (H : Heap) (locs : List Loc) (ls : Array Slot), Rg 0 1 x0 → Rg (-1) 255 y13_l4 → Rg 0 12 y13_l6 → TyV v → va_P D cls (wM cI b L v) H → va_D A (wM cI b L v) → va_S A s.heap H locs → lv_has ls 8 [(0, .ref (b 0)), (1, .int x0), (2, .int x1), (3, .int x2), (4, .int y13_l4), (5, .int y13_l5), (6, .int y13_l6)] → 12 - y13_l6.toInt < (n13 : Int) → W p l e (headSpec wsX12_twos ({ frames := 3, cells := 0, slots := 0, locals := 120 })).room s m ([.ref (b 0), .int x0, .int x1, .int x2]).toArray below meth c H locs 0 0 (MQ below (QF (S := SU) D (wM cI b L v0) (wM cI b L) s.heap.size (fun r u => TyV u ∧ Rg (-2147483648) 2147483647 r ∧ True)) ([.ref (b 0), .int x0, .int x1, .int x2]).toArray s 0 0 (va_A (wM cI b L v0) s.heap.size)) (F0 m 13 ls []) := by
    intro n13
    induction n13 with
    | zero =>
      intro y13_l4 y13_l5 y13_l6 v H locs ls g13_l1 g13_l4 g13_l6 hV hP hD hS hl hm13
      exact absurd rfl (me_z g13_l6 hm13)
    | succ n13 ih13 =>
      intro y13_l4 y13_l5 y13_l6 v H locs ls g13_l1 g13_l4 g13_l6 hV hP hD hS hl hm13
      have lp28 : ∀ (n28 : Nat) (y28_l4 : Int32) (y28_l5 : Int32) (y28_l7 : Int32) (v : SU) (H : Heap) (locs : List Loc) (ls : Array Slot), Rg 0 1 x0 → Rg (-1) 255 y28_l4 → Rg 0 11 y13_l6 → Rg 1 12 y28_l7 → TyV v → va_P D cls (wM cI b L v) H → va_D A (wM cI b L v) → va_S A s.heap H locs → lv_has ls 8 [(0, .ref (b 0)), (1, .int x0), (2, .int x1), (3, .int x2), (4, .int y28_l4), (5, .int y28_l5), (6, .int y13_l6), (7, .int y28_l7)] → 12 - y28_l7.toInt < (n28 : Int) → W p l e (headSpec wsX12_twos ({ frames := 3, cells := 0, slots := 0, locals := 120 })).room s m ([.ref (b 0), .int x0, .int x1, .int x2]).toArray below meth c H locs 0 0 (MQ below (QF (S := SU) D (wM cI b L v0) (wM cI b L) s.heap.size (fun r u => TyV u ∧ Rg (-2147483648) 2147483647 r ∧ True)) ([.ref (b 0), .int x0, .int x1, .int x2]).toArray s 0 0 (va_A (wM cI b L v0) s.heap.size)) (F0 m 28 ls []) := by
        intro n28
        induction n28 with
        | zero =>
          intro y28_l4 y28_l5 y28_l7 v H locs ls g28_l1 g28_l4 g28_l6 g28_l7 hV hP hD hS hl hm28
          exact absurd rfl (me_z g28_l7 hm28)
        | succ n28 ih28 =>
          intro y28_l4 y28_l5 y28_l7 v H locs ls g28_l1 g28_l4 g28_l6 g28_l7 hV hP hD hS hl hm28
          have ct109 : ∀ (v : SU) (H : Heap) (locs : List Loc) (ls : Array Slot), Rg 0 1 x0 → Rg (-1) 255 y28_l4 → Rg 0 11 y13_l6 → Rg 1 11 y28_l7 → TyV v → va_P D cls (wM cI b L v) H → va_D A (wM cI b L v) → va_S A s.heap H locs → lv_has ls 8 [(0, .ref (b 0)), (1, .int x0), (2, .int x1), (3, .int x2), (4, .int y28_l4), (5, .int y28_l5), (6, .int y13_l6), (7, .int y28_l7)] → W p l e (headSpec wsX12_twos ({ frames := 3, cells := 0, slots := 0, locals := 120 })).room s m ([.ref (b 0), .int x0, .int x1, .int x2]).toArray below meth c H locs 0 0 (MQ below (QF (S := SU) D (wM cI b L v0) (wM cI b L) s.heap.size (fun r u => TyV u ∧ Rg (-2147483648) 2147483647 r ∧ True)) ([.ref (b 0), .int x0, .int x1, .int x2]).toArray s 0 0 (va_A (wM cI b L v0) s.heap.size)) (F0 m 109 ls []) := by
            intro v H locs ls g109_l1 g109_l4 g109_l6 g109_l7 hV hP hD hS hl
            refine lv_iload hx hb dX12_twos_109 (lv_at hl 4 rfl) ?_
            refine lv_iconst (v := (-1)) hx hb dX12_twos_111 (by decide) ?_
            refine lv_icmp_ne (tgt := 126) hx hb dX12_twos_112 (by decide) (fun c9045 => ?_) (fun c9045 => ?_)
            · have g9046 : Rg 0 255 y28_l4 := rg_ne_lo (k := (-1)) g109_l4 (by decide) c9045 (by decide)
              refine lv_iload hx hb dX12_twos_126 (lv_at hl 4 rfl) ?_
              refine lv_istore (lv' := [(4, .int y28_l4), (0, .ref (b 0)), (1, .int x0), (2, .int x1), (3, .int x2), (5, .int y28_l5), (6, .int y13_l6), (7, .int y28_l7)]) hx hb dX12_twos_128 hl (by decide) rfl (fun ls hl => ?_)
              refine wk_iincA (lv' := fun r => [(5, .int r), (4, .int y28_l4), (0, .ref (b 0)), (1, .int x0), (2, .int x1), (3, .int x2), (6, .int y13_l6), (7, .int y28_l7)]) hx hb dX12_twos_130 hl (k := 5) rfl (by decide) (fun _ => rfl) (fun r9047 ls hl => ?_)
              refine wk_iinc (lv' := fun r => [(7, .int r), (5, .int r9047), (4, .int y28_l4), (0, .ref (b 0)), (1, .int x0), (2, .int x1), (3, .int x2), (6, .int y13_l6)]) (e1 := 2) (f := 12) hx hb dX12_twos_133 hl (k := 7) rfl (by decide) g109_l7 (by decide) (fun _ => rfl) (fun r9048 ls hr9048 er9048 hl => ?_)
              refine lv_goto (tgt := 28) hx hb dX12_twos_136 (by decide) ?_
              exact ih28 y28_l4 r9047 r9048 v _ _ ls g109_l1 (show Rg (-1) 255 y28_l4 from rg_w g9046 (by decide) (by decide)) g109_l6 (show Rg 1 12 r9048 from rg_w hr9048 (by decide) (by decide)) hV hP hD hS (lv_sub (l' := [(0, .ref (b 0)), (1, .int x0), (2, .int x1), (3, .int x2), (4, .int y28_l4), (5, .int r9047), (6, .int y13_l6), (7, .int r9048)]) hl [3, 4, 5, 6, 2, 1, 7, 0] rfl) (me_up hm28 er9048 (by decide))
            · have g9049 : Rg (-1) (-1) y28_l4 := wk_eql g109_l4 (by decide : Rg (-1) (-1) ((-1) : Int32)) c9045 (by decide)
              refine lv_bipush (v := 12) hx hb dX12_twos_115 (by decide) ?_
              refine lv_iload hx hb dX12_twos_117 (lv_at hl 6 rfl) ?_
              refine wk_imul (f := 132) hx hb dX12_twos_119 (by decide : Rg 0 12 (12 : Int32)) g109_l6 (by decide) (fun r9050 hr9050 er9050 qr9050 => ?_)
              refine lv_iload hx hb dX12_twos_120 (lv_at hl 7 rfl) ?_
              refine wk_iadd (e1 := 1) (f := 143) hx hb dX12_twos_122 hr9050 g109_l7 (by decide) (fun r9051 hr9051 er9051 qr9051 => ?_)
              refine lv_goto (tgt := 128) hx hb dX12_twos_123 (by decide) ?_
              refine lv_istore (lv' := [(4, .int r9051), (0, .ref (b 0)), (1, .int x0), (2, .int x1), (3, .int x2), (5, .int y28_l5), (6, .int y13_l6), (7, .int y28_l7)]) hx hb dX12_twos_128 hl (by decide) rfl (fun ls hl => ?_)
              refine wk_iincA (lv' := fun r => [(5, .int r), (4, .int r9051), (0, .ref (b 0)), (1, .int x0), (2, .int x1), (3, .int x2), (6, .int y13_l6), (7, .int y28_l7)]) hx hb dX12_twos_130 hl (k := 5) rfl (by decide) (fun _ => rfl) (fun r9052 ls hl => ?_)
              refine wk_iinc (lv' := fun r => [(7, .int r), (5, .int r9052), (4, .int r9051), (0, .ref (b 0)), (1, .int x0), (2, .int x1), (3, .int x2), (6, .int y13_l6)]) (e1 := 2) (f := 12) hx hb dX12_twos_133 hl (k := 7) rfl (by decide) g109_l7 (by decide) (fun _ => rfl) (fun r9053 ls hr9053 er9053 hl => ?_)
              refine lv_goto (tgt := 28) hx hb dX12_twos_136 (by decide) ?_
              exact ih28 r9051 r9052 r9053 v _ _ ls g109_l1 (show Rg (-1) 255 r9051 from rg_w hr9051 (by decide) (by decide)) g109_l6 (show Rg 1 12 r9053 from rg_w hr9053 (by decide) (by decide)) hV hP hD hS (lv_sub (l' := [(0, .ref (b 0)), (1, .int x0), (2, .int x1), (3, .int x2), (4, .int r9051), (5, .int r9052), (6, .int y13_l6), (7, .int r9053)]) hl [3, 4, 5, 6, 2, 1, 7, 0] rfl) (me_up hm28 er9053 (by decide))
          refine lv_iload hx hb dX12_twos_28 (lv_at hl 7 rfl) ?_
          refine lv_aload_n hx hb dX12_twos_30 rfl (lv_at hl 0 rfl) ?_
          refine va_get (D := D) (ci := 12) (v := .int (L 0 0)) (C := RX12) (T := TX12) (N := 24) hx hb hts hin12 hown hK hP 0 rfl rfl 0 (by decide) (hts (.fieldLink RX12 63 "MissedPointsModel" "many" "I") (by decide +kernel)) (fun _ h9 => h9) rfl dX12_twos_31 ?_
          refine lv_icmp_ge (tgt := 139) hx hb dX12_twos_34 (by decide) (fun c9054 => ?_) (fun c9054 => ?_)
          · refine wk_iinc (lv' := fun r => [(6, .int r), (0, .ref (b 0)), (1, .int x0), (2, .int x1), (3, .int x2), (4, .int y28_l4), (5, .int y28_l5), (7, .int y28_l7)]) (e1 := 1) (f := 12) hx hb dX12_twos_139 hl (k := 6) rfl (by decide) g28_l6 (by decide) (fun _ => rfl) (fun r9055 ls hr9055 er9055 hl => ?_)
            refine lv_goto (tgt := 13) hx hb dX12_twos_142 (by decide) ?_
            exact ih13 y28_l4 y28_l5 r9055 v _ _ ls g28_l1 g28_l4 (show Rg 0 12 r9055 from rg_w hr9055 (by decide) (by decide)) hV hP hD hS (lv_sub (l' := [(0, .ref (b 0)), (1, .int x0), (2, .int x1), (3, .int x2), (4, .int y28_l4), (5, .int y28_l5), (6, .int r9055)]) hl [1, 2, 3, 4, 5, 6, 0] rfl) (me_up hm13 er9055 (by decide))
          · have g9056 : Rg 2 12 (L 0 0) := rg_ltr g28_l7 hL.1 (rg_nle c9054) (by decide)
            have g9057 : Rg 1 11 y28_l7 := rg_ltl g28_l7 hL.1 (rg_nle c9054) (by decide)
            refine lv_aload_n hx hb dX12_twos_37 rfl (lv_at hl 0 rfl) ?_
            refine va_get (D := D) (ci := 12) (v := .ref (b 1)) (C := RX12) (T := TX12) (N := 24) hx hb hts hin12 hown hK hP 0 rfl rfl 2 (by decide) (hts (.fieldLink RX12 13 "MissedPointsModel" "near" "[I") (by decide +kernel)) (fun _ h9 => h9) rfl dX12_twos_38 ?_
            refine lv_iload hx hb dX12_twos_41 (lv_at hl 6 rfl) ?_
            refine wk_ald hx hb hK hP 1 0 rfl rfl (rg_in g28_l6 (by decide) (by decide)) dX12_twos_43 hV.1 (fun r9058 hr9058 => ?_)
            refine lv_iload hx hb dX12_twos_44 (lv_at hl 7 rfl) ?_
            refine lv_ishr hx hb dX12_twos_46 ?_
            refine wk_topP (P := fun r => r = r9058 >>> (y28_l7 &&& 31)) rfl (fun r9059 qr9059 => ?_)
            refine lv_iconst (v := 1) hx hb dX12_twos_47 (by decide) ?_
            refine wk_iandr hx hb dX12_twos_48 (by decide : Rg 1 1 (1 : Int32)) (by decide) (fun r9060 hr9060 qr9060 => ?_)
            refine lv_iload_n hx hb dX12_twos_49 rfl (lv_at hl 1 rfl) ?_
            refine lv_icmp_ne (tgt := 133) hx hb dX12_twos_50 (by decide) (fun c9061 => ?_) (fun c9061 => ?_)
            · refine wk_iinc (lv' := fun r => [(7, .int r), (0, .ref (b 0)), (1, .int x0), (2, .int x1), (3, .int x2), (4, .int y28_l4), (5, .int y28_l5), (6, .int y13_l6)]) (e1 := 2) (f := 12) hx hb dX12_twos_133 hl (k := 7) rfl (by decide) g9057 (by decide) (fun _ => rfl) (fun r9062 ls hr9062 er9062 hl => ?_)
              refine lv_goto (tgt := 28) hx hb dX12_twos_136 (by decide) ?_
              exact ih28 y28_l4 y28_l5 r9062 v _ _ ls g28_l1 g28_l4 g28_l6 (show Rg 1 12 r9062 from rg_w hr9062 (by decide) (by decide)) hV hP hD hS (lv_sub (l' := [(0, .ref (b 0)), (1, .int x0), (2, .int x1), (3, .int x2), (4, .int y28_l4), (5, .int y28_l5), (6, .int y13_l6), (7, .int r9062)]) hl [1, 2, 3, 4, 5, 6, 7, 0] rfl) (me_up hm28 er9062 (by decide))
            · refine lv_iload_n hx hb dX12_twos_53 rfl (lv_at hl 1 rfl) ?_
              refine lv_iconst (v := 1) hx hb dX12_twos_54 (by decide) ?_
              refine lv_icmp_ne (tgt := 73) hx hb dX12_twos_55 (by decide) (fun c9063 => ?_) (fun c9063 => ?_)
              · have g9064 : Rg 0 0 x0 := rg_ne_hi (k := 1) g28_l1 (by decide) c9063 (by decide)
                refine lv_aload_n hx hb dX12_twos_73 rfl (lv_at hl 0 rfl) ?_
                refine va_get (D := D) (ci := 12) (v := .ref (b 2)) (C := RX12) (T := TX12) (N := 24) hx hb hts hin12 hown hK hP 0 rfl rfl 3 (by decide) (hts (.fieldLink RX12 17 "MissedPointsModel" "pairs" "[I") (by decide +kernel)) (fun _ h9 => h9) rfl dX12_twos_74 ?_
                refine lv_aload_n hx hb dX12_twos_77 rfl (lv_at hl 0 rfl) ?_
                refine wk_sv 0 (As := []) (rest := [.ref (b 2)]) ⟨hx, hb, hml, hown, hts⟩ (w_X12_all l D cI cS b L v hL hV) hKK hP (ci := 12) rfl rfl (cwV 0 hts gX12_twos_X12_all rfl rfl rfl (by decide +kernel) ⟨Nat.le_of_ble_eq_true rfl, Nat.le_of_ble_eq_true rfl⟩) rfl hl.1 rfl (Nat.le_of_ble_eq_true rfl) dX12_twos_78 ⟨Nat.le_of_ble_eq_true rfl, Nat.le_of_ble_eq_true rfl⟩ (fun r9065 hr9065 => ?_)
                refine lv_iconst (v := 1) hx hb dX12_twos_81 (by decide) ?_
                refine lv_iload hx hb dX12_twos_82 (lv_at hl 6 rfl) ?_
                refine wk_ishl1 (f := 2048) hx hb dX12_twos_84 g28_l6 (by decide) (fun r9066 hr9066 qr9066 => ?_)
                refine lv_iconst (v := 1) hx hb dX12_twos_85 (by decide) ?_
                refine lv_iload hx hb dX12_twos_86 (lv_at hl 7 rfl) ?_
                refine wk_ishl1 (f := 2048) hx hb dX12_twos_88 (show Rg 0 11 y28_l7 from rg_w g9057 (by decide) (by decide)) (by decide) (fun r9067 hr9067 qr9067 => ?_)
                refine wk_ior 12 (e1 := 1) (f := 4095) hx hb dX12_twos_89 hr9066 hr9067 (by decide) (fun r9068 hr9068 qr9068 => ?_)
                refine lv_iconst (v := (-1)) hx hb dX12_twos_90 (by decide) ?_
                refine lv_ixor hx hb dX12_twos_91 ?_
                refine wk_topP (P := fun r => r = r9068 ^^^ ((-1) : Int32)) rfl (fun r9069 qr9069 => ?_)
                refine wk_iandl hx hb dX12_twos_92 hr9065.1 (by decide) (fun r9070 hr9070 qr9070 => ?_)
                refine wk_aldA hx hb hK hP 2 0 rfl rfl (rg_in hr9070 (by decide) (by decide)) dX12_twos_93 (fun r9071 => ?_)
                refine lv_aload_n hx hb dX12_twos_94 rfl (lv_at hl 0 rfl) ?_
                refine va_get (D := D) (ci := 12) (v := .ref (b 2)) (C := RX12) (T := TX12) (N := 24) hx hb hts hin12 hown hK hP 0 rfl rfl 3 (by decide) (hts (.fieldLink RX12 17 "MissedPointsModel" "pairs" "[I") (by decide +kernel)) (fun _ h9 => h9) rfl dX12_twos_95 ?_
                refine lv_aload_n hx hb dX12_twos_98 rfl (lv_at hl 0 rfl) ?_
                refine wk_sv 0 (As := []) (rest := [.ref (b 2), .int r9071]) ⟨hx, hb, hml, hown, hts⟩ (w_X12_all l D cI cS b L v hL hV) hKK hP (ci := 12) rfl rfl (cwV 0 hts gX12_twos_X12_all rfl rfl rfl (by decide +kernel) ⟨Nat.le_of_ble_eq_true rfl, Nat.le_of_ble_eq_true rfl⟩) rfl hl.1 rfl (Nat.le_of_ble_eq_true rfl) dX12_twos_99 ⟨Nat.le_of_ble_eq_true rfl, Nat.le_of_ble_eq_true rfl⟩ (fun r9072 hr9072 => ?_)
                refine wk_aldA hx hb hK hP 2 0 rfl rfl (rg_in hr9072.1 (by decide) (by decide)) dX12_twos_102 (fun r9073 => ?_)
                refine lv_icmp_ge (tgt := 109) hx hb dX12_twos_103 (by decide) (fun c9074 => ?_) (fun c9074 => ?_)
                · exact ct109 v _ _ ls (show Rg 0 1 x0 from rg_w g9064 (by decide) (by decide)) g28_l4 g28_l6 g9057 hV hP hD hS (lv_sub (l' := [(0, .ref (b 0)), (1, .int x0), (2, .int x1), (3, .int x2), (4, .int y28_l4), (5, .int y28_l5), (6, .int y13_l6), (7, .int y28_l7)]) hl [0, 1, 2, 3, 4, 5, 6, 7] rfl)
                · refine lv_goto (tgt := 133) hx hb dX12_twos_106 (by decide) ?_
                  refine wk_iinc (lv' := fun r => [(7, .int r), (0, .ref (b 0)), (1, .int x0), (2, .int x1), (3, .int x2), (4, .int y28_l4), (5, .int y28_l5), (6, .int y13_l6)]) (e1 := 2) (f := 12) hx hb dX12_twos_133 hl (k := 7) rfl (by decide) g9057 (by decide) (fun _ => rfl) (fun r9075 ls hr9075 er9075 hl => ?_)
                  refine lv_goto (tgt := 28) hx hb dX12_twos_136 (by decide) ?_
                  exact ih28 y28_l4 y28_l5 r9075 v _ _ ls (show Rg 0 1 x0 from rg_w g9064 (by decide) (by decide)) g28_l4 g28_l6 (show Rg 1 12 r9075 from rg_w hr9075 (by decide) (by decide)) hV hP hD hS (lv_sub (l' := [(0, .ref (b 0)), (1, .int x0), (2, .int x1), (3, .int x2), (4, .int y28_l4), (5, .int y28_l5), (6, .int y13_l6), (7, .int r9075)]) hl [1, 2, 3, 4, 5, 6, 7, 0] rfl) (me_up hm28 er9075 (by decide))
              · have g9076 : Rg 1 1 x0 := wk_eql g28_l1 (by decide : Rg 1 1 (1 : Int32)) c9063 (by decide)
                refine lv_aload_n hx hb dX12_twos_58 rfl (lv_at hl 0 rfl) ?_
                refine lv_iload hx hb dX12_twos_59 (lv_at hl 6 rfl) ?_
                refine lv_iload hx hb dX12_twos_61 (lv_at hl 7 rfl) ?_
                refine wk_sv 0 (As := [.int y13_l6, .int y28_l7]) (rest := []) ⟨hx, hb, hml, hown, hts⟩ (w_X12_verdictOf l D cI cS b L v hL hV y13_l6 y28_l7 g28_l6 (show Rg 0 11 y28_l7 from rg_w g9057 (by decide) (by decide))) hKK hP (ci := 12) rfl rfl (cwV 2 hts gX12_twos_X12_verdictOf rfl rfl rfl (by decide +kernel) ⟨Nat.le_of_ble_eq_true rfl, Nat.le_of_ble_eq_true rfl⟩) rfl hl.1 rfl (Nat.le_of_ble_eq_true rfl) dX12_twos_63 ⟨Nat.le_of_ble_eq_true rfl, Nat.le_of_ble_eq_true rfl⟩ (fun r9077 hr9077 => ?_)
                refine lv_iload_n hx hb dX12_twos_66 rfl (lv_at hl 2 rfl) ?_
                refine lv_icmp_eq (tgt := 109) hx hb dX12_twos_67 (by decide) (fun c9078 => ?_) (fun c9078 => ?_)
                · have g9079 : Rg 0 2 x1 := wk_eqr hr9077.1 (rg_any x1) c9078 (by decide)
                  exact ct109 v _ _ ls (show Rg 0 1 x0 from rg_w g9076 (by decide) (by decide)) g28_l4 g28_l6 g9057 hV hP hD hS (lv_sub (l' := [(0, .ref (b 0)), (1, .int x0), (2, .int x1), (3, .int x2), (4, .int y28_l4), (5, .int y28_l5), (6, .int y13_l6), (7, .int y28_l7)]) hl [0, 1, 2, 3, 4, 5, 6, 7] rfl)
                · refine lv_goto (tgt := 133) hx hb dX12_twos_70 (by decide) ?_
                  refine wk_iinc (lv' := fun r => [(7, .int r), (0, .ref (b 0)), (1, .int x0), (2, .int x1), (3, .int x2), (4, .int y28_l4), (5, .int y28_l5), (6, .int y13_l6)]) (e1 := 2) (f := 12) hx hb dX12_twos_133 hl (k := 7) rfl (by decide) g9057 (by decide) (fun _ => rfl) (fun r9080 ls hr9080 er9080 hl => ?_)
                  refine lv_goto (tgt := 28) hx hb dX12_twos_136 (by decide) ?_
                  exact ih28 y28_l4 y28_l5 r9080 v _ _ ls (show Rg 0 1 x0 from rg_w g9076 (by decide) (by decide)) g28_l4 g28_l6 (show Rg 1 12 r9080 from rg_w hr9080 (by decide) (by decide)) hV hP hD hS (lv_sub (l' := [(0, .ref (b 0)), (1, .int x0), (2, .int x1), (3, .int x2), (4, .int y28_l4), (5, .int y28_l5), (6, .int y13_l6), (7, .int r9080)]) hl [1, 2, 3, 4, 5, 6, 7, 0] rfl) (me_up hm28 er9080 (by decide))
      refine lv_iload hx hb dX12_twos_13 (lv_at hl 6 rfl) ?_
      refine lv_aload_n hx hb dX12_twos_15 rfl (lv_at hl 0 rfl) ?_
      refine va_get (D := D) (ci := 12) (v := .int (L 0 0)) (C := RX12) (T := TX12) (N := 24) hx hb hts hin12 hown hK hP 0 rfl rfl 0 (by decide) (hts (.fieldLink RX12 63 "MissedPointsModel" "many" "I") (by decide +kernel)) (fun _ h9 => h9) rfl dX12_twos_16 ?_
      refine lv_icmp_ge (tgt := 145) hx hb dX12_twos_19 (by decide) (fun c9081 => ?_) (fun c9081 => ?_)
      · refine lv_iload_n hx hb dX12_twos_145 rfl (lv_at hl 3 rfl) ?_
        refine lv_if_ne (tgt := 154) hx hb dX12_twos_146 (by decide) (fun c9082 => ?_) (fun c9082 => ?_)
        · refine lv_iload hx hb dX12_twos_154 (lv_at hl 5 rfl) ?_
          subst hAe
          exact W.iret (v := y13_l5) hx hb hr (fun t ht hW => ⟨⟨_, v, rfl, ⟨hV, (rg_any y13_l5), trivial⟩, by rw [ht]; exact hP, hD⟩, hS.F ht⟩) hS.2.2 dX12_twos_156
        · have g9083 : Rg 0 0 x2 := wk_eql (rg_any x2) (by decide : Rg 0 0 (0 : Int32)) c9082 (by decide)
          refine lv_iload hx hb dX12_twos_149 (lv_at hl 4 rfl) ?_
          refine lv_goto (tgt := 156) hx hb dX12_twos_151 (by decide) ?_
          subst hAe
          exact W.iret (v := y13_l4) hx hb hr (fun t ht hW => ⟨⟨_, v, rfl, ⟨hV, (rg_any y13_l4), trivial⟩, by rw [ht]; exact hP, hD⟩, hS.F ht⟩) hS.2.2 dX12_twos_156
      · have g9084 : Rg 1 12 (L 0 0) := rg_ltr g13_l6 hL.1 (rg_nle c9081) (by decide)
        have g9085 : Rg 0 11 y13_l6 := rg_ltl g13_l6 hL.1 (rg_nle c9081) (by decide)
        refine lv_iload hx hb dX12_twos_22 (lv_at hl 6 rfl) ?_
        refine lv_iconst (v := 1) hx hb dX12_twos_24 (by decide) ?_
        refine wk_iadd (e1 := 1) (f := 12) hx hb dX12_twos_25 g9085 (by decide : Rg 1 1 (1 : Int32)) (by decide) (fun r9086 hr9086 er9086 qr9086 => ?_)
        refine lv_istore (lv' := [(7, .int r9086), (0, .ref (b 0)), (1, .int x0), (2, .int x1), (3, .int x2), (4, .int y13_l4), (5, .int y13_l5), (6, .int y13_l6)]) hx hb dX12_twos_26 hl (by decide) rfl (fun ls hl => ?_)
        exact lp28 12 y13_l4 y13_l5 r9086 v _ _ ls g13_l1 g13_l4 g9085 hr9086 hV hP hD hS (lv_sub (l' := [(0, .ref (b 0)), (1, .int x0), (2, .int x1), (3, .int x2), (4, .int y13_l4), (5, .int y13_l5), (6, .int y13_l6), (7, .int r9086)]) hl [1, 2, 3, 4, 5, 6, 7, 0] rfl) (me_i hr9086 (by decide))
  refine lv_aload_n hx hb dX12_twos_0 rfl (lv_at hl 0 rfl) ?_
  refine wk_qv (wM cI b L) v (As := []) (rest := []) ⟨hx, hb, hml, hown, hts⟩ (w_X12_reckons l D cI cS _ b L v hL hV) hKK hP hD hS hA 0 (ci := 12) rfl rfl (cwV 0 hts gX12_twos_X12_reckons rfl rfl rfl (by decide +kernel) ⟨Nat.le_of_ble_eq_true rfl, Nat.le_of_ble_eq_true rfl⟩) rfl hl.1 rfl (Nat.le_of_ble_eq_true rfl) dX12_twos_1 ⟨Nat.le_of_ble_eq_true rfl, Nat.le_of_ble_eq_true rfl⟩ (fun v H locs hr9087 hP hD hS => ?_)
  have hV := hr9087.1
  refine lv_iconst (v := (-1)) hx hb dX12_twos_4 (by decide) ?_
  refine lv_istore (lv' := [(4, .int (-1)), (0, .ref (b 0)), (1, .int x0), (2, .int x1), (3, .int x2)]) hx hb dX12_twos_5 hl (by decide) rfl (fun ls hl => ?_)
  refine lv_iconst (v := 0) hx hb dX12_twos_7 (by decide) ?_
  refine lv_istore (lv' := [(5, .int 0), (4, .int (-1)), (0, .ref (b 0)), (1, .int x0), (2, .int x1), (3, .int x2)]) hx hb dX12_twos_8 hl (by decide) rfl (fun ls hl => ?_)
  refine lv_iconst (v := 0) hx hb dX12_twos_10 (by decide) ?_
  refine lv_istore (lv' := [(6, .int 0), (5, .int 0), (4, .int (-1)), (0, .ref (b 0)), (1, .int x0), (2, .int x1), (3, .int x2)]) hx hb dX12_twos_11 hl (by decide) rfl (fun ls hl => ?_)
  exact lp13 13 (((-1) : Int32)) (0 : Int32) (0 : Int32) v _ _ ls px0 (by decide : Rg (-1) 255 ((-1) : Int32)) (by decide : Rg 0 12 (0 : Int32)) hV hP hD hS (lv_sub (l' := [(0, .ref (b 0)), (1, .int x0), (2, .int x1), (3, .int x2), (4, .int (-1)), (5, .int 0), (6, .int 0)]) hl [3, 4, 5, 6, 2, 1, 0] rfl) (me_i (by decide : Rg 0 12 (0 : Int32)) (by decide))
set_option maxHeartbeats 4000000 in
set_option maxRecDepth 100000 in
theorem w_X12_verdicts (l : Launch) (D : va_G) (cI cS : ClassId) (sz : Nat) (b : Nat → Nat) (L v0 : SU) (hL : TyL L) (hV : TyV v0) (x0 : Int32) : Met l yX12_verdicts wsX12_verdicts ({ frames := 4, cells := 0, slots := 0, locals := 160 }) (PQ D cI cS (wM cI b L v0) sz [.ref (b 0), .int x0]) (QF (S := SU) D (wM cI b L v0) (wM cI b L) sz (fun r u => TyV u ∧ Rg (-2147483648) 2147483647 r ∧ True)) 0 0 (va_A (wM cI b L v0) sz) := by
  refine Met.ofW (cc := cX12_verdicts) (maxL := 2) (ret := (some .int)) (by decide) rfl ?_
  intro p e s m args below meth c s₁ B hml hv
  obtain ⟨rfl, hsz, hP, hKK, hD0⟩ := hv
  have hx := B.exec
  have hb := B.bytes
  have hr := B.returns
  have hts := atoms_spec (ws := wsX12_verdicts) B.pre
  have hown : s.vm.findClass RX12 = some m.cls := findClass_of_methodNamed B.named
  have hlocks := B.notSynchronized
  have hK := hKK.1
  subst hsz
  have hD := hD0.self (sz := s.heap.size)
  obtain ⟨A, hAe⟩ : ∃ A, A = va_A (wM cI b L v0) s.heap.size := ⟨_, rfl⟩
  rw [← hAe] at hD
  have hA : ∀ q : Nat, s.heap.size ≤ q → A q := fun q h => by rw [hAe]; exact Or.inr h
  have hS : va_S A s.heap s.heap [] := va_S.rf
  have hl := lv_entry ([.ref (b 0), .int x0]) (n := 2) (Nat.le_of_ble_eq_true rfl)
  rw [lg_entry_eq]
  generalize (lg_sl ([.ref (b 0), .int x0]) ++ List.replicate (2 - (lg_sl ([.ref (b 0), .int x0])).length) Slot.unset).toArray = ls at hl ⊢
  have hl : lv_has ls 2 [(0, .ref (b 0)), (1, .int x0)] := hl
  obtain ⟨v, hv9⟩ : ∃ v : SU, v = v0 := ⟨_, rfl⟩
  rw [← hv9] at hP hD hV
  refine lv_iload_n hx hb dX12_verdicts_0 rfl (lv_at hl 1 rfl) ?_
  refine lv_iconst (v := 0) hx hb dX12_verdicts_1 (by decide) ?_
  refine lv_iconst (v := 2) hx hb dX12_verdicts_2 (by decide) ?_
  refine lz_ss (As := [.int x0, .int 0, .int 2]) (rest := []) ⟨hx, hb, hml, hown, hts⟩ (w_X12_in l D cI cS x0 (0 : Int32) (2 : Int32)) hKK (hP.sub (ws' := []) [] rfl) (va_cwS 3 hts gX12_verdicts_X12_in rfl rfl rfl (by decide +kernel) ⟨Nat.le_of_ble_eq_true rfl, Nat.le_of_ble_eq_true rfl⟩) rfl hl.1 rfl (Nat.le_of_ble_eq_true rfl) dX12_verdicts_3 ⟨Nat.le_of_ble_eq_true rfl, Nat.le_of_ble_eq_true rfl⟩ (fun r9096 hr9096 => ?_)
  refine lv_if_eq (tgt := 19) hx hb dX12_verdicts_6 (by decide) (fun c9097 => ?_) (fun c9097 => ?_)
  · have zt9098 : (x0.toInt < (0 : Int32).toInt ∨ (2 : Int32).toInt < x0.toInt) := hr9096.2.1 c9097
    have g9099 : Rg 0 0 r9096 := wk_eql hr9096.1 (by decide : Rg 0 0 (0 : Int32)) c9097 (by decide)
    refine lv_bipush (v := (-2)) hx hb dX12_verdicts_19 (by decide) ?_
    subst hAe
    exact W.iret (v := (-2)) hx hb hr (fun t ht hW => ⟨⟨_, v, rfl, ⟨hV, (by decide : Rg (-2147483648) 2147483647 ((-2) : Int32)), trivial⟩, by rw [ht]; exact hP, hD⟩, hS.F ht⟩) hS.2.2 dX12_verdicts_21
  · have zn9100 : (0 : Int32).toInt ≤ x0.toInt ∧ x0.toInt ≤ (2 : Int32).toInt := (hr9096.2.2 c9097)
    have g9101 : Rg 0 2 x0 := wk_in3 (rg_any x0) (by decide : Rg 0 0 (0 : Int32)) (by decide : Rg 2 2 (2 : Int32)) (hr9096.2.2 c9097) (by decide)
    have g9102 : Rg 1 1 r9096 := rg_ne_lo (k := 0) hr9096.1 (by decide) c9097 (by decide)
    refine lv_aload_n hx hb dX12_verdicts_9 rfl (lv_at hl 0 rfl) ?_
    refine lv_iconst (v := 1) hx hb dX12_verdicts_10 (by decide) ?_
    refine lv_iload_n hx hb dX12_verdicts_11 rfl (lv_at hl 1 rfl) ?_
    refine lv_iconst (v := 1) hx hb dX12_verdicts_12 (by decide) ?_
    refine wk_qi (wM cI b L) v (As := [.int 1, .int x0, .int 1]) (rest := []) ⟨hx, hb, hml, hown, hts⟩ (w_X12_twos l D cI cS _ b L v hL hV (1 : Int32) x0 (1 : Int32) (by decide : Rg 0 1 (1 : Int32))) hKK hP hD hS hA 0 (ci := 12) rfl rfl (cwV 3 hts gX12_verdicts_X12_twos rfl rfl rfl (by decide +kernel) ⟨Nat.le_of_ble_eq_true rfl, Nat.le_of_ble_eq_true rfl⟩) rfl hl.1 rfl (Nat.le_of_ble_eq_true rfl) dX12_verdicts_13 ⟨Nat.le_of_ble_eq_true rfl, Nat.le_of_ble_eq_true rfl⟩ (fun r9103 v H locs hr9103 hP hD hS => ?_)
    have hV := hr9103.1
    refine lv_goto (tgt := 21) hx hb dX12_verdicts_16 (by decide) ?_
    subst hAe
    exact W.iret (v := r9103) hx hb hr (fun t ht hW => ⟨⟨_, v, rfl, ⟨hV, hr9103.2.1, trivial⟩, by rw [ht]; exact hP, hD⟩, hS.F ht⟩) hS.2.2 dX12_verdicts_21
set_option maxRecDepth 20000 in
theorem ggX12_without_X12_all : GoodIn wsX12_without wsX12_all := goodIn_r _ [20, 1, 27, 28, 29, 30, 31, 32, 33, 34, 35, 36, 37, 38, 39, 40, 41, 42, 43, 44, 45, 46, 47, 48, 49, 50] rfl (by decide +kernel)
set_option maxRecDepth 20000 in
theorem gX12_without_X12_all : GoodIn wsX12_without (wsV RX12 70 RX12 yX12_all wsX12_all) := goodIn_app (goodIn_of _ (by decide +kernel)) ggX12_without_X12_all
set_option maxRecDepth 20000 in
theorem ggX12_without_X12_reckons : GoodIn wsX12_without wsX12_reckons := goodIn_r _ [14, 15, 2, 1, 16, 17, 18, 19, 6, 20, 21, 22, 23, 24, 25, 26, 27, 28, 29, 30, 31, 32, 33, 34, 35, 36, 37, 38, 39, 40, 41, 42, 43, 44, 45, 46, 47, 48, 49, 50] rfl (by decide +kernel)
set_option maxRecDepth 20000 in
theorem gX12_without_X12_reckons : GoodIn wsX12_without (wsV RX12 107 RX12 yX12_reckons wsX12_reckons) := goodIn_app (goodIn_of _ (by decide +kernel)) ggX12_without_X12_reckons
theorem dX12_without_11 : decode cX12_without 11 = .ok (.aload_n 0, 1) := by decide +kernel
theorem dX12_without_12 : decode cX12_without 12 = .ok (.invokevirtual 107, 3) := by decide +kernel
theorem dX12_without_15 : decode cX12_without 15 = .ok (.aload_n 0, 1) := by decide +kernel
theorem dX12_without_16 : decode cX12_without 16 = .ok (.getfield 63, 3) := by decide +kernel
theorem dX12_without_19 : decode cX12_without 19 = .ok (.iconst 1, 1) := by decide +kernel
theorem dX12_without_20 : decode cX12_without 20 = .ok (.isub, 1) := by decide +kernel
theorem dX12_without_21 : decode cX12_without 21 = .ok (.iconst 2, 1) := by decide +kernel
theorem dX12_without_22 : decode cX12_without 22 = .ok (.aload_n 0, 1) := by decide +kernel
theorem dX12_without_23 : decode cX12_without 23 = .ok (.getfield 17, 3) := by decide +kernel
theorem dX12_without_26 : decode cX12_without 26 = .ok (.aload_n 0, 1) := by decide +kernel
theorem dX12_without_27 : decode cX12_without 27 = .ok (.invokevirtual 70, 3) := by decide +kernel
theorem dX12_without_30 : decode cX12_without 30 = .ok (.iconst 1, 1) := by decide +kernel
theorem dX12_without_31 : decode cX12_without 31 = .ok (.iload_n 1, 1) := by decide +kernel
theorem dX12_without_32 : decode cX12_without 32 = .ok (.ishl, 1) := by decide +kernel
theorem dX12_without_33 : decode cX12_without 33 = .ok (.iconst (-1), 1) := by decide +kernel
theorem dX12_without_34 : decode cX12_without 34 = .ok (.ixor, 1) := by decide +kernel
theorem dX12_without_35 : decode cX12_without 35 = .ok (.iand, 1) := by decide +kernel
theorem dX12_without_36 : decode cX12_without 36 = .ok (.iaload, 1) := by decide +kernel
theorem dX12_without_37 : decode cX12_without 37 = .ok (.imul, 1) := by decide +kernel
theorem dX12_without_38 : decode cX12_without 38 = .ok (.isub, 1) := by decide +kernel
theorem dX12_without_39 : decode cX12_without 39 = .ok (.ireturn, 1) := by decide +kernel
set_option maxHeartbeats 4000000 in
set_option maxRecDepth 100000 in
theorem w_X12_without (l : Launch) (D : va_G) (cI cS : ClassId) (sz : Nat) (b : Nat → Nat) (L v0 : SU) (hL : TyL L) (hV : TyV v0) (x0 : Int32) : Met l yX12_without wsX12_without ({ frames := 3, cells := 0, slots := 0, locals := 120 }) (PQ D cI cS (wM cI b L v0) sz [.ref (b 0), .int x0]) (QF (S := SU) D (wM cI b L v0) (wM cI b L) sz (fun r u => TyV u ∧ Rg (-2147483648) 2147483647 r ∧ True)) 0 0 (va_A (wM cI b L v0) sz) := by
  refine Met.ofW (cc := cX12_without) (maxL := 2) (ret := (some .int)) (by decide) rfl ?_
  intro p e s m args below meth c s₁ B hml hv
  obtain ⟨rfl, hsz, hP, hKK, hD0⟩ := hv
  have hx := B.exec
  have hb := B.bytes
  have hr := B.returns
  have hts := atoms_spec (ws := wsX12_without) B.pre
  have hown : s.vm.findClass RX12 = some m.cls := findClass_of_methodNamed B.named
  have hlocks := B.notSynchronized
  have hK := hKK.1
  have hin12 : ∀ w ∈ wsX120, w ∈ wsX12_without := by decide +kernel
  subst hsz
  have hD := hD0.self (sz := s.heap.size)
  obtain ⟨A, hAe⟩ : ∃ A, A = va_A (wM cI b L v0) s.heap.size := ⟨_, rfl⟩
  rw [← hAe] at hD
  have hA : ∀ q : Nat, s.heap.size ≤ q → A q := fun q h => by rw [hAe]; exact Or.inr h
  have hS : va_S A s.heap s.heap [] := va_S.rf
  have hl := lv_entry ([.ref (b 0), .int x0]) (n := 2) (Nat.le_of_ble_eq_true rfl)
  rw [lg_entry_eq]
  generalize (lg_sl ([.ref (b 0), .int x0]) ++ List.replicate (2 - (lg_sl ([.ref (b 0), .int x0])).length) Slot.unset).toArray = ls at hl ⊢
  have hl : lv_has ls 2 [(0, .ref (b 0)), (1, .int x0)] := hl
  obtain ⟨v, hv9⟩ : ∃ v : SU, v = v0 := ⟨_, rfl⟩
  rw [← hv9] at hP hD hV
  refine lv_aload_n hx hb dX12_without_0 rfl (lv_at hl 0 rfl) ?_
  refine lv_iload_n hx hb dX12_without_1 rfl (lv_at hl 1 rfl) ?_
  refine wk_sv 0 (As := [.int x0]) (rest := []) ⟨hx, hb, hml, hown, hts⟩ (w_X12_isPoint l D cI cS b L v hL hV x0) hKK hP (ci := 12) rfl rfl (cwV 1 hts gX12_without_X12_isPoint rfl rfl rfl (by decide +kernel) ⟨Nat.le_of_ble_eq_true rfl, Nat.le_of_ble_eq_true rfl⟩) rfl hl.1 rfl (Nat.le_of_ble_eq_true rfl) dX12_without_2 ⟨Nat.le_of_ble_eq_true rfl, Nat.le_of_ble_eq_true rfl⟩ (fun r9119 hr9119 => ?_)
  refine lv_if_ne (tgt := 11) hx hb dX12_without_5 (by decide) (fun c9120 => ?_) (fun c9120 => ?_)
  · have g9121 : Rg 0 11 x0 := (hr9119.2.1 c9120)
    have g9122 : Rg 1 1 r9119 := rg_ne_lo (k := 0) hr9119.1 (by decide) c9120 (by decide)
    refine lv_aload_n hx hb dX12_without_11 rfl (lv_at hl 0 rfl) ?_
    refine wk_qv (wM cI b L) v (As := []) (rest := []) ⟨hx, hb, hml, hown, hts⟩ (w_X12_reckons l D cI cS _ b L v hL hV) hKK hP hD hS hA 0 (ci := 12) rfl rfl (cwV 0 hts gX12_without_X12_reckons rfl rfl rfl (by decide +kernel) ⟨Nat.le_of_ble_eq_true rfl, Nat.le_of_ble_eq_true rfl⟩) rfl hl.1 rfl (Nat.le_of_ble_eq_true rfl) dX12_without_12 ⟨Nat.le_of_ble_eq_true rfl, Nat.le_of_ble_eq_true rfl⟩ (fun v H locs hr9123 hP hD hS => ?_)
    have hV := hr9123.1
    refine lv_aload_n hx hb dX12_without_15 rfl (lv_at hl 0 rfl) ?_
    refine va_get (D := D) (ci := 12) (v := .int (L 0 0)) (C := RX12) (T := TX12) (N := 24) hx hb hts hin12 hown hK hP 0 rfl rfl 0 (by decide) (hts (.fieldLink RX12 63 "MissedPointsModel" "many" "I") (by decide +kernel)) (fun _ h9 => h9) rfl dX12_without_16 ?_
    refine lv_iconst (v := 1) hx hb dX12_without_19 (by decide) ?_
    refine wk_isub (e1 := (-1)) (f := 11) hx hb dX12_without_20 hL.1 (by decide : Rg 1 1 (1 : Int32)) (by decide) (fun r9124 hr9124 er9124 qr9124 => ?_)
    refine lv_iconst (v := 2) hx hb dX12_without_21 (by decide) ?_
    refine lv_aload_n hx hb dX12_without_22 rfl (lv_at hl 0 rfl) ?_
    refine va_get (D := D) (ci := 12) (v := .ref (b 2)) (C := RX12) (T := TX12) (N := 24) hx hb hts hin12 hown hK hP 0 rfl rfl 3 (by decide) (hts (.fieldLink RX12 17 "MissedPointsModel" "pairs" "[I") (by decide +kernel)) (fun _ h9 => h9) rfl dX12_without_23 ?_
    refine lv_aload_n hx hb dX12_without_26 rfl (lv_at hl 0 rfl) ?_
    refine wk_sv 0 (As := []) (rest := [.ref (b 2), .int 2, .int r9124]) ⟨hx, hb, hml, hown, hts⟩ (w_X12_all l D cI cS b L v hL hV) hKK hP (ci := 12) rfl rfl (cwV 0 hts gX12_without_X12_all rfl rfl rfl (by decide +kernel) ⟨Nat.le_of_ble_eq_true rfl, Nat.le_of_ble_eq_true rfl⟩) rfl hl.1 rfl (Nat.le_of_ble_eq_true rfl) dX12_without_27 ⟨Nat.le_of_ble_eq_true rfl, Nat.le_of_ble_eq_true rfl⟩ (fun r9125 hr9125 => ?_)
    refine lv_iconst (v := 1) hx hb dX12_without_30 (by decide) ?_
    refine lv_iload_n hx hb dX12_without_31 rfl (lv_at hl 1 rfl) ?_
    refine wk_ishl1 (f := 2048) hx hb dX12_without_32 g9121 (by decide) (fun r9126 hr9126 qr9126 => ?_)
    refine lv_iconst (v := (-1)) hx hb dX12_without_33 (by decide) ?_
    refine lv_ixor hx hb dX12_without_34 ?_
    refine wk_topP (P := fun r => r = r9126 ^^^ ((-1) : Int32)) rfl (fun r9127 qr9127 => ?_)
    refine wk_iandl hx hb dX12_without_35 hr9125.1 (by decide) (fun r9128 hr9128 qr9128 => ?_)
    refine wk_aldA hx hb hK hP 2 0 rfl rfl (rg_in hr9128 (by decide) (by decide)) dX12_without_36 (fun r9129 => ?_)
    refine lv_imul hx hb dX12_without_37 ?_
    refine wk_topP (P := fun r => r = (2 : Int32) * r9129) rfl (fun r9130 qr9130 => ?_)
    refine lv_isub hx hb dX12_without_38 ?_
    refine wk_topP (P := fun r => r = r9124 - r9130) rfl (fun r9131 qr9131 => ?_)
    subst hAe
    exact W.iret (v := r9131) hx hb hr (fun t ht hW => ⟨⟨_, v, rfl, ⟨hV, (rg_any r9131), trivial⟩, by rw [ht]; exact hP, hD⟩, hS.F ht⟩) hS.2.2 dX12_without_39
  · have zt9132 : (x0.toInt < 0 ∨ (L 0 0).toInt - 1 < x0.toInt) := hr9119.2.2 c9120
    have g9133 : Rg 0 0 r9119 := wk_eql hr9119.1 (by decide : Rg 0 0 (0 : Int32)) c9120 (by decide)
    refine lv_bipush (v := (-2)) hx hb dX12_without_8 (by decide) ?_
    subst hAe
    exact W.iret (v := (-2)) hx hb hr (fun t ht hW => ⟨⟨_, v, rfl, ⟨hV, (by decide : Rg (-2147483648) 2147483647 ((-2) : Int32)), trivial⟩, by rw [ht]; exact hP, hD⟩, hS.F ht⟩) hS.2.2 dX12_without_10
set_option maxHeartbeats 4000000 in
set_option maxRecDepth 100000 in
theorem w_X12_mends (l : Launch) (D : va_G) (cI cS : ClassId) (sz : Nat) (b : Nat → Nat) (L v0 : SU) (hL : TyL L) (hV : TyV v0) (x0 : Int32) : Met l yX12_mends wsX12_mends ({ frames := 4, cells := 0, slots := 0, locals := 160 }) (PQ D cI cS (wM cI b L v0) sz [.ref (b 0), .int x0]) (QF (S := SU) D (wM cI b L v0) (wM cI b L) sz (fun r u => TyV u ∧ Rg (-2147483648) 2147483647 r ∧ True)) 0 0 (va_A (wM cI b L v0) sz) := by
  refine Met.ofW (cc := cX12_mends) (maxL := 2) (ret := (some .int)) (by decide) rfl ?_
  intro p e s m args below meth c s₁ B hml hv
  obtain ⟨rfl, hsz, hP, hKK, hD0⟩ := hv
  have hx := B.exec
  have hb := B.bytes
  have hr := B.returns
  have hts := atoms_spec (ws := wsX12_mends) B.pre
  have hown : s.vm.findClass RX12 = some m.cls := findClass_of_methodNamed B.named
  have hlocks := B.notSynchronized
  have hK := hKK.1
  subst hsz
  have hD := hD0.self (sz := s.heap.size)
  obtain ⟨A, hAe⟩ : ∃ A, A = va_A (wM cI b L v0) s.heap.size := ⟨_, rfl⟩
  rw [← hAe] at hD
  have hA : ∀ q : Nat, s.heap.size ≤ q → A q := fun q h => by rw [hAe]; exact Or.inr h
  have hS : va_S A s.heap s.heap [] := va_S.rf
  have hl := lv_entry ([.ref (b 0), .int x0]) (n := 2) (Nat.le_of_ble_eq_true rfl)
  rw [lg_entry_eq]
  generalize (lg_sl ([.ref (b 0), .int x0]) ++ List.replicate (2 - (lg_sl ([.ref (b 0), .int x0])).length) Slot.unset).toArray = ls at hl ⊢
  have hl : lv_has ls 2 [(0, .ref (b 0)), (1, .int x0)] := hl
  obtain ⟨v, hv9⟩ : ∃ v : SU, v = v0 := ⟨_, rfl⟩
  rw [← hv9] at hP hD hV
  refine lv_iload_n hx hb dX12_mends_0 rfl (lv_at hl 1 rfl) ?_
  refine lv_iconst (v := 0) hx hb dX12_mends_1 (by decide) ?_
  refine lv_iconst (v := 1) hx hb dX12_mends_2 (by decide) ?_
  refine lz_ss (As := [.int x0, .int 0, .int 1]) (rest := []) ⟨hx, hb, hml, hown, hts⟩ (w_X12_in l D cI cS x0 (0 : Int32) (1 : Int32)) hKK (hP.sub (ws' := []) [] rfl) (va_cwS 3 hts gX12_mends_X12_in rfl rfl rfl (by decide +kernel) ⟨Nat.le_of_ble_eq_true rfl, Nat.le_of_ble_eq_true rfl⟩) rfl hl.1 rfl (Nat.le_of_ble_eq_true rfl) dX12_mends_3 ⟨Nat.le_of_ble_eq_true rfl, Nat.le_of_ble_eq_true rfl⟩ (fun r9142 hr9142 => ?_)
  refine lv_if_eq (tgt := 19) hx hb dX12_mends_6 (by decide) (fun c9143 => ?_) (fun c9143 => ?_)
  · have zt9144 : (x0.toInt < (0 : Int32).toInt ∨ (1 : Int32).toInt < x0.toInt) := hr9142.2.1 c9143
    have g9145 : Rg 0 0 r9142 := wk_eql hr9142.1 (by decide : Rg 0 0 (0 : Int32)) c9143 (by decide)
    refine lv_bipush (v := (-2)) hx hb dX12_mends_19 (by decide) ?_
    subst hAe
    exact W.iret (v := (-2)) hx hb hr (fun t ht hW => ⟨⟨_, v, rfl, ⟨hV, (by decide : Rg (-2147483648) 2147483647 ((-2) : Int32)), trivial⟩, by rw [ht]; exact hP, hD⟩, hS.F ht⟩) hS.2.2 dX12_mends_21
  · have zn9146 : (0 : Int32).toInt ≤ x0.toInt ∧ x0.toInt ≤ (1 : Int32).toInt := (hr9142.2.2 c9143)
    have g9147 : Rg 0 1 x0 := wk_in3 (rg_any x0) (by decide : Rg 0 0 (0 : Int32)) (by decide : Rg 1 1 (1 : Int32)) (hr9142.2.2 c9143) (by decide)
    have g9148 : Rg 1 1 r9142 := rg_ne_lo (k := 0) hr9142.1 (by decide) c9143 (by decide)
    refine lv_aload_n hx hb dX12_mends_9 rfl (lv_at hl 0 rfl) ?_
    refine lv_iconst (v := 0) hx hb dX12_mends_10 (by decide) ?_
    refine lv_iconst (v := 0) hx hb dX12_mends_11 (by decide) ?_
    refine lv_iload_n hx hb dX12_mends_12 rfl (lv_at hl 1 rfl) ?_
    refine wk_qi (wM cI b L) v (As := [.int 0, .int 0, .int x0]) (rest := []) ⟨hx, hb, hml, hown, hts⟩ (w_X12_twos l D cI cS _ b L v hL hV (0 : Int32) (0 : Int32) x0 (by decide : Rg 0 1 (0 : Int32))) hKK hP hD hS hA 0 (ci := 12) rfl rfl (cwV 3 hts gX12_mends_X12_twos rfl rfl rfl (by decide +kernel) ⟨Nat.le_of_ble_eq_true rfl, Nat.le_of_ble_eq_true rfl⟩) rfl hl.1 rfl (Nat.le_of_ble_eq_true rfl) dX12_mends_13 ⟨Nat.le_of_ble_eq_true rfl, Nat.le_of_ble_eq_true rfl⟩ (fun r9149 v H locs hr9149 hP hD hS => ?_)
    have hV := hr9149.1
    refine lv_goto (tgt := 21) hx hb dX12_mends_16 (by decide) ?_
    subst hAe
    exact W.iret (v := r9149) hx hb hr (fun t ht hW => ⟨⟨_, v, rfl, ⟨hV, hr9149.2.1, trivial⟩, by rw [ht]; exact hP, hD⟩, hS.F ht⟩) hS.2.2 dX12_mends_21
set_option maxHeartbeats 4000000 in
set_option maxRecDepth 100000 in
theorem w_X12_breaks (l : Launch) (D : va_G) (cI cS : ClassId) (sz : Nat) (b : Nat → Nat) (L v0 : SU) (hL : TyL L) (hV : TyV v0) (x0 : Int32) : Met l yX12_breaks wsX12_breaks ({ frames := 4, cells := 0, slots := 0, locals := 160 }) (PQ D cI cS (wM cI b L v0) sz [.ref (b 0), .int x0]) (QF (S := SU) D (wM cI b L v0) (wM cI b L) sz (fun r u => TyV u ∧ Rg (-2147483648) 2147483647 r ∧ True)) 0 0 (va_A (wM cI b L v0) sz) := by
  refine Met.ofW (cc := cX12_breaks) (maxL := 2) (ret := (some .int)) (by decide) rfl ?_
  intro p e s m args below meth c s₁ B hml hv
  obtain ⟨rfl, hsz, hP, hKK, hD0⟩ := hv
  have hx := B.exec
  have hb := B.bytes
  have hr := B.returns
  have hts := atoms_spec (ws := wsX12_breaks) B.pre
  have hown : s.vm.findClass RX12 = some m.cls := findClass_of_methodNamed B.named
  have hlocks := B.notSynchronized
  have hK := hKK.1
  subst hsz
  have hD := hD0.self (sz := s.heap.size)
  obtain ⟨A, hAe⟩ : ∃ A, A = va_A (wM cI b L v0) s.heap.size := ⟨_, rfl⟩
  rw [← hAe] at hD
  have hA : ∀ q : Nat, s.heap.size ≤ q → A q := fun q h => by rw [hAe]; exact Or.inr h
  have hS : va_S A s.heap s.heap [] := va_S.rf
  have hl := lv_entry ([.ref (b 0), .int x0]) (n := 2) (Nat.le_of_ble_eq_true rfl)
  rw [lg_entry_eq]
  generalize (lg_sl ([.ref (b 0), .int x0]) ++ List.replicate (2 - (lg_sl ([.ref (b 0), .int x0])).length) Slot.unset).toArray = ls at hl ⊢
  have hl : lv_has ls 2 [(0, .ref (b 0)), (1, .int x0)] := hl
  obtain ⟨v, hv9⟩ : ∃ v : SU, v = v0 := ⟨_, rfl⟩
  rw [← hv9] at hP hD hV
  refine lv_iload_n hx hb dX12_breaks_0 rfl (lv_at hl 1 rfl) ?_
  refine lv_iconst (v := 0) hx hb dX12_breaks_1 (by decide) ?_
  refine lv_iconst (v := 1) hx hb dX12_breaks_2 (by decide) ?_
  refine lz_ss (As := [.int x0, .int 0, .int 1]) (rest := []) ⟨hx, hb, hml, hown, hts⟩ (w_X12_in l D cI cS x0 (0 : Int32) (1 : Int32)) hKK (hP.sub (ws' := []) [] rfl) (va_cwS 3 hts gX12_breaks_X12_in rfl rfl rfl (by decide +kernel) ⟨Nat.le_of_ble_eq_true rfl, Nat.le_of_ble_eq_true rfl⟩) rfl hl.1 rfl (Nat.le_of_ble_eq_true rfl) dX12_breaks_3 ⟨Nat.le_of_ble_eq_true rfl, Nat.le_of_ble_eq_true rfl⟩ (fun r9158 hr9158 => ?_)
  refine lv_if_eq (tgt := 19) hx hb dX12_breaks_6 (by decide) (fun c9159 => ?_) (fun c9159 => ?_)
  · have zt9160 : (x0.toInt < (0 : Int32).toInt ∨ (1 : Int32).toInt < x0.toInt) := hr9158.2.1 c9159
    have g9161 : Rg 0 0 r9158 := wk_eql hr9158.1 (by decide : Rg 0 0 (0 : Int32)) c9159 (by decide)
    refine lv_bipush (v := (-2)) hx hb dX12_breaks_19 (by decide) ?_
    subst hAe
    exact W.iret (v := (-2)) hx hb hr (fun t ht hW => ⟨⟨_, v, rfl, ⟨hV, (by decide : Rg (-2147483648) 2147483647 ((-2) : Int32)), trivial⟩, by rw [ht]; exact hP, hD⟩, hS.F ht⟩) hS.2.2 dX12_breaks_21
  · have zn9162 : (0 : Int32).toInt ≤ x0.toInt ∧ x0.toInt ≤ (1 : Int32).toInt := (hr9158.2.2 c9159)
    have g9163 : Rg 0 1 x0 := wk_in3 (rg_any x0) (by decide : Rg 0 0 (0 : Int32)) (by decide : Rg 1 1 (1 : Int32)) (hr9158.2.2 c9159) (by decide)
    have g9164 : Rg 1 1 r9158 := rg_ne_lo (k := 0) hr9158.1 (by decide) c9159 (by decide)
    refine lv_aload_n hx hb dX12_breaks_9 rfl (lv_at hl 0 rfl) ?_
    refine lv_iconst (v := 1) hx hb dX12_breaks_10 (by decide) ?_
    refine lv_iconst (v := 2) hx hb dX12_breaks_11 (by decide) ?_
    refine lv_iload_n hx hb dX12_breaks_12 rfl (lv_at hl 1 rfl) ?_
    refine wk_qi (wM cI b L) v (As := [.int 1, .int 2, .int x0]) (rest := []) ⟨hx, hb, hml, hown, hts⟩ (w_X12_twos l D cI cS _ b L v hL hV (1 : Int32) (2 : Int32) x0 (by decide : Rg 0 1 (1 : Int32))) hKK hP hD hS hA 0 (ci := 12) rfl rfl (cwV 3 hts gX12_breaks_X12_twos rfl rfl rfl (by decide +kernel) ⟨Nat.le_of_ble_eq_true rfl, Nat.le_of_ble_eq_true rfl⟩) rfl hl.1 rfl (Nat.le_of_ble_eq_true rfl) dX12_breaks_13 ⟨Nat.le_of_ble_eq_true rfl, Nat.le_of_ble_eq_true rfl⟩ (fun r9165 v H locs hr9165 hP hD hS => ?_)
    have hV := hr9165.1
    refine lv_goto (tgt := 21) hx hb dX12_breaks_16 (by decide) ?_
    subst hAe
    exact W.iret (v := r9165) hx hb hr (fun t ht hW => ⟨⟨_, v, rfl, ⟨hV, hr9165.2.1, trivial⟩, by rw [ht]; exact hP, hD⟩, hS.F ht⟩) hS.2.2 dX12_breaks_21
set_option maxRecDepth 20000 in
theorem ggX12_wrongPairing_X12_has : GoodIn wsX12_wrongPairing wsX12_has := goodIn_r _ [20] rfl (by decide +kernel)
set_option maxRecDepth 20000 in
theorem gX12_wrongPairing_X12_has : GoodIn wsX12_wrongPairing (va_wsS RX12 59 yX12_has wsX12_has) := goodIn_app (goodIn_of _ (by decide +kernel)) ggX12_wrongPairing_X12_has
set_option maxRecDepth 20000 in
theorem ggX12_wrongPairing_X12_isPoint : GoodIn wsX12_wrongPairing wsX12_isPoint := goodIn_r _ [17, 3, 11, 12, 9, 13, 21, 22, 23, 24, 25, 26, 27, 28, 29, 30, 31, 32, 33, 34, 35, 36, 37, 38, 39, 40, 41, 42, 43, 44] rfl (by decide +kernel)
set_option maxRecDepth 20000 in
theorem gX12_wrongPairing_X12_isPoint : GoodIn wsX12_wrongPairing (wsV RX12 74 RX12 yX12_isPoint wsX12_isPoint) := goodIn_app (goodIn_of _ (by decide +kernel)) ggX12_wrongPairing_X12_isPoint
theorem dX12_wrongPairing_102 : decode cX12_wrongPairing 102 = .ok (.bipush (-3), 2) := by decide +kernel
theorem dX12_wrongPairing_104 : decode cX12_wrongPairing 104 = .ok (.ireturn, 1) := by decide +kernel
theorem dX12_wrongPairing_105 : decode cX12_wrongPairing 105 = .ok (.aload_n 0, 1) := by decide +kernel
theorem dX12_wrongPairing_106 : decode cX12_wrongPairing 106 = .ok (.getfield 26, 3) := by decide +kernel
theorem dX12_wrongPairing_109 : decode cX12_wrongPairing 109 = .ok (.iload_n 2, 1) := by decide +kernel
theorem dX12_wrongPairing_110 : decode cX12_wrongPairing 110 = .ok (.iload_n 3, 1) := by decide +kernel
theorem dX12_wrongPairing_111 : decode cX12_wrongPairing 111 = .ok (.iastore, 1) := by decide +kernel
theorem dX12_wrongPairing_112 : decode cX12_wrongPairing 112 = .ok (.iinc 2 1, 3) := by decide +kernel
theorem dX12_wrongPairing_115 : decode cX12_wrongPairing 115 = .ok (.goto (-74), 3) := by decide +kernel
theorem dX12_wrongPairing_118 : decode cX12_wrongPairing 118 = .ok (.iconst 0, 1) := by decide +kernel
theorem dX12_wrongPairing_119 : decode cX12_wrongPairing 119 = .ok (.ireturn, 1) := by decide +kernel
theorem dX12_wrongPairing_23 : decode cX12_wrongPairing 23 = .ok (.aload_n 0, 1) := by decide +kernel
theorem dX12_wrongPairing_24 : decode cX12_wrongPairing 24 = .ok (.getfield 41, 3) := by decide +kernel
theorem dX12_wrongPairing_27 : decode cX12_wrongPairing 27 = .ok (.iload_n 1, 1) := by decide +kernel
theorem dX12_wrongPairing_28 : decode cX12_wrongPairing 28 = .ok (.iaload, 1) := by decide +kernel
theorem dX12_wrongPairing_29 : decode cX12_wrongPairing 29 = .ok (.aload_n 0, 1) := by decide +kernel
theorem dX12_wrongPairing_30 : decode cX12_wrongPairing 30 = .ok (.getfield 63, 3) := by decide +kernel
theorem dX12_wrongPairing_33 : decode cX12_wrongPairing 33 = .ok (.if_icmp .eq 6, 3) := by decide +kernel
theorem dX12_wrongPairing_36 : decode cX12_wrongPairing 36 = .ok (.bipush (-3), 2) := by decide +kernel
theorem dX12_wrongPairing_38 : decode cX12_wrongPairing 38 = .ok (.ireturn, 1) := by decide +kernel
theorem dX12_wrongPairing_39 : decode cX12_wrongPairing 39 = .ok (.iconst 0, 1) := by decide +kernel
theorem dX12_wrongPairing_40 : decode cX12_wrongPairing 40 = .ok (.istore_n 2, 1) := by decide +kernel
theorem dX12_wrongPairing_41 : decode cX12_wrongPairing 41 = .ok (.iload_n 2, 1) := by decide +kernel
theorem dX12_wrongPairing_42 : decode cX12_wrongPairing 42 = .ok (.aload_n 0, 1) := by decide +kernel
theorem dX12_wrongPairing_43 : decode cX12_wrongPairing 43 = .ok (.getfield 63, 3) := by decide +kernel
theorem dX12_wrongPairing_46 : decode cX12_wrongPairing 46 = .ok (.if_icmp .ge 72, 3) := by decide +kernel
theorem dX12_wrongPairing_49 : decode cX12_wrongPairing 49 = .ok (.aload_n 0, 1) := by decide +kernel
theorem dX12_wrongPairing_50 : decode cX12_wrongPairing 50 = .ok (.getfield 44, 3) := by decide +kernel
theorem dX12_wrongPairing_53 : decode cX12_wrongPairing 53 = .ok (.bipush 40, 2) := by decide +kernel
theorem dX12_wrongPairing_55 : decode cX12_wrongPairing 55 = .ok (.iload_n 1, 1) := by decide +kernel
theorem dX12_wrongPairing_56 : decode cX12_wrongPairing 56 = .ok (.imul, 1) := by decide +kernel
theorem dX12_wrongPairing_57 : decode cX12_wrongPairing 57 = .ok (.iload_n 2, 1) := by decide +kernel
theorem dX12_wrongPairing_58 : decode cX12_wrongPairing 58 = .ok (.iadd, 1) := by decide +kernel
theorem dX12_wrongPairing_59 : decode cX12_wrongPairing 59 = .ok (.iaload, 1) := by decide +kernel
theorem dX12_wrongPairing_60 : decode cX12_wrongPairing 60 = .ok (.istore_n 3, 1) := by decide +kernel
theorem dX12_wrongPairing_61 : decode cX12_wrongPairing 61 = .ok (.iload_n 3, 1) := by decide +kernel
theorem dX12_wrongPairing_62 : decode cX12_wrongPairing 62 = .ok (.iconst (-1), 1) := by decide +kernel
theorem dX12_wrongPairing_63 : decode cX12_wrongPairing 63 = .ok (.if_icmp .eq 42, 3) := by decide +kernel
theorem dX12_wrongPairing_66 : decode cX12_wrongPairing 66 = .ok (.aload_n 0, 1) := by decide +kernel
theorem dX12_wrongPairing_67 : decode cX12_wrongPairing 67 = .ok (.iload_n 3, 1) := by decide +kernel
theorem dX12_wrongPairing_68 : decode cX12_wrongPairing 68 = .ok (.invokevirtual 74, 3) := by decide +kernel
theorem dX12_wrongPairing_71 : decode cX12_wrongPairing 71 = .ok (.ifCond .eq 31, 3) := by decide +kernel
theorem dX12_wrongPairing_74 : decode cX12_wrongPairing 74 = .ok (.aload_n 0, 1) := by decide +kernel
theorem dX12_wrongPairing_75 : decode cX12_wrongPairing 75 = .ok (.getfield 13, 3) := by decide +kernel
theorem dX12_wrongPairing_78 : decode cX12_wrongPairing 78 = .ok (.iload_n 2, 1) := by decide +kernel
theorem dX12_wrongPairing_79 : decode cX12_wrongPairing 79 = .ok (.iaload, 1) := by decide +kernel
theorem dX12_wrongPairing_80 : decode cX12_wrongPairing 80 = .ok (.iload_n 3, 1) := by decide +kernel
theorem dX12_wrongPairing_81 : decode cX12_wrongPairing 81 = .ok (.invokestatic 59, 3) := by decide +kernel
theorem dX12_wrongPairing_84 : decode cX12_wrongPairing 84 = .ok (.ifCond .eq 18, 3) := by decide +kernel
theorem dX12_wrongPairing_87 : decode cX12_wrongPairing 87 = .ok (.aload_n 0, 1) := by decide +kernel
theorem dX12_wrongPairing_88 : decode cX12_wrongPairing 88 = .ok (.getfield 44, 3) := by decide +kernel
theorem dX12_wrongPairing_91 : decode cX12_wrongPairing 91 = .ok (.bipush 40, 2) := by decide +kernel
theorem dX12_wrongPairing_93 : decode cX12_wrongPairing 93 = .ok (.iload_n 1, 1) := by decide +kernel
theorem dX12_wrongPairing_94 : decode cX12_wrongPairing 94 = .ok (.imul, 1) := by decide +kernel
theorem dX12_wrongPairing_95 : decode cX12_wrongPairing 95 = .ok (.iload_n 3, 1) := by decide +kernel
theorem dX12_wrongPairing_96 : decode cX12_wrongPairing 96 = .ok (.iadd, 1) := by decide +kernel
theorem dX12_wrongPairing_97 : decode cX12_wrongPairing 97 = .ok (.iaload, 1) := by decide +kernel
theorem dX12_wrongPairing_98 : decode cX12_wrongPairing 98 = .ok (.iload_n 2, 1) := by decide +kernel
theorem dX12_wrongPairing_99 : decode cX12_wrongPairing 99 = .ok (.if_icmp .eq 6, 3) := by decide +kernel
set_option maxHeartbeats 4000000 in
set_option maxRecDepth 100000 in
theorem w_X12_wrongPairing (l : Launch) (D : va_G) (cI cS : ClassId) (sz : Nat) (b : Nat → Nat) (L v0 : SU) (hL : TyL L) (hV : TyV v0) (x0 : Int32) : Met l yX12_wrongPairing wsX12_wrongPairing ({ frames := 2, cells := 0, slots := 0, locals := 80 }) (PQ D cI cS (wM cI b L v0) sz [.ref (b 0), .int x0]) (QF (S := SU) D (wM cI b L v0) (wM cI b L) sz (fun r u => TyV u ∧ Rg (-11) 0 r ∧ (r = 0 → Rg 0 3 x0))) 0 0 (va_A (wM cI b L v0) sz) := by
  refine Met.ofW (cc := cX12_wrongPairing) (maxL := 4) (ret := (some .int)) (by decide) rfl ?_
  intro p e s m args below meth c s₁ B hml hv
  obtain ⟨rfl, hsz, hP, hKK, hD0⟩ := hv
  have hx := B.exec
  have hb := B.bytes
  have hr := B.returns
  have hts := atoms_spec (ws := wsX12_wrongPairing) B.pre
  have hown : s.vm.findClass RX12 = some m.cls := findClass_of_methodNamed B.named
  have hlocks := B.notSynchronized
  have hK := hKK.1
  have hin12 : ∀ w ∈ wsX120, w ∈ wsX12_wrongPairing := by decide +kernel
  subst hsz
  have hD := hD0.self (sz := s.heap.size)
  obtain ⟨A, hAe⟩ : ∃ A, A = va_A (wM cI b L v0) s.heap.size := ⟨_, rfl⟩
  rw [← hAe] at hD
  have hA : ∀ q : Nat, s.heap.size ≤ q → A q := fun q h => by rw [hAe]; exact Or.inr h
  have hS : va_S A s.heap s.heap [] := va_S.rf
  have hl := lv_entry ([.ref (b 0), .int x0]) (n := 4) (Nat.le_of_ble_eq_true rfl)
  rw [lg_entry_eq]
  generalize (lg_sl ([.ref (b 0), .int x0]) ++ List.replicate (4 - (lg_sl ([.ref (b 0), .int x0])).length) Slot.unset).toArray = ls at hl ⊢
  have hl : lv_has ls 4 [(0, .ref (b 0)), (1, .int x0)] := hl
  obtain ⟨v, hv9⟩ : ∃ v : SU, v = v0 := ⟨_, rfl⟩
  rw [← hv9] at hP hD hV
  have lp41 : ∀ (n41 : Nat) (y41_l2 : Int32) (v : SU) (H : Heap) (locs : List Loc) (ls : Array Slot), Rg 0 3 x0 → Rg 0 12 y41_l2 → TyV v → va_P D cls (wM cI b L v) H → va_D A (wM cI b L v) → va_S A s.heap H locs → lv_has ls 4 [(0, .ref (b 0)), (1, .int x0), (2, .int y41_l2)] → 12 - y41_l2.toInt < (n41 : Int) → W p l e (headSpec wsX12_wrongPairing ({ frames := 2, cells := 0, slots := 0, locals := 80 })).room s m ([.ref (b 0), .int x0]).toArray below meth c H locs 0 0 (MQ below (QF (S := SU) D (wM cI b L v0) (wM cI b L) s.heap.size (fun r u => TyV u ∧ Rg (-11) 0 r ∧ (r = 0 → Rg 0 3 x0))) ([.ref (b 0), .int x0]).toArray s 0 0 (va_A (wM cI b L v0) s.heap.size)) (F0 m 41 ls []) := by
    intro n41
    induction n41 with
    | zero =>
      intro y41_l2 v H locs ls g41_l1 g41_l2 hV hP hD hS hl hm41
      exact absurd rfl (me_z g41_l2 hm41)
    | succ n41 ih41 =>
      intro y41_l2 v H locs ls g41_l1 g41_l2 hV hP hD hS hl hm41
      refine lv_iload_n hx hb dX12_wrongPairing_41 rfl (lv_at hl 2 rfl) ?_
      refine lv_aload_n hx hb dX12_wrongPairing_42 rfl (lv_at hl 0 rfl) ?_
      refine va_get (D := D) (ci := 12) (v := .int (L 0 0)) (C := RX12) (T := TX12) (N := 24) hx hb hts hin12 hown hK hP 0 rfl rfl 0 (by decide) (hts (.fieldLink RX12 63 "MissedPointsModel" "many" "I") (by decide +kernel)) (fun _ h9 => h9) rfl dX12_wrongPairing_43 ?_
      refine lv_icmp_ge (tgt := 118) hx hb dX12_wrongPairing_46 (by decide) (fun c9517 => ?_) (fun c9517 => ?_)
      · refine lv_iconst (v := 0) hx hb dX12_wrongPairing_118 (by decide) ?_
        subst hAe
        exact W.iret (v := 0) hx hb hr (fun t ht hW => ⟨⟨_, v, rfl, ⟨hV, (by decide : Rg (-11) 0 (0 : Int32)), fun _ => g41_l1⟩, by rw [ht]; exact hP, hD⟩, hS.F ht⟩) hS.2.2 dX12_wrongPairing_119
      · have g9518 : Rg 1 12 (L 0 0) := rg_ltr g41_l2 hL.1 (rg_nle c9517) (by decide)
        have g9519 : Rg 0 11 y41_l2 := rg_ltl g41_l2 hL.1 (rg_nle c9517) (by decide)
        refine lv_aload_n hx hb dX12_wrongPairing_49 rfl (lv_at hl 0 rfl) ?_
        refine va_get (D := D) (ci := 12) (v := .ref (b 11)) (C := RX12) (T := TX12) (N := 24) hx hb hts hin12 hown hK hP 0 rfl rfl 18 (by decide) (hts (.fieldLink RX12 44 "MissedPointsModel" "items" "[I") (by decide +kernel)) (fun _ h9 => h9) rfl dX12_wrongPairing_50 ?_
        refine lv_bipush (v := 40) hx hb dX12_wrongPairing_53 (by decide) ?_
        refine lv_iload_n hx hb dX12_wrongPairing_55 rfl (lv_at hl 1 rfl) ?_
        refine wk_imul (f := 120) hx hb dX12_wrongPairing_56 (by decide : Rg 0 40 (40 : Int32)) g41_l1 (by decide) (fun r9520 hr9520 er9520 qr9520 => ?_)
        refine lv_iload_n hx hb dX12_wrongPairing_57 rfl (lv_at hl 2 rfl) ?_
        refine wk_iadd (e1 := 0) (f := 131) hx hb dX12_wrongPairing_58 hr9520 g9519 (by decide) (fun r9521 hr9521 er9521 qr9521 => ?_)
        refine wk_aldA hx hb hK hP 11 0 rfl rfl (rg_in hr9521 (by decide) (by decide)) dX12_wrongPairing_59 (fun r9522 => ?_)
        refine lv_istore_n (lv' := [(3, .int r9522), (0, .ref (b 0)), (1, .int x0), (2, .int y41_l2)]) hx hb dX12_wrongPairing_60 rfl hl (by decide) rfl (fun ls hl => ?_)
        refine lv_iload_n hx hb dX12_wrongPairing_61 rfl (lv_at hl 0 rfl) ?_
        refine lv_iconst (v := (-1)) hx hb dX12_wrongPairing_62 (by decide) ?_
        refine lv_icmp_eq (tgt := 105) hx hb dX12_wrongPairing_63 (by decide) (fun c9523 => ?_) (fun c9523 => ?_)
        · have g9524 : Rg (-1) (-1) r9522 := wk_eql (rg_any r9522) (by decide : Rg (-1) (-1) ((-1) : Int32)) c9523 (by decide)
          refine lv_aload_n hx hb dX12_wrongPairing_105 rfl (lv_at hl 1 rfl) ?_
          refine va_get (D := D) (ci := 12) (v := .ref (b 5)) (C := RX12) (T := TX12) (N := 24) hx hb hts hin12 hown hK hP 0 rfl rfl 6 (by decide) (hts (.fieldLink RX12 26 "MissedPointsModel" "mates" "[I") (by decide +kernel)) (fun _ h9 => h9) rfl dX12_wrongPairing_106 ?_
          refine lv_iload_n hx hb dX12_wrongPairing_109 rfl (lv_at hl 3 rfl) ?_
          refine lv_iload_n hx hb dX12_wrongPairing_110 rfl (lv_at hl 0 rfl) ?_
          refine ms_5 hx hb hK hP hD hS hV rfl (rg_in g9519 (by decide) (by decide)) (show Rg (-1) 11 r9522 from rg_w g9524 (by decide) (by decide)) dX12_wrongPairing_111 (fun v H locs hV ev9525 hP hD hS => ?_)
          refine wk_iinc (lv' := fun r => [(2, .int r), (3, .int r9522), (0, .ref (b 0)), (1, .int x0)]) (e1 := 1) (f := 12) hx hb dX12_wrongPairing_112 hl (k := 3) rfl (by decide) g9519 (by decide) (fun _ => rfl) (fun r9526 ls hr9526 er9526 hl => ?_)
          refine lv_goto (tgt := 41) hx hb dX12_wrongPairing_115 (by decide) ?_
          exact ih41 r9526 v _ _ ls g41_l1 (show Rg 0 12 r9526 from rg_w hr9526 (by decide) (by decide)) hV hP hD hS (lv_sub (l' := [(0, .ref (b 0)), (1, .int x0), (2, .int r9526)]) hl [2, 3, 0] rfl) (me_up hm41 er9526 (by decide))
        · refine lv_aload_n hx hb dX12_wrongPairing_66 rfl (lv_at hl 1 rfl) ?_
          refine lv_iload_n hx hb dX12_wrongPairing_67 rfl (lv_at hl 0 rfl) ?_
          refine wk_sv 0 (As := [.int r9522]) (rest := []) ⟨hx, hb, hml, hown, hts⟩ (w_X12_isPoint l D cI cS b L v hL hV r9522) hKK hP (ci := 12) rfl rfl (cwV 1 hts gX12_wrongPairing_X12_isPoint rfl rfl rfl (by decide +kernel) ⟨Nat.le_of_ble_eq_true rfl, Nat.le_of_ble_eq_true rfl⟩) rfl hl.1 rfl (Nat.le_of_ble_eq_true rfl) dX12_wrongPairing_68 ⟨Nat.le_of_ble_eq_true rfl, Nat.le_of_ble_eq_true rfl⟩ (fun r9527 hr9527 => ?_)
          refine lv_if_eq (tgt := 102) hx hb dX12_wrongPairing_71 (by decide) (fun c9528 => ?_) (fun c9528 => ?_)
          · have zt9529 : (r9522.toInt < 0 ∨ (L 0 0).toInt - 1 < r9522.toInt) := hr9527.2.2 c9528
            have g9530 : Rg 0 0 r9527 := wk_eql hr9527.1 (by decide : Rg 0 0 (0 : Int32)) c9528 (by decide)
            refine lv_bipush (v := (-3)) hx hb dX12_wrongPairing_102 (by decide) ?_
            subst hAe
            exact W.iret (v := (-3)) hx hb hr (fun t ht hW => ⟨⟨_, v, rfl, ⟨hV, (by decide : Rg (-11) 0 ((-3) : Int32)), fun h9 => absurd h9 (by decide)⟩, by rw [ht]; exact hP, hD⟩, hS.F ht⟩) hS.2.2 dX12_wrongPairing_104
          · have g9531 : Rg 0 11 r9522 := (hr9527.2.1 c9528)
            have g9532 : Rg 1 1 r9527 := rg_ne_lo (k := 0) hr9527.1 (by decide) c9528 (by decide)
            refine lv_aload_n hx hb dX12_wrongPairing_74 rfl (lv_at hl 1 rfl) ?_
            refine va_get (D := D) (ci := 12) (v := .ref (b 1)) (C := RX12) (T := TX12) (N := 24) hx hb hts hin12 hown hK hP 0 rfl rfl 2 (by decide) (hts (.fieldLink RX12 13 "MissedPointsModel" "near" "[I") (by decide +kernel)) (fun _ h9 => h9) rfl dX12_wrongPairing_75 ?_
            refine lv_iload_n hx hb dX12_wrongPairing_78 rfl (lv_at hl 3 rfl) ?_
            refine wk_ald hx hb hK hP 1 0 rfl rfl (rg_in g9519 (by decide) (by decide)) dX12_wrongPairing_79 hV.1 (fun r9533 hr9533 => ?_)
            refine lv_iload_n hx hb dX12_wrongPairing_80 rfl (lv_at hl 0 rfl) ?_
            refine lz_ss (As := [.int r9533, .int r9522]) (rest := []) ⟨hx, hb, hml, hown, hts⟩ (w_X12_has l D cI cS r9533 r9522) hKK (hP.sub (ws' := []) [] rfl) (va_cwS 2 hts gX12_wrongPairing_X12_has rfl rfl rfl (by decide +kernel) ⟨Nat.le_of_ble_eq_true rfl, Nat.le_of_ble_eq_true rfl⟩) rfl hl.1 rfl (Nat.le_of_ble_eq_true rfl) dX12_wrongPairing_81 ⟨Nat.le_of_ble_eq_true rfl, Nat.le_of_ble_eq_true rfl⟩ (fun r9534 hr9534 => ?_)
            refine lv_if_eq (tgt := 102) hx hb dX12_wrongPairing_84 (by decide) (fun c9535 => ?_) (fun c9535 => ?_)
            · have g9536 : Rg 0 0 r9534 := wk_eql hr9534.1 (by decide : Rg 0 0 (0 : Int32)) c9535 (by decide)
              refine lv_bipush (v := (-3)) hx hb dX12_wrongPairing_102 (by decide) ?_
              subst hAe
              exact W.iret (v := (-3)) hx hb hr (fun t ht hW => ⟨⟨_, v, rfl, ⟨hV, (by decide : Rg (-11) 0 ((-3) : Int32)), fun h9 => absurd h9 (by decide)⟩, by rw [ht]; exact hP, hD⟩, hS.F ht⟩) hS.2.2 dX12_wrongPairing_104
            · have g9537 : Rg 1 1 r9534 := rg_ne_lo (k := 0) hr9534.1 (by decide) c9535 (by decide)
              refine lv_aload_n hx hb dX12_wrongPairing_87 rfl (lv_at hl 1 rfl) ?_
              refine va_get (D := D) (ci := 12) (v := .ref (b 11)) (C := RX12) (T := TX12) (N := 24) hx hb hts hin12 hown hK hP 0 rfl rfl 18 (by decide) (hts (.fieldLink RX12 44 "MissedPointsModel" "items" "[I") (by decide +kernel)) (fun _ h9 => h9) rfl dX12_wrongPairing_88 ?_
              refine lv_bipush (v := 40) hx hb dX12_wrongPairing_91 (by decide) ?_
              refine lv_iload_n hx hb dX12_wrongPairing_93 rfl (lv_at hl 2 rfl) ?_
              refine wk_imul (f := 120) hx hb dX12_wrongPairing_94 (by decide : Rg 0 40 (40 : Int32)) g41_l1 (by decide) (fun r9538 hr9538 er9538 qr9538 => ?_)
              refine lv_iload_n hx hb dX12_wrongPairing_95 rfl (lv_at hl 0 rfl) ?_
              refine wk_iadd (e1 := 0) (f := 131) hx hb dX12_wrongPairing_96 hr9538 g9531 (by decide) (fun r9539 hr9539 er9539 qr9539 => ?_)
              refine wk_aldA hx hb hK hP 11 0 rfl rfl (rg_in hr9539 (by decide) (by decide)) dX12_wrongPairing_97 (fun r9540 => ?_)
              refine lv_iload_n hx hb dX12_wrongPairing_98 rfl (lv_at hl 3 rfl) ?_
              refine lv_icmp_eq (tgt := 105) hx hb dX12_wrongPairing_99 (by decide) (fun c9541 => ?_) (fun c9541 => ?_)
              · have g9542 : Rg 0 11 r9540 := wk_eql (rg_any r9540) g9519 c9541 (by decide)
                refine lv_aload_n hx hb dX12_wrongPairing_105 rfl (lv_at hl 1 rfl) ?_
                refine va_get (D := D) (ci := 12) (v := .ref (b 5)) (C := RX12) (T := TX12) (N := 24) hx hb hts hin12 hown hK hP 0 rfl rfl 6 (by decide) (hts (.fieldLink RX12 26 "MissedPointsModel" "mates" "[I") (by decide +kernel)) (fun _ h9 => h9) rfl dX12_wrongPairing_106 ?_
                refine lv_iload_n hx hb dX12_wrongPairing_109 rfl (lv_at hl 3 rfl) ?_
                refine lv_iload_n hx hb dX12_wrongPairing_110 rfl (lv_at hl 0 rfl) ?_
                refine ms_5 hx hb hK hP hD hS hV rfl (rg_in g9519 (by decide) (by decide)) (show Rg (-1) 11 r9522 from rg_w g9531 (by decide) (by decide)) dX12_wrongPairing_111 (fun v H locs hV ev9543 hP hD hS => ?_)
                refine wk_iinc (lv' := fun r => [(2, .int r), (3, .int r9522), (0, .ref (b 0)), (1, .int x0)]) (e1 := 1) (f := 12) hx hb dX12_wrongPairing_112 hl (k := 3) rfl (by decide) g9519 (by decide) (fun _ => rfl) (fun r9544 ls hr9544 er9544 hl => ?_)
                refine lv_goto (tgt := 41) hx hb dX12_wrongPairing_115 (by decide) ?_
                exact ih41 r9544 v _ _ ls g41_l1 (show Rg 0 12 r9544 from rg_w hr9544 (by decide) (by decide)) hV hP hD hS (lv_sub (l' := [(0, .ref (b 0)), (1, .int x0), (2, .int r9544)]) hl [2, 3, 0] rfl) (me_up hm41 er9544 (by decide))
              · refine lv_bipush (v := (-3)) hx hb dX12_wrongPairing_102 (by decide) ?_
                subst hAe
                exact W.iret (v := (-3)) hx hb hr (fun t ht hW => ⟨⟨_, v, rfl, ⟨hV, (by decide : Rg (-11) 0 ((-3) : Int32)), fun h9 => absurd h9 (by decide)⟩, by rw [ht]; exact hP, hD⟩, hS.F ht⟩) hS.2.2 dX12_wrongPairing_104
  refine lv_iload_n hx hb dX12_wrongPairing_0 rfl (lv_at hl 1 rfl) ?_
  refine lz_ss (As := [.int x0]) (rest := []) ⟨hx, hb, hml, hown, hts⟩ (w_X12_isSheet l D cI cS x0) hKK (hP.sub (ws' := []) [] rfl) (va_cwS 1 hts gX12_wrongPairing_X12_isSheet rfl rfl rfl (by decide +kernel) ⟨Nat.le_of_ble_eq_true rfl, Nat.le_of_ble_eq_true rfl⟩) rfl hl.1 rfl (Nat.le_of_ble_eq_true rfl) dX12_wrongPairing_1 ⟨Nat.le_of_ble_eq_true rfl, Nat.le_of_ble_eq_true rfl⟩ (fun r9545 hr9545 => ?_)
  refine lv_if_ne (tgt := 10) hx hb dX12_wrongPairing_4 (by decide) (fun c9546 => ?_) (fun c9546 => ?_)
  · have g9547 : Rg 0 3 x0 := (hr9545.2.1 c9546)
    have g9548 : Rg 1 1 r9545 := rg_ne_lo (k := 0) hr9545.1 (by decide) c9546 (by decide)
    refine lv_aload_n hx hb dX12_wrongPairing_10 rfl (lv_at hl 0 rfl) ?_
    refine va_get (D := D) (ci := 12) (v := .ref (b 9)) (C := RX12) (T := TX12) (N := 24) hx hb hts hin12 hown hK hP 0 rfl rfl 16 (by decide) (hts (.fieldLink RX12 38 "MissedPointsModel" "sort" "[I") (by decide +kernel)) (fun _ h9 => h9) rfl dX12_wrongPairing_11 ?_
    refine lv_iload_n hx hb dX12_wrongPairing_14 rfl (lv_at hl 1 rfl) ?_
    refine va_iald hx hb hK hP 9 0 rfl rfl (rg_in g9547 (by decide) (by decide)) dX12_wrongPairing_15 ?_
    refine lz_top (y := (L 9 x0.toNatClampNeg)) rfl ?_
    refine lv_iconst (v := (-1)) hx hb dX12_wrongPairing_16 (by decide) ?_
    refine lv_icmp_ne (tgt := 23) hx hb dX12_wrongPairing_17 (by decide) (fun c9550 => ?_) (fun c9550 => ?_)
    · have g9551 : Rg 0 1 (L 9 x0.toNatClampNeg) := rg_ne_lo (k := (-1)) (hL.2.2.1 x0.toNatClampNeg) (by decide) c9550 (by decide)
      refine lv_aload_n hx hb dX12_wrongPairing_23 rfl (lv_at hl 0 rfl) ?_
      refine va_get (D := D) (ci := 12) (v := .ref (b 10)) (C := RX12) (T := TX12) (N := 24) hx hb hts hin12 hown hK hP 0 rfl rfl 17 (by decide) (hts (.fieldLink RX12 41 "MissedPointsModel" "size" "[I") (by decide +kernel)) (fun _ h9 => h9) rfl dX12_wrongPairing_24 ?_
      refine lv_iload_n hx hb dX12_wrongPairing_27 rfl (lv_at hl 1 rfl) ?_
      refine va_iald hx hb hK hP 10 0 rfl rfl (rg_in g9547 (by decide) (by decide)) dX12_wrongPairing_28 ?_
      refine lz_top (y := (L 10 x0.toNatClampNeg)) rfl ?_
      refine lv_aload_n hx hb dX12_wrongPairing_29 rfl (lv_at hl 0 rfl) ?_
      refine va_get (D := D) (ci := 12) (v := .int (L 0 0)) (C := RX12) (T := TX12) (N := 24) hx hb hts hin12 hown hK hP 0 rfl rfl 0 (by decide) (hts (.fieldLink RX12 63 "MissedPointsModel" "many" "I") (by decide +kernel)) (fun _ h9 => h9) rfl dX12_wrongPairing_30 ?_
      refine lv_icmp_eq (tgt := 39) hx hb dX12_wrongPairing_33 (by decide) (fun c9553 => ?_) (fun c9553 => ?_)
      · have g9554 : Rg 0 12 (L 10 x0.toNatClampNeg) := wk_eql (hL.2.2.2.1 x0.toNatClampNeg) hL.1 c9553 (by decide)
        refine lv_iconst (v := 0) hx hb dX12_wrongPairing_39 (by decide) ?_
        refine lv_istore_n (lv' := [(2, .int 0), (0, .ref (b 0)), (1, .int x0)]) hx hb dX12_wrongPairing_40 rfl hl (by decide) rfl (fun ls hl => ?_)
        exact lp41 13 (0 : Int32) v _ _ ls g9547 (by decide : Rg 0 12 (0 : Int32)) hV hP hD hS (lv_sub (l' := [(0, .ref (b 0)), (1, .int x0), (2, .int 0)]) hl [1, 2, 0] rfl) (me_i (by decide : Rg 0 12 (0 : Int32)) (by decide))
      · refine lv_bipush (v := (-3)) hx hb dX12_wrongPairing_36 (by decide) ?_
        subst hAe
        exact W.iret (v := (-3)) hx hb hr (fun t ht hW => ⟨⟨_, v, rfl, ⟨hV, (by decide : Rg (-11) 0 ((-3) : Int32)), fun h9 => absurd h9 (by decide)⟩, by rw [ht]; exact hP, hD⟩, hS.F ht⟩) hS.2.2 dX12_wrongPairing_38
    · have g9555 : Rg (-1) (-1) (L 9 x0.toNatClampNeg) := wk_eql (hL.2.2.1 x0.toNatClampNeg) (by decide : Rg (-1) (-1) ((-1) : Int32)) c9550 (by decide)
      refine lv_bipush (v := (-11)) hx hb dX12_wrongPairing_20 (by decide) ?_
      subst hAe
      exact W.iret (v := (-11)) hx hb hr (fun t ht hW => ⟨⟨_, v, rfl, ⟨hV, (by decide : Rg (-11) 0 ((-11) : Int32)), fun h9 => absurd h9 (by decide)⟩, by rw [ht]; exact hP, hD⟩, hS.F ht⟩) hS.2.2 dX12_wrongPairing_22
  · have zt9556 : (x0.toInt < 0 ∨ 3 < x0.toInt) := hr9545.2.2 c9546
    have g9557 : Rg 0 0 r9545 := wk_eql hr9545.1 (by decide : Rg 0 0 (0 : Int32)) c9546 (by decide)
    refine lv_bipush (v := (-2)) hx hb dX12_wrongPairing_7 (by decide) ?_
    subst hAe
    exact W.iret (v := (-2)) hx hb hr (fun t ht hW => ⟨⟨_, v, rfl, ⟨hV, (by decide : Rg (-11) 0 ((-2) : Int32)), fun h9 => absurd h9 (by decide)⟩, by rw [ht]; exact hP, hD⟩, hS.F ht⟩) hS.2.2 dX12_wrongPairing_9
theorem dX12_isTold_10 : decode cX12_isTold 10 = .ok (.iconst 1, 1) := by decide +kernel
theorem dX12_isTold_11 : decode cX12_isTold 11 = .ok (.goto 14, 3) := by decide +kernel
theorem dX12_isTold_20 : decode cX12_isTold 20 = .ok (.iconst 0, 1) := by decide +kernel
theorem dX12_isTold_21 : decode cX12_isTold 21 = .ok (.goto 4, 3) := by decide +kernel
set_option maxHeartbeats 4000000 in
set_option maxRecDepth 100000 in
theorem w_X12_isTold (l : Launch) (D : va_G) (cI cS : ClassId) (sz : Nat) (b : Nat → Nat) (L v0 : SU) (hL : TyL L) (hV : TyV v0) (x0 : Int32) : Met l yX12_isTold wsX12_isTold ({ frames := 3, cells := 0, slots := 0, locals := 120 }) (PQ D cI cS (wM cI b L v0) sz [.ref (b 0), .int x0]) (QF (S := SU) D (wM cI b L v0) (wM cI b L) sz (fun r u => TyV u ∧ Rg (-11) 1 r ∧ True)) 0 0 (va_A (wM cI b L v0) sz) := by
  refine Met.ofW (cc := cX12_isTold) (maxL := 3) (ret := (some .int)) (by decide) rfl ?_
  intro p e s m args below meth c s₁ B hml hv
  obtain ⟨rfl, hsz, hP, hKK, hD0⟩ := hv
  have hx := B.exec
  have hb := B.bytes
  have hr := B.returns
  have hts := atoms_spec (ws := wsX12_isTold) B.pre
  have hown : s.vm.findClass RX12 = some m.cls := findClass_of_methodNamed B.named
  have hlocks := B.notSynchronized
  have hK := hKK.1
  subst hsz
  have hD := hD0.self (sz := s.heap.size)
  obtain ⟨A, hAe⟩ : ∃ A, A = va_A (wM cI b L v0) s.heap.size := ⟨_, rfl⟩
  rw [← hAe] at hD
  have hA : ∀ q : Nat, s.heap.size ≤ q → A q := fun q h => by rw [hAe]; exact Or.inr h
  have hS : va_S A s.heap s.heap [] := va_S.rf
  have hl := lv_entry ([.ref (b 0), .int x0]) (n := 3) (Nat.le_of_ble_eq_true rfl)
  rw [lg_entry_eq]
  generalize (lg_sl ([.ref (b 0), .int x0]) ++ List.replicate (3 - (lg_sl ([.ref (b 0), .int x0])).length) Slot.unset).toArray = ls at hl ⊢
  have hl : lv_has ls 3 [(0, .ref (b 0)), (1, .int x0)] := hl
  obtain ⟨v, hv9⟩ : ∃ v : SU, v = v0 := ⟨_, rfl⟩
  rw [← hv9] at hP hD hV
  refine lv_aload_n hx hb dX12_isTold_0 rfl (lv_at hl 0 rfl) ?_
  refine lv_iload_n hx hb dX12_isTold_1 rfl (lv_at hl 1 rfl) ?_
  refine wk_qi (wM cI b L) v (As := [.int x0]) (rest := []) ⟨hx, hb, hml, hown, hts⟩ (w_X12_wrongPairing l D cI cS _ b L v hL hV x0) hKK hP hD hS hA 0 (ci := 12) rfl rfl (cwV 1 hts gX12_isTold_X12_wrongPairing rfl rfl rfl (by decide +kernel) ⟨Nat.le_of_ble_eq_true rfl, Nat.le_of_ble_eq_true rfl⟩) rfl hl.1 rfl (Nat.le_of_ble_eq_true rfl) dX12_isTold_2 ⟨Nat.le_of_ble_eq_true rfl, Nat.le_of_ble_eq_true rfl⟩ (fun r9565 v H locs hr9565 hP hD hS => ?_)
  have hV := hr9565.1
  refine lv_istore_n (lv' := [(2, .int r9565), (0, .ref (b 0)), (1, .int x0)]) hx hb dX12_isTold_5 rfl hl (by decide) rfl (fun ls hl => ?_)
  refine lv_iload_n hx hb dX12_isTold_6 rfl (lv_at hl 0 rfl) ?_
  refine lv_if_ne (tgt := 14) hx hb dX12_isTold_7 (by decide) (fun c9566 => ?_) (fun c9566 => ?_)
  · have g9567 : Rg (-11) (-1) r9565 := rg_ne_hi (k := 0) hr9565.2.1 (by decide) c9566 (by decide)
    refine lv_iload_n hx hb dX12_isTold_14 rfl (lv_at hl 0 rfl) ?_
    refine lv_bipush (v := (-3)) hx hb dX12_isTold_15 (by decide) ?_
    refine lv_icmp_ne (tgt := 24) hx hb dX12_isTold_17 (by decide) (fun c9568 => ?_) (fun c9568 => ?_)
    · refine lv_iload_n hx hb dX12_isTold_24 rfl (lv_at hl 0 rfl) ?_
      subst hAe
      exact W.iret (v := r9565) hx hb hr (fun t ht hW => ⟨⟨_, v, rfl, ⟨hV, (show Rg (-11) 1 r9565 from rg_w g9567 (by decide) (by decide)), trivial⟩, by rw [ht]; exact hP, hD⟩, hS.F ht⟩) hS.2.2 dX12_isTold_25
    · have g9569 : Rg (-3) (-3) r9565 := wk_eql g9567 (by decide : Rg (-3) (-3) ((-3) : Int32)) c9568 (by decide)
      refine lv_iconst (v := 0) hx hb dX12_isTold_20 (by decide) ?_
      refine lv_goto (tgt := 25) hx hb dX12_isTold_21 (by decide) ?_
      subst hAe
      exact W.iret (v := 0) hx hb hr (fun t ht hW => ⟨⟨_, v, rfl, ⟨hV, (by decide : Rg (-11) 1 (0 : Int32)), trivial⟩, by rw [ht]; exact hP, hD⟩, hS.F ht⟩) hS.2.2 dX12_isTold_25
  · have g9570 : Rg 0 3 x0 := (hr9565.2.2 c9566)
    have g9571 : Rg 0 0 r9565 := wk_eql hr9565.2.1 (by decide : Rg 0 0 (0 : Int32)) c9566 (by decide)
    refine lv_iconst (v := 1) hx hb dX12_isTold_10 (by decide) ?_
    refine lv_goto (tgt := 25) hx hb dX12_isTold_11 (by decide) ?_
    subst hAe
    exact W.iret (v := 1) hx hb hr (fun t ht hW => ⟨⟨_, v, rfl, ⟨hV, (by decide : Rg (-11) 1 (1 : Int32)), trivial⟩, by rw [ht]; exact hP, hD⟩, hS.F ht⟩) hS.2.2 dX12_isTold_25
