theorem sL_id {L : SU} {x : Int32} (h : L 0 0 = x) : sU L 0 (upd (L 0) 0 x) = L := by
  funext k j
  show (cond (Nat.beq k 0) (upd (L 0) 0 x) (L k)) j = L k j
  by_cases e : k = 0
  · subst e
    show upd (L 0) 0 x j = L 0 j
    by_cases z : j = 0
    · rw [z, upd_eq, h]
    · rw [upd_ne z]
  · rw [show Nat.beq k 0 = false from by cases k with | zero => exact absurd rfl e | succ n => rfl]
    rfl
set_option maxHeartbeats 4000000 in
set_option maxRecDepth 100000 in
theorem w_X12_greatest_D (l : Launch) (D : va_G) (cI cS : ClassId) (sz : Nat) (b : Nat → Nat) (L v0 : SU) (hL : TyL L) (hV : TyV v0) (k : Nat) (hk : k ≤ 12) (em : L 0 0 = nI k) (hlo : Lo k (v0 1)) (hsy : Sym k (v0 1)) : Met l yX12_greatest wsX12_greatest ({ frames := 3, cells := 0, slots := 0, locals := 120 }) (PQ D cI cS (wM cI b L v0) sz [.ref (b 0)]) (QF (S := SU) D (wM cI b L v0) (wM cI b L) sz (fun r u => TyV u ∧ Rg (-2147483648) 2147483647 r ∧ (r = nI (nuS k (v0 1) (2 ^ k - 1)) ∧ u 1 = v0 1))) 0 0 (va_A (wM cI b L v0) sz) := by
  refine Met.ofW (cc := cX12_greatest) (maxL := 1) (ret := (some .int)) (by decide) rfl ?_
  intro p e s m args below meth c s₁ B hml hv
  obtain ⟨rfl, hsz, hP, hKK, hD0⟩ := hv
  have hx := B.exec
  have hb := B.bytes
  have hr := B.returns
  have hts := atoms_spec (ws := wsX12_greatest) B.pre
  have hown : s.vm.findClass RX12 = some m.cls := findClass_of_methodNamed B.named
  have hlocks := B.notSynchronized
  have hK := hKK.1
  have hin12 : ∀ w ∈ wsX120, w ∈ wsX12_greatest := by decide +kernel
  subst hsz
  have hD := hD0.self (sz := s.heap.size)
  obtain ⟨A, hAe⟩ : ∃ A, A = va_A (wM cI b L v0) s.heap.size := ⟨_, rfl⟩
  rw [← hAe] at hD
  have hA : ∀ q : Nat, s.heap.size ≤ q → A q := fun q h => by rw [hAe]; exact Or.inr h
  have hS : va_S A s.heap s.heap [] := va_S.rf
  have hl := lv_entry ([.ref (b 0)]) (n := 1) (Nat.le_of_ble_eq_true rfl)
  rw [lg_entry_eq]
  generalize (lg_sl ([.ref (b 0)]) ++ List.replicate (1 - (lg_sl ([.ref (b 0)])).length) Slot.unset).toArray = ls at hl ⊢
  have hl : lv_has ls 1 [(0, .ref (b 0))] := hl
  obtain ⟨v, hv9⟩ : ∃ v : SU, v = v0 := ⟨_, rfl⟩
  rw [← hv9] at hP hD hV
  refine lv_aload_n hx hb dX12_greatest_0 rfl (lv_at hl 0 rfl) ?_
  have eL := sL_id em
  rw [← eL] at hP hD
  rw [← hv9] at hlo hsy
  have hPc : va_P D cls [(b 0, .inr (12, [.int (nI k), .int (L 0 1), .ref (b 1), .ref (b 2), .ref (b 3), .ref (b 4), .ref (b 5), .ref (b 6), .ref (b 7), .ref (b 8), .int (L 0 10), .int (v 0 11), .int (L 0 12), .int (L 0 13), .int (L 0 14), .int (v 0 15), .ref (b 9), .ref (b 10), .ref (b 11), .ref (b 12), .ref (b 13), .ref (b 14), .ref (b 15), .int (L 0 23)])), (b 1, .inl (cI, 12, .inl (v 1))), (b 2, .inl (cI, 4096, .inl (v 2))), (b 3, .inl (cI, 4096, .inl (v 3)))] s.heap := hP.sub [0, 1, 2, 3] rfl
  have hDc : va_D A [(b 0, .inr (12, [.int (nI k), .int (L 0 1), .ref (b 1), .ref (b 2), .ref (b 3), .ref (b 4), .ref (b 5), .ref (b 6), .ref (b 7), .ref (b 8), .int (L 0 10), .int (v 0 11), .int (L 0 12), .int (L 0 13), .int (L 0 14), .int (v 0 15), .ref (b 9), .ref (b 10), .ref (b 11), .ref (b 12), .ref (b 13), .ref (b 14), .ref (b 15), .int (L 0 23)])), (b 1, .inl (cI, 12, .inl (v 1))), (b 2, .inl (cI, 4096, .inl (v 2))), (b 3, .inl (cI, 4096, .inl (v 3)))] := hD.sub [0, 1, 2, 3] (by decide) rfl
  refine lz_qe (wr := [(b 4, .inl (cI, 28672, .inl (v 4))), (b 5, .inl (cI, 12, .inl (v 5))), (b 6, .inl (cI, 12, .inl (v 6))), (b 7, .inl (cI, 12, .inl (v 7))), (b 8, .inl (cI, 120, .inl (v 8))), (b 9, .inl (cI, 4, .inl (L 9))), (b 10, .inl (cI, 4, .inl (L 10))), (b 11, .inl (cI, 160, .inl (v 11))), (b 12, .inl (cI, 4, .inl (v 12))), (b 13, .inl (cI, 4, .inl (v 13))), (b 14, .inl (cI, 4, .inl (v 14))), (b 15, .inl (cI, 28, .inl (L 15)))]) (w1 := fun (u : (Nat → Int32) × (Nat → Int32)) => [(b 0, .inr (12, [.int (nI k), .int (L 0 1), .ref (b 1), .ref (b 2), .ref (b 3), .ref (b 4), .ref (b 5), .ref (b 6), .ref (b 7), .ref (b 8), .int (L 0 10), .int (v 0 11), .int (L 0 12), .int (L 0 13), .int (L 0 14), .int (v 0 15), .ref (b 9), .ref (b 10), .ref (b 11), .ref (b 12), .ref (b 13), .ref (b 14), .ref (b 15), .int (L 0 23)])), (b 1, .inl (cI, 12, .inl (v 1))), (b 2, .inl (cI, 4096, .inl u.1)), (b 3, .inl (cI, 4096, .inl u.2))]) (As := []) (rest := []) ⟨hx, hb, hml, hown, hts⟩ (c_reckons l D cI cS _ (b 0) (b 1) (b 2) (b 3) (b 4) (b 5) (b 6) (b 7) (b 8) (b 9) (b 10) (b 11) (b 12) (b 13) (b 14) (b 15) (L 0 10) (v 0 11) (L 0 12) (L 0 13) (L 0 14) (v 0 15) (L 0 23) (v 1) (v 2) (v 3) (L 0 1) k hk hlo hsy hV.2.1) hKK hP hD hS hA [0, 1, 2, 3] [4, 5, 6, 7, 8, 9, 10, 11, 12, 13, 14, 15] (by decide) rfl rfl (by decide) (by decide) hPc hDc (ci := 12) rfl rfl (cwV 0 hts gX12_greatest_X12_reckons rfl rfl rfl (by decide +kernel) ⟨Nat.le_of_ble_eq_true rfl, Nat.le_of_ble_eq_true rfl⟩) rfl hl.1 rfl (Nat.le_of_ble_eq_true rfl) dX12_greatest_1 ⟨Nat.le_of_ble_eq_true rfl, Nat.le_of_ble_eq_true rfl⟩ (fun u50884 H locs hu hP hD hS => ?_)
  have hP := hP.sub (ws' := wM cI b (sU L 0 (upd (L 0) 0 (nI k))) (sU (sU v 2 u50884.1) 3 u50884.2)) [12, 13, 14, 15, 0, 1, 2, 3, 4, 5, 6, 7, 8, 9, 10, 11] rfl
  have hD := hD.sub (ws' := wM cI b (sU L 0 (upd (L 0) 0 (nI k))) (sU (sU v 2 u50884.1) 3 u50884.2)) [12, 13, 14, 15, 0, 1, 2, 3, 4, 5, 6, 7, 8, 9, 10, 11] (by decide) rfl
  rw [eL] at hP hD
  have h2k : 2 ^ k ≤ 4096 := (Nat.pow_le_pow_right (by decide) hk : 2 ^ k ≤ 2 ^ 12)
  have h1k : 1 ≤ 2 ^ k := Nat.one_le_two_pow
  have hV9 : TyV (sU (sU v 2 u50884.1) 3 u50884.2) := ⟨hV.1, (show u50884.1 0 = 0 from by rw [hu 0 (by omega), nuS_small (v 1) (by decide)]; rfl), hV.2.2.1, hV.2.2.2.1, hV.2.2.2.2⟩
  have hp9 : (sU (sU v 2 u50884.1) 3 u50884.2) 2 (2 ^ k - 1) = nI (nuS k (v0 1) (2 ^ k - 1)) := by rw [← hv9]; exact hu _ (by omega)
  have hs9 : (sU (sU v 2 u50884.1) 3 u50884.2) 1 = v0 1 := by rw [← hv9]; rfl
  generalize sU (sU v 2 u50884.1) 3 u50884.2 = v at hP hD hV9 hp9 hs9
  have hV := hV9
  refine lv_aload_n hx hb dX12_greatest_4 rfl (lv_at hl 0 rfl) ?_
  refine va_get (D := D) (ci := 12) (v := .ref (b 2)) (C := RX12) (T := TX12) (N := 24) hx hb hts hin12 hown hK hP 0 rfl rfl 3 (by decide) (hts (.fieldLink RX12 17 "MissedPointsModel" "pairs" "[I") (by decide +kernel)) (fun _ h9 => h9) rfl dX12_greatest_5 ?_
  refine lv_aload_n hx hb dX12_greatest_8 rfl (lv_at hl 0 rfl) ?_
  refine wk_sv 0 (As := []) (rest := [.ref (b 2)]) ⟨hx, hb, hml, hown, hts⟩ (w_X12_all l D cI cS b L v hL hV) hKK hP (ci := 12) rfl rfl (cwV 0 hts gX12_greatest_X12_all rfl rfl rfl (by decide +kernel) ⟨Nat.le_of_ble_eq_true rfl, Nat.le_of_ble_eq_true rfl⟩) rfl hl.1 rfl (Nat.le_of_ble_eq_true rfl) dX12_greatest_9 ⟨Nat.le_of_ble_eq_true rfl, Nat.le_of_ble_eq_true rfl⟩ (fun r50885 hr50885 => ?_)
  refine va_iald hx hb hK hP 2 0 rfl rfl (rg_in hr50885.1 (by decide) (by decide)) dX12_greatest_12 ?_
  refine lz_top (y := (v 2 r50885.toNatClampNeg)) rfl ?_
  subst hAe
  exact W.iret (v := (v 2 r50885.toNatClampNeg)) hx hb hr (fun t ht hW => ⟨⟨_, v, rfl, ⟨hV, (rg_any (v 2 r50885.toNatClampNeg)), ⟨(by rw [show r50885 = nI (2 ^ k - 1) from by rw [hr50885.2, em, all_eq k (by omega)], nI_cl (by omega)]; exact hp9), hs9⟩⟩, by rw [ht]; exact hP, hD⟩, hS.F ht⟩) hS.2.2 dX12_greatest_13
set_option maxHeartbeats 4000000 in
set_option maxRecDepth 100000 in
theorem w_X12_lack_D (l : Launch) (D : va_G) (cI cS : ClassId) (sz : Nat) (b : Nat → Nat) (L v0 : SU) (hL : TyL L) (hV : TyV v0) (k : Nat) (hk : k ≤ 12) (em : L 0 0 = nI k) (hlo : Lo k (v0 1)) (hsy : Sym k (v0 1)) : Met l yX12_lack wsX12_lack ({ frames := 4, cells := 0, slots := 0, locals := 160 }) (PQ D cI cS (wM cI b L v0) sz [.ref (b 0)]) (QF (S := SU) D (wM cI b L v0) (wM cI b L) sz (fun r u => TyV u ∧ Rg (-2147483648) 2147483647 r ∧ (r = nI k - 2 * nI (nuS k (v0 1) (2 ^ k - 1)) ∧ u 1 = v0 1))) 0 0 (va_A (wM cI b L v0) sz) := by
  refine Met.ofW (cc := cX12_lack) (maxL := 1) (ret := (some .int)) (by decide) rfl ?_
  intro p e s m args below meth c s₁ B hml hv
  obtain ⟨rfl, hsz, hP, hKK, hD0⟩ := hv
  have hx := B.exec
  have hb := B.bytes
  have hr := B.returns
  have hts := atoms_spec (ws := wsX12_lack) B.pre
  have hown : s.vm.findClass RX12 = some m.cls := findClass_of_methodNamed B.named
  have hlocks := B.notSynchronized
  have hK := hKK.1
  have hin12 : ∀ w ∈ wsX120, w ∈ wsX12_lack := by decide +kernel
  subst hsz
  have hD := hD0.self (sz := s.heap.size)
  obtain ⟨A, hAe⟩ : ∃ A, A = va_A (wM cI b L v0) s.heap.size := ⟨_, rfl⟩
  rw [← hAe] at hD
  have hA : ∀ q : Nat, s.heap.size ≤ q → A q := fun q h => by rw [hAe]; exact Or.inr h
  have hS : va_S A s.heap s.heap [] := va_S.rf
  have hl := lv_entry ([.ref (b 0)]) (n := 1) (Nat.le_of_ble_eq_true rfl)
  rw [lg_entry_eq]
  generalize (lg_sl ([.ref (b 0)]) ++ List.replicate (1 - (lg_sl ([.ref (b 0)])).length) Slot.unset).toArray = ls at hl ⊢
  have hl : lv_has ls 1 [(0, .ref (b 0))] := hl
  obtain ⟨v, hv9⟩ : ∃ v : SU, v = v0 := ⟨_, rfl⟩
  rw [← hv9] at hP hD hV
  refine lv_aload_n hx hb dX12_lack_0 rfl (lv_at hl 0 rfl) ?_
  refine va_get (D := D) (ci := 12) (v := .int (L 0 0)) (C := RX12) (T := TX12) (N := 24) hx hb hts hin12 hown hK hP 0 rfl rfl 0 (by decide) (hts (.fieldLink RX12 63 "MissedPointsModel" "many" "I") (by decide +kernel)) (fun _ h9 => h9) rfl dX12_lack_1 ?_
  refine lv_iconst (v := 2) hx hb dX12_lack_4 (by decide) ?_
  refine lv_aload_n hx hb dX12_lack_5 rfl (lv_at hl 0 rfl) ?_
  refine wk_qi (wM cI b L) v (As := []) (rest := [.int 2, .int (L 0 0)]) ⟨hx, hb, hml, hown, hts⟩ (w_X12_greatest_D l D cI cS _ b L v hL hV (k) (hk) (em) (by rw [hv9]; exact hlo) (by rw [hv9]; exact hsy)) hKK hP hD hS hA 0 (ci := 12) rfl rfl (cwV 0 hts gX12_lack_X12_greatest rfl rfl rfl (by decide +kernel) ⟨Nat.le_of_ble_eq_true rfl, Nat.le_of_ble_eq_true rfl⟩) rfl hl.1 rfl (Nat.le_of_ble_eq_true rfl) dX12_lack_6 ⟨Nat.le_of_ble_eq_true rfl, Nat.le_of_ble_eq_true rfl⟩ (fun r50890 v H locs hr50890 hP hD hS => ?_)
  have hV := hr50890.1
  have hq9 := hr50890.2.2.1
  have hs9 := hr50890.2.2.2
  rw [hv9] at hq9 hs9
  have hv9 : v 1 = v0 1 := hs9
  refine lv_imul hx hb dX12_lack_9 ?_
  refine wk_topP (P := fun r => r = (2 : Int32) * r50890) rfl (fun r50891 qr50891 => ?_)
  refine lv_isub hx hb dX12_lack_10 ?_
  refine wk_topP (P := fun r => r = (L 0 0) - r50891) rfl (fun r50892 qr50892 => ?_)
  subst hAe
  exact W.iret (v := r50892) hx hb hr (fun t ht hW => ⟨⟨_, v, rfl, ⟨hV, (rg_any r50892), ⟨(by rw [qr50892, qr50891, hq9, em]), hs9⟩⟩, by rw [ht]; exact hP, hD⟩, hS.F ht⟩) hS.2.2 dX12_lack_11
