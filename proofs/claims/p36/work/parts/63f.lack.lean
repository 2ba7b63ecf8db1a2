
theorem lz_nle {a b : Int32} (h : ¬ a ≤ b) : b < a := by
  have z := mt (lz_le a b).mpr h
  rw [lz_lt]
  omega
theorem lz_len {a b : Int32} (h : a ≤ b) : ¬ b < a := fun z => by
  have z1 := (lz_le a b).mp h
  have z2 := (lz_lt b a).mp z
  omega
theorem ncn_full : ∀ k, k < 13 → ncn (tb (2 ^ k - 1)) 12 = k := by decide
set_option maxHeartbeats 4000000 in
set_option maxRecDepth 100000 in
theorem c_notice (l : Launch) (D : va_G) (cI cS : ClassId) (sz : Nat) (h0 h1 h2 h3 h4 h5 h6 : Nat) (k c1 c2 ag a2 : Nat) (hc : c1 ≠ c2) (hc1 : c1 < 2 ^ 31) (hc2 : c2 < 2 ^ 31) (hag : ag < 32767) (ha2 : a2 < 32767) : Met l yX3_notice wsX3_notice ({ frames := 1, cells := 0, slots := 0, locals := 40 }) (PQ D cI cS [(h0, .inr (3, [.ref h1, .ref h2, .ref h3, .int (nI c1)])), (h1, .inr (2, [.ref h4, .int (nI k), .int (nI c2)])), (h2, .inr (1, [.ref h5, .int (nI ag)])), (h3, .inr (1, [.ref h6, .int (nI a2)]))] sz [.ref h0]) (QV D [(h0, .inr (3, [.ref h1, .ref h2, .ref h3, .int (nI c1)])), (h1, .inr (2, [.ref h4, .int (nI k), .int (nI c2)])), (h2, .inr (1, [.ref h5, .int (nI ag)])), (h3, .inr (1, [.ref h6, .int (nI a2)]))] [(h0, .inr (3, [.ref h1, .ref h2, .ref h3, .int (nI c2)])), (h1, .inr (2, [.ref h4, .int (nI k), .int (nI c2)])), (h2, .inr (1, [.ref h5, .int (nI (ag + 1))])), (h3, .inr (1, [.ref h6, .int (nI (a2 + 1))]))] sz) 0 0 (va_A [(h0, .inr (3, [.ref h1, .ref h2, .ref h3, .int (nI c1)])), (h1, .inr (2, [.ref h4, .int (nI k), .int (nI c2)])), (h2, .inr (1, [.ref h5, .int (nI ag)])), (h3, .inr (1, [.ref h6, .int (nI a2)]))] sz) := by
  refine Met.ofW (cc := cX3_notice) (maxL := 1) (ret := none) (by decide) rfl ?_
  intro p e s m args below meth c s₁ B hml hv
  obtain ⟨rfl, hsz, hP, hKK, hD0⟩ := hv
  have hx := B.exec
  have hb := B.bytes
  have hr := B.returns
  have hts := atoms_spec (ws := wsX3_notice) B.pre
  have hown : s.vm.findClass RX3 = some m.cls := findClass_of_methodNamed B.named
  have hlocks := B.notSynchronized
  have hK := hKK.1
  have hN := hKK.2
  have hin2 : ∀ w ∈ wsX20, w ∈ wsX3_notice := by decide +kernel
  have hin3 : ∀ w ∈ wsX30, w ∈ wsX3_notice := by decide +kernel
  subst hsz
  have hD := hD0.self (sz := s.heap.size)
  obtain ⟨A, hAe⟩ : ∃ A, A = va_A [(h0, .inr (3, [.ref h1, .ref h2, .ref h3, .int (nI c1)])), (h1, .inr (2, [.ref h4, .int (nI k), .int (nI c2)])), (h2, .inr (1, [.ref h5, .int (nI ag)])), (h3, .inr (1, [.ref h6, .int (nI a2)]))] s.heap.size := ⟨_, rfl⟩
  rw [← hAe] at hD
  have hA : ∀ q : Nat, s.heap.size ≤ q → A q := fun q h => by rw [hAe]; exact Or.inr h
  have hS : va_S A s.heap s.heap [] := va_S.rf
  have hl := lv_entry ([.ref h0]) (n := 1) (Nat.le_of_ble_eq_true rfl)
  rw [lg_entry_eq]
  generalize (lg_sl ([.ref h0]) ++ List.replicate (1 - (lg_sl ([.ref h0])).length) Slot.unset).toArray = ls at hl ⊢
  have hl : lv_has ls 1 [(0, .ref h0)] := hl
  refine lv_aload_n hx hb dX3_notice_0 rfl (lv_at hl 0 rfl) ?_
  refine va_get (D := D) (ci := 3) (v := .int (nI c1)) (C := RX3) (T := TX3) (N := 4) hx hb hts hin3 hown hK hP 0 rfl rfl 3 (by decide) (hts (.fieldLink RX3 27 "MissedPoints$Pairs" "changesSeen" "I") (by decide +kernel)) (fun _ h9 => h9) rfl dX3_notice_1 ?_
  refine lv_aload_n hx hb dX3_notice_4 rfl (lv_at hl 0 rfl) ?_
  refine va_get (D := D) (ci := 3) (v := .ref h1) (C := RX3) (T := TX3) (N := 4) hx hb hts hin3 hown hK hP 0 rfl rfl 0 (by decide) (hts (.fieldLink RX3 23 "MissedPoints$Pairs" "net" "LMissedPoints$Net;") (by decide +kernel)) (fun _ h9 => h9) rfl dX3_notice_5 ?_
  refine va_getN (D := D) (ci := 2) (v := .int (nI c2)) (C := RX2) (T := TX2) (N := 3) hx hb hts hin2 hown hK hP 1 rfl rfl 2 (by decide) (va_Nw.use rfl hN.2.2.2.2.2.2.2.2.2.2.1) (fun _ h9 => h9) rfl dX3_notice_8 ?_
  refine lv_icmp_eq (tgt := 39) hx hb dX3_notice_11 (by decide) (fun c5012 => ?_) (fun c5012 => ?_)
  · exact absurd c5012 (fun e => hc ((nI_eq hc1 hc2).mp e))
  · refine lv_aload_n hx hb dX3_notice_14 rfl (lv_at hl 0 rfl) ?_
    refine lv_aload_n hx hb dX3_notice_15 rfl (lv_at hl 0 rfl) ?_
    refine va_get (D := D) (ci := 3) (v := .ref h1) (C := RX3) (T := TX3) (N := 4) hx hb hts hin3 hown hK hP 0 rfl rfl 0 (by decide) (hts (.fieldLink RX3 23 "MissedPoints$Pairs" "net" "LMissedPoints$Net;") (by decide +kernel)) (fun _ h9 => h9) rfl dX3_notice_16 ?_
    refine va_getN (D := D) (ci := 2) (v := .int (nI c2)) (C := RX2) (T := TX2) (N := 3) hx hb hts hin2 hown hK hP 1 rfl rfl 2 (by decide) (va_Nw.use rfl hN.2.2.2.2.2.2.2.2.2.2.1) (fun _ h9 => h9) rfl dX3_notice_19 ?_
    refine va_put (D := D) (ci := 3) (v := .int (nI c2)) (ty := .int) (C := RX3) (T := TX3) (N := 4) hx hb hts hin3 tyX3 tyX3_ok nmX3 hown hK hP hD hS 0 rfl rfl 3 (by decide) (hts (.fieldLink RX3 27 "MissedPoints$Pairs" "changesSeen" "I") (by decide +kernel)) (fun _ h9 => h9) rfl (by decide +kernel) rfl rfl (Nat.le_of_ble_eq_true rfl) dX3_notice_22 (fun H locs hP hD hS => ?_)
    have hP : va_P D cls [(h0, .inr (3, [.ref h1, .ref h2, .ref h3, .int (nI c2)])), (h1, .inr (2, [.ref h4, .int (nI k), .int (nI c2)])), (h2, .inr (1, [.ref h5, .int (nI ag)])), (h3, .inr (1, [.ref h6, .int (nI a2)]))] H := hP
    have hD : va_D A [(h0, .inr (3, [.ref h1, .ref h2, .ref h3, .int (nI c2)])), (h1, .inr (2, [.ref h4, .int (nI k), .int (nI c2)])), (h2, .inr (1, [.ref h5, .int (nI ag)])), (h3, .inr (1, [.ref h6, .int (nI a2)]))] := hD
    refine lv_aload_n hx hb dX3_notice_25 rfl (lv_at hl 0 rfl) ?_
    refine va_get (D := D) (ci := 3) (v := .ref h2) (C := RX3) (T := TX3) (N := 4) hx hb hts hin3 hown hK hP 0 rfl rfl 1 (by decide) (hts (.fieldLink RX3 14 "MissedPoints$Pairs" "mosts" "LMissedPoints$Memo;") (by decide +kernel)) (fun _ h9 => h9) rfl dX3_notice_26 ?_
    have hPc := hP.sub (ws' := [(h2, .inr (1, [.ref h5, .int (nI ag)]))]) [2] rfl
    have hDc := hD.sub (ws' := [(h2, .inr (1, [.ref h5, .int (nI ag)]))]) [2] (by decide) rfl
    refine lz_qv (wr := [(h0, .inr (3, [.ref h1, .ref h2, .ref h3, .int (nI c2)])), (h1, .inr (2, [.ref h4, .int (nI k), .int (nI c2)])), (h3, .inr (1, [.ref h6, .int (nI a2)]))]) (w1 := [(h2, .inr (1, [.ref h5, .int (nI (ag + 1))]))]) (As := []) (rest := []) ⟨hx, hb, hml, hown, hts⟩ (c_forget l D cI cS _ h2 h5 ag hag) hKK hP hD hS hA [2] [0, 1, 3] (by decide) rfl rfl (by decide) (by decide) hPc hDc (ci := 1) rfl rfl (cwV 0 hts gX3_notice_X1_forget rfl rfl rfl (by decide +kernel) ⟨Nat.le_of_ble_eq_true rfl, Nat.le_of_ble_eq_true rfl⟩) rfl hl.1 rfl (Nat.le_of_ble_eq_true rfl) dX3_notice_29 ⟨Nat.le_of_ble_eq_true rfl, Nat.le_of_ble_eq_true rfl⟩ (fun H locs hP hD hS => ?_)
    have hP : va_P D cls [(h0, .inr (3, [.ref h1, .ref h2, .ref h3, .int (nI c2)])), (h1, .inr (2, [.ref h4, .int (nI k), .int (nI c2)])), (h3, .inr (1, [.ref h6, .int (nI a2)])), (h2, .inr (1, [.ref h5, .int (nI (ag + 1))]))] H := hP
    have hD : va_D A [(h0, .inr (3, [.ref h1, .ref h2, .ref h3, .int (nI c2)])), (h1, .inr (2, [.ref h4, .int (nI k), .int (nI c2)])), (h3, .inr (1, [.ref h6, .int (nI a2)])), (h2, .inr (1, [.ref h5, .int (nI (ag + 1))]))] := hD
    refine lv_aload_n hx hb dX3_notice_32 rfl (lv_at hl 0 rfl) ?_
    refine va_get (D := D) (ci := 3) (v := .ref h3) (C := RX3) (T := TX3) (N := 4) hx hb hts hin3 hown hK hP 0 rfl rfl 2 (by decide) (hts (.fieldLink RX3 20 "MissedPoints$Pairs" "numbers" "LMissedPoints$Memo;") (by decide +kernel)) (fun _ h9 => h9) rfl dX3_notice_33 ?_
    have hPc := hP.sub (ws' := [(h3, .inr (1, [.ref h6, .int (nI a2)]))]) [2] rfl
    have hDc := hD.sub (ws' := [(h3, .inr (1, [.ref h6, .int (nI a2)]))]) [2] (by decide) rfl
    refine lz_qv (wr := [(h0, .inr (3, [.ref h1, .ref h2, .ref h3, .int (nI c2)])), (h1, .inr (2, [.ref h4, .int (nI k), .int (nI c2)])), (h2, .inr (1, [.ref h5, .int (nI (ag + 1))]))]) (w1 := [(h3, .inr (1, [.ref h6, .int (nI (a2 + 1))]))]) (As := []) (rest := []) ⟨hx, hb, hml, hown, hts⟩ (c_forget l D cI cS _ h3 h6 a2 ha2) hKK hP hD hS hA [2] [0, 1, 3] (by decide) rfl rfl (by decide) (by decide) hPc hDc (ci := 1) rfl rfl (cwV 0 hts gX3_notice_X1_forget rfl rfl rfl (by decide +kernel) ⟨Nat.le_of_ble_eq_true rfl, Nat.le_of_ble_eq_true rfl⟩) rfl hl.1 rfl (Nat.le_of_ble_eq_true rfl) dX3_notice_36 ⟨Nat.le_of_ble_eq_true rfl, Nat.le_of_ble_eq_true rfl⟩ (fun H locs hP hD hS => ?_)
    have hP : va_P D cls [(h0, .inr (3, [.ref h1, .ref h2, .ref h3, .int (nI c2)])), (h1, .inr (2, [.ref h4, .int (nI k), .int (nI c2)])), (h2, .inr (1, [.ref h5, .int (nI (ag + 1))])), (h3, .inr (1, [.ref h6, .int (nI (a2 + 1))]))] H := hP
    have hD : va_D A [(h0, .inr (3, [.ref h1, .ref h2, .ref h3, .int (nI c2)])), (h1, .inr (2, [.ref h4, .int (nI k), .int (nI c2)])), (h2, .inr (1, [.ref h5, .int (nI (ag + 1))])), (h3, .inr (1, [.ref h6, .int (nI (a2 + 1))]))] := hD
    have hP9 : va_P D cls [(h0, .inr (3, [.ref h1, .ref h2, .ref h3, .int (nI c2)])), (h1, .inr (2, [.ref h4, .int (nI k), .int (nI c2)])), (h2, .inr (1, [.ref h5, .int (nI (ag + 1))])), (h3, .inr (1, [.ref h6, .int (nI (a2 + 1))]))] H := hP.sub [0, 1, 2, 3] rfl
    have hD9 : va_D A [(h0, .inr (3, [.ref h1, .ref h2, .ref h3, .int (nI c2)])), (h1, .inr (2, [.ref h4, .int (nI k), .int (nI c2)])), (h2, .inr (1, [.ref h5, .int (nI (ag + 1))])), (h3, .inr (1, [.ref h6, .int (nI (a2 + 1))]))] := hD.sub [0, 1, 2, 3] (by decide) rfl
    subst hAe
    exact W.vret hx hb hr (fun t ht hW => ⟨⟨(), rfl, trivial, by rw [ht]; exact hP9, hD9⟩, hS.F ht⟩) hS.2.2 dX3_notice_39
set_option maxHeartbeats 4000000 in
set_option maxRecDepth 100000 in
theorem c_best (l : Launch) (D : va_G) (cI cS : ClassId) (sz : Nat) (h0 h1 h2 h3 h4 h5 h6 : Nat) (f g : Nat → Int32) (k c1 c2 ag a2 n : Nat) (hk : k ≤ 12) (hc : c1 ≠ c2) (hc1 : c1 < 2 ^ 31) (hc2 : c2 < 2 ^ 31) (hag : ag < 32766) (ha2 : a2 < 32767) (hv4 : Lo k f) (hsy : Sym k f) (hn : n < 2 ^ k) (hms : MS ag g) : Met l yX3_best wsX3_best ({ frames := 20, cells := 0, slots := 0, locals := 800 }) (PQ D cI cS [(h0, .inr (3, [.ref h1, .ref h2, .ref h3, .int (nI c1)])), (h1, .inr (2, [.ref h4, .int (nI k), .int (nI c2)])), (h4, .inl (cI, 12, .inl f)), (h2, .inr (1, [.ref h5, .int (nI ag)])), (h5, .inl (cI, 4096, .inl g)), (h3, .inr (1, [.ref h6, .int (nI a2)]))] sz [.ref h0, .int (nI n)]) (QF (S := Nat → Int32) D [(h0, .inr (3, [.ref h1, .ref h2, .ref h3, .int (nI c1)])), (h1, .inr (2, [.ref h4, .int (nI k), .int (nI c2)])), (h4, .inl (cI, 12, .inl f)), (h2, .inr (1, [.ref h5, .int (nI ag)])), (h5, .inl (cI, 4096, .inl g)), (h3, .inr (1, [.ref h6, .int (nI a2)]))] (fun u => [(h0, .inr (3, [.ref h1, .ref h2, .ref h3, .int (nI c2)])), (h1, .inr (2, [.ref h4, .int (nI k), .int (nI c2)])), (h4, .inl (cI, 12, .inl f)), (h2, .inr (1, [.ref h5, .int (nI (ag + 1))])), (h5, .inl (cI, 4096, .inl u)), (h3, .inr (1, [.ref h6, .int (nI (a2 + 1))]))]) sz (fun r u => r = nI (nuS k f n) ∧ MS (ag + 1) u)) 0 0 (va_A [(h0, .inr (3, [.ref h1, .ref h2, .ref h3, .int (nI c1)])), (h1, .inr (2, [.ref h4, .int (nI k), .int (nI c2)])), (h4, .inl (cI, 12, .inl f)), (h2, .inr (1, [.ref h5, .int (nI ag)])), (h5, .inl (cI, 4096, .inl g)), (h3, .inr (1, [.ref h6, .int (nI a2)]))] sz) := by
  refine Met.ofW (cc := cX3_best) (maxL := 2) (ret := (some .int)) (by decide) rfl ?_
  intro p e s m args below meth c s₁ B hml hv
  obtain ⟨rfl, hsz, hP, hKK, hD0⟩ := hv
  have hx := B.exec
  have hb := B.bytes
  have hr := B.returns
  have hts := atoms_spec (ws := wsX3_best) B.pre
  have hown : s.vm.findClass RX3 = some m.cls := findClass_of_methodNamed B.named
  have hlocks := B.notSynchronized
  have hK := hKK.1
  have hN := hKK.2
  subst hsz
  have hD := hD0.self (sz := s.heap.size)
  obtain ⟨A, hAe⟩ : ∃ A, A = va_A [(h0, .inr (3, [.ref h1, .ref h2, .ref h3, .int (nI c1)])), (h1, .inr (2, [.ref h4, .int (nI k), .int (nI c2)])), (h4, .inl (cI, 12, .inl f)), (h2, .inr (1, [.ref h5, .int (nI ag)])), (h5, .inl (cI, 4096, .inl g)), (h3, .inr (1, [.ref h6, .int (nI a2)]))] s.heap.size := ⟨_, rfl⟩
  rw [← hAe] at hD
  have hA : ∀ q : Nat, s.heap.size ≤ q → A q := fun q h => by rw [hAe]; exact Or.inr h
  have hS : va_S A s.heap s.heap [] := va_S.rf
  have hl := lv_entry ([.ref h0, .int (nI n)]) (n := 2) (Nat.le_of_ble_eq_true rfl)
  rw [lg_entry_eq]
  generalize (lg_sl ([.ref h0, .int (nI n)]) ++ List.replicate (2 - (lg_sl ([.ref h0, .int (nI n)])).length) Slot.unset).toArray = ls at hl ⊢
  have hl : lv_has ls 2 [(0, .ref h0), (1, .int (nI n))] := hl
  refine lv_aload_n hx hb dX3_best_0 rfl (lv_at hl 0 rfl) ?_
  have hPc := hP.sub (ws' := [(h0, .inr (3, [.ref h1, .ref h2, .ref h3, .int (nI c1)])), (h1, .inr (2, [.ref h4, .int (nI k), .int (nI c2)])), (h2, .inr (1, [.ref h5, .int (nI ag)])), (h3, .inr (1, [.ref h6, .int (nI a2)]))]) [0, 1, 3, 5] rfl
  have hDc := hD.sub (ws' := [(h0, .inr (3, [.ref h1, .ref h2, .ref h3, .int (nI c1)])), (h1, .inr (2, [.ref h4, .int (nI k), .int (nI c2)])), (h2, .inr (1, [.ref h5, .int (nI ag)])), (h3, .inr (1, [.ref h6, .int (nI a2)]))]) [0, 1, 3, 5] (by decide) rfl
  refine lz_qv (wr := [(h4, .inl (cI, 12, .inl f)), (h5, .inl (cI, 4096, .inl g))]) (w1 := [(h0, .inr (3, [.ref h1, .ref h2, .ref h3, .int (nI c2)])), (h1, .inr (2, [.ref h4, .int (nI k), .int (nI c2)])), (h2, .inr (1, [.ref h5, .int (nI (ag + 1))])), (h3, .inr (1, [.ref h6, .int (nI (a2 + 1))]))]) (As := []) (rest := []) ⟨hx, hb, hml, hown, hts⟩ (c_notice l D cI cS _ h0 h1 h2 h3 h4 h5 h6 k c1 c2 ag a2 hc hc1 hc2 (by omega) ha2) hKK hP hD hS hA [0, 1, 3, 5] [2, 4] (by decide) rfl rfl (by decide) (by decide) hPc hDc (ci := 3) rfl rfl (cwV 0 hts gX3_best_X3_notice rfl rfl rfl (by decide +kernel) ⟨by show 1 + 1 ≤ 20; omega, by show 8 + (1 + 11) + 40 ≤ 800; omega⟩) rfl hl.1 rfl (Nat.le_of_ble_eq_true rfl) dX3_best_1 ⟨Nat.le_of_ble_eq_true rfl, Nat.le_of_ble_eq_true rfl⟩ (fun H locs hP hD hS => ?_)
  have hP : va_P D cls [(h4, .inl (cI, 12, .inl f)), (h5, .inl (cI, 4096, .inl g)), (h0, .inr (3, [.ref h1, .ref h2, .ref h3, .int (nI c2)])), (h1, .inr (2, [.ref h4, .int (nI k), .int (nI c2)])), (h2, .inr (1, [.ref h5, .int (nI (ag + 1))])), (h3, .inr (1, [.ref h6, .int (nI (a2 + 1))]))] H := hP
  have hD : va_D A [(h4, .inl (cI, 12, .inl f)), (h5, .inl (cI, 4096, .inl g)), (h0, .inr (3, [.ref h1, .ref h2, .ref h3, .int (nI c2)])), (h1, .inr (2, [.ref h4, .int (nI k), .int (nI c2)])), (h2, .inr (1, [.ref h5, .int (nI (ag + 1))])), (h3, .inr (1, [.ref h6, .int (nI (a2 + 1))]))] := hD
  refine lv_aload_n hx hb dX3_best_4 rfl (lv_at hl 0 rfl) ?_
  refine lv_iload_n hx hb dX3_best_5 rfl (lv_at hl 1 rfl) ?_
  refine lv_iconst (v := 0) hx hb dX3_best_6 (by decide) ?_
  refine lz_top (y := (nI 0)) (nI_0.symm) ?_
  have hPc := hP.sub (ws' := [(h0, .inr (3, [.ref h1, .ref h2, .ref h3, .int (nI c2)])), (h1, .inr (2, [.ref h4, .int (nI k), .int (nI c2)])), (h4, .inl (cI, 12, .inl f)), (h2, .inr (1, [.ref h5, .int (nI (ag + 1))])), (h5, .inl (cI, 4096, .inl g))]) [2, 3, 0, 4, 1] rfl
  have hDc := hD.sub (ws' := [(h0, .inr (3, [.ref h1, .ref h2, .ref h3, .int (nI c2)])), (h1, .inr (2, [.ref h4, .int (nI k), .int (nI c2)])), (h4, .inl (cI, 12, .inl f)), (h2, .inr (1, [.ref h5, .int (nI (ag + 1))])), (h5, .inl (cI, 4096, .inl g))]) [2, 3, 0, 4, 1] (by decide) rfl
  refine lz_qf (wr := [(h3, .inr (1, [.ref h6, .int (nI (a2 + 1))]))]) (w1 := fun (u : Nat → Int32) => [(h0, .inr (3, [.ref h1, .ref h2, .ref h3, .int (nI c2)])), (h1, .inr (2, [.ref h4, .int (nI k), .int (nI c2)])), (h4, .inl (cI, 12, .inl f)), (h2, .inr (1, [.ref h5, .int (nI (ag + 1))])), (h5, .inl (cI, 4096, .inl u))]) (As := [.int (nI n), .int (nI 0)]) (rest := []) ⟨hx, hb, hml, hown, hts⟩ (c_bestOf l D cI cS h0 h1 h2 h3 h4 h5 f (nI c2) (nI c2) k (ag + 1) hk (by omega) hv4 hsy k _ g n 0 (Nat.le_refl _) hn (by omega) (hms.mv k f)) hKK hP hD hS hA [2, 3, 0, 4, 1] [5] (by decide) rfl rfl (by decide) (by decide) hPc hDc (ci := 3) rfl rfl (cwV 2 hts gX3_best_X3_bestOf rfl rfl rfl (by decide +kernel) ⟨by show k + 1 + 1 ≤ 20; omega, by show 8 + (11 + 11) + 40 * (k + 1) ≤ 800; omega⟩) rfl hl.1 rfl (Nat.le_of_ble_eq_true rfl) dX3_best_7 ⟨Nat.le_of_ble_eq_true rfl, Nat.le_of_ble_eq_true rfl⟩ (fun r9 u H locs hu hP hD hS => ?_)
  have hP : va_P D cls [(h3, .inr (1, [.ref h6, .int (nI (a2 + 1))])), (h0, .inr (3, [.ref h1, .ref h2, .ref h3, .int (nI c2)])), (h1, .inr (2, [.ref h4, .int (nI k), .int (nI c2)])), (h4, .inl (cI, 12, .inl f)), (h2, .inr (1, [.ref h5, .int (nI (ag + 1))])), (h5, .inl (cI, 4096, .inl u))] H := hP
  have hD : va_D A [(h3, .inr (1, [.ref h6, .int (nI (a2 + 1))])), (h0, .inr (3, [.ref h1, .ref h2, .ref h3, .int (nI c2)])), (h1, .inr (2, [.ref h4, .int (nI k), .int (nI c2)])), (h4, .inl (cI, 12, .inl f)), (h2, .inr (1, [.ref h5, .int (nI (ag + 1))])), (h5, .inl (cI, 4096, .inl u))] := hD
  refine lz_top (y := (nI (nuS k f n))) (hu.1) ?_
  have hP9 : va_P D cls [(h0, .inr (3, [.ref h1, .ref h2, .ref h3, .int (nI c2)])), (h1, .inr (2, [.ref h4, .int (nI k), .int (nI c2)])), (h4, .inl (cI, 12, .inl f)), (h2, .inr (1, [.ref h5, .int (nI (ag + 1))])), (h5, .inl (cI, 4096, .inl u)), (h3, .inr (1, [.ref h6, .int (nI (a2 + 1))]))] H := hP.sub [1, 2, 3, 4, 5, 0] rfl
  have hD9 : va_D A [(h0, .inr (3, [.ref h1, .ref h2, .ref h3, .int (nI c2)])), (h1, .inr (2, [.ref h4, .int (nI k), .int (nI c2)])), (h4, .inl (cI, 12, .inl f)), (h2, .inr (1, [.ref h5, .int (nI (ag + 1))])), (h5, .inl (cI, 4096, .inl u)), (h3, .inr (1, [.ref h6, .int (nI (a2 + 1))]))] := hD.sub [1, 2, 3, 4, 5, 0] (by decide) rfl
  subst hAe
  exact W.iret (v := nI (nuS k f n)) hx hb hr (fun t ht hW => ⟨⟨_, u, rfl, ⟨rfl, hu.2.ms⟩, by rw [ht]; exact hP9, hD9⟩, hS.F ht⟩) hS.2.2 dX3_best_10
set_option maxHeartbeats 4000000 in
set_option maxRecDepth 100000 in
theorem c_lackX (l : Launch) (D : va_G) (cI cS : ClassId) (sz : Nat) (h0 h1 h2 h3 h4 h5 h6 : Nat) (f g : Nat → Int32) (k c1 c2 ag a2 : Nat) (hk : k ≤ 12) (hc : c1 ≠ c2) (hc1 : c1 < 2 ^ 31) (hc2 : c2 < 2 ^ 31) (hag : ag < 32766) (ha2 : a2 < 32767) (hv4 : Lo k f) (hsy : Sym k f) (hms : MS ag g) : Met l yX3_lack wsX3_lack ({ frames := 21, cells := 0, slots := 0, locals := 840 }) (PQ D cI cS [(h0, .inr (3, [.ref h1, .ref h2, .ref h3, .int (nI c1)])), (h1, .inr (2, [.ref h4, .int (nI k), .int (nI c2)])), (h4, .inl (cI, 12, .inl f)), (h2, .inr (1, [.ref h5, .int (nI ag)])), (h5, .inl (cI, 4096, .inl g)), (h3, .inr (1, [.ref h6, .int (nI a2)]))] sz [.ref h0, .int (nI (2 ^ k - 1))]) (QF (S := Nat → Int32) D [(h0, .inr (3, [.ref h1, .ref h2, .ref h3, .int (nI c1)])), (h1, .inr (2, [.ref h4, .int (nI k), .int (nI c2)])), (h4, .inl (cI, 12, .inl f)), (h2, .inr (1, [.ref h5, .int (nI ag)])), (h5, .inl (cI, 4096, .inl g)), (h3, .inr (1, [.ref h6, .int (nI a2)]))] (fun u => [(h0, .inr (3, [.ref h1, .ref h2, .ref h3, .int (nI c2)])), (h1, .inr (2, [.ref h4, .int (nI k), .int (nI c2)])), (h4, .inl (cI, 12, .inl f)), (h2, .inr (1, [.ref h5, .int (nI (ag + 1))])), (h5, .inl (cI, 4096, .inl u)), (h3, .inr (1, [.ref h6, .int (nI (a2 + 1))]))]) sz (fun r u => r = (nI k - (2 : Int32) * nI (nuS k f (2 ^ k - 1))) ∧ MS (ag + 1) u)) 0 0 (va_A [(h0, .inr (3, [.ref h1, .ref h2, .ref h3, .int (nI c1)])), (h1, .inr (2, [.ref h4, .int (nI k), .int (nI c2)])), (h4, .inl (cI, 12, .inl f)), (h2, .inr (1, [.ref h5, .int (nI ag)])), (h5, .inl (cI, 4096, .inl g)), (h3, .inr (1, [.ref h6, .int (nI a2)]))] sz) := by
  refine Met.ofW (cc := cX3_lack) (maxL := 2) (ret := (some .int)) (by decide) rfl ?_
  intro p e s m args below meth c s₁ B hml hv
  obtain ⟨rfl, hsz, hP, hKK, hD0⟩ := hv
  have hx := B.exec
  have hb := B.bytes
  have hr := B.returns
  have hts := atoms_spec (ws := wsX3_lack) B.pre
  have hown : s.vm.findClass RX3 = some m.cls := findClass_of_methodNamed B.named
  have hlocks := B.notSynchronized
  have hK := hKK.1
  have hN := hKK.2
  subst hsz
  have hD := hD0.self (sz := s.heap.size)
  obtain ⟨A, hAe⟩ : ∃ A, A = va_A [(h0, .inr (3, [.ref h1, .ref h2, .ref h3, .int (nI c1)])), (h1, .inr (2, [.ref h4, .int (nI k), .int (nI c2)])), (h4, .inl (cI, 12, .inl f)), (h2, .inr (1, [.ref h5, .int (nI ag)])), (h5, .inl (cI, 4096, .inl g)), (h3, .inr (1, [.ref h6, .int (nI a2)]))] s.heap.size := ⟨_, rfl⟩
  rw [← hAe] at hD
  have hA : ∀ q : Nat, s.heap.size ≤ q → A q := fun q h => by rw [hAe]; exact Or.inr h
  have hS : va_S A s.heap s.heap [] := va_S.rf
  have hl := lv_entry ([.ref h0, .int (nI (2 ^ k - 1))]) (n := 2) (Nat.le_of_ble_eq_true rfl)
  rw [lg_entry_eq]
  generalize (lg_sl ([.ref h0, .int (nI (2 ^ k - 1))]) ++ List.replicate (2 - (lg_sl ([.ref h0, .int (nI (2 ^ k - 1))])).length) Slot.unset).toArray = ls at hl ⊢
  have hl : lv_has ls 2 [(0, .ref h0), (1, .int (nI (2 ^ k - 1)))] := hl
  have h2k : 2 ^ k ≤ 4096 := (Nat.pow_le_pow_right (by decide) hk : 2 ^ k ≤ 2 ^ 12)
  have h1k : 1 ≤ 2 ^ k := Nat.one_le_two_pow
  refine lv_iload_n hx hb dX3_lack_0 rfl (lv_at hl 1 rfl) ?_
  have hPc := hP.sub (ws' := []) [] rfl
  refine lz_ss (As := [.int (nI (2 ^ k - 1))]) (rest := []) ⟨hx, hb, hml, hown, hts⟩ (c_J6_bitCount_0f7a4_1 l D cI cS (nI (2 ^ k - 1))) hKK hPc (va_cwS 1 hts gX3_lack_J6_bitCount_0f7a4 rfl rfl rfl (by decide +kernel) ⟨Nat.le_of_ble_eq_true rfl, Nat.le_of_ble_eq_true rfl⟩) rfl hl.1 rfl (Nat.le_of_ble_eq_true rfl) dX3_lack_1 ⟨Nat.le_of_ble_eq_true rfl, Nat.le_of_ble_eq_true rfl⟩ (fun r5013 hw => ?_)
  subst hw
  refine lz_top (y := (nI k)) ((show bc (nI (2 ^ k - 1)) = nI k from by rw [bc_cnt (by omega), ncn_full k (by omega)])) ?_
  refine lv_iconst (v := 2) hx hb dX3_lack_4 (by decide) ?_
  refine lv_aload_n hx hb dX3_lack_5 rfl (lv_at hl 0 rfl) ?_
  refine lv_iload_n hx hb dX3_lack_6 rfl (lv_at hl 1 rfl) ?_
  have hPc := hP.sub (ws' := [(h0, .inr (3, [.ref h1, .ref h2, .ref h3, .int (nI c1)])), (h1, .inr (2, [.ref h4, .int (nI k), .int (nI c2)])), (h4, .inl (cI, 12, .inl f)), (h2, .inr (1, [.ref h5, .int (nI ag)])), (h5, .inl (cI, 4096, .inl g)), (h3, .inr (1, [.ref h6, .int (nI a2)]))]) [0, 1, 2, 3, 4, 5] rfl
  have hDc := hD.sub (ws' := [(h0, .inr (3, [.ref h1, .ref h2, .ref h3, .int (nI c1)])), (h1, .inr (2, [.ref h4, .int (nI k), .int (nI c2)])), (h4, .inl (cI, 12, .inl f)), (h2, .inr (1, [.ref h5, .int (nI ag)])), (h5, .inl (cI, 4096, .inl g)), (h3, .inr (1, [.ref h6, .int (nI a2)]))]) [0, 1, 2, 3, 4, 5] (by decide) rfl
  refine lz_qf (wr := []) (w1 := fun (u : Nat → Int32) => [(h0, .inr (3, [.ref h1, .ref h2, .ref h3, .int (nI c2)])), (h1, .inr (2, [.ref h4, .int (nI k), .int (nI c2)])), (h4, .inl (cI, 12, .inl f)), (h2, .inr (1, [.ref h5, .int (nI (ag + 1))])), (h5, .inl (cI, 4096, .inl u)), (h3, .inr (1, [.ref h6, .int (nI (a2 + 1))]))]) (As := [.int (nI (2 ^ k - 1))]) (rest := [.int 2, .int (nI k)]) ⟨hx, hb, hml, hown, hts⟩ (c_best l D cI cS _ h0 h1 h2 h3 h4 h5 h6 f g k c1 c2 ag a2 (2 ^ k - 1) hk hc hc1 hc2 hag ha2 hv4 hsy (by omega) hms) hKK hP hD hS hA [0, 1, 2, 3, 4, 5] [] (by decide) rfl rfl (by decide) (by decide) hPc hDc (ci := 3) rfl rfl (cwV 1 hts gX3_lack_X3_best rfl rfl rfl (by decide +kernel) ⟨Nat.le_of_ble_eq_true rfl, Nat.le_of_ble_eq_true rfl⟩) rfl hl.1 rfl (Nat.le_of_ble_eq_true rfl) dX3_lack_7 ⟨Nat.le_of_ble_eq_true rfl, Nat.le_of_ble_eq_true rfl⟩ (fun r9 u H locs hu hP hD hS => ?_)
  have hP : va_P D cls [(h0, .inr (3, [.ref h1, .ref h2, .ref h3, .int (nI c2)])), (h1, .inr (2, [.ref h4, .int (nI k), .int (nI c2)])), (h4, .inl (cI, 12, .inl f)), (h2, .inr (1, [.ref h5, .int (nI (ag + 1))])), (h5, .inl (cI, 4096, .inl u)), (h3, .inr (1, [.ref h6, .int (nI (a2 + 1))]))] H := hP
  have hD : va_D A [(h0, .inr (3, [.ref h1, .ref h2, .ref h3, .int (nI c2)])), (h1, .inr (2, [.ref h4, .int (nI k), .int (nI c2)])), (h4, .inl (cI, 12, .inl f)), (h2, .inr (1, [.ref h5, .int (nI (ag + 1))])), (h5, .inl (cI, 4096, .inl u)), (h3, .inr (1, [.ref h6, .int (nI (a2 + 1))]))] := hD
  refine lz_top (y := (nI (nuS k f (2 ^ k - 1)))) (hu.1) ?_
  refine lv_imul hx hb dX3_lack_10 ?_
  refine lv_isub hx hb dX3_lack_11 ?_
  refine lz_top (y := (nI k - (2 : Int32) * nI (nuS k f (2 ^ k - 1)))) (rfl) ?_
  have hP9 : va_P D cls [(h0, .inr (3, [.ref h1, .ref h2, .ref h3, .int (nI c2)])), (h1, .inr (2, [.ref h4, .int (nI k), .int (nI c2)])), (h4, .inl (cI, 12, .inl f)), (h2, .inr (1, [.ref h5, .int (nI (ag + 1))])), (h5, .inl (cI, 4096, .inl u)), (h3, .inr (1, [.ref h6, .int (nI (a2 + 1))]))] H := hP.sub [0, 1, 2, 3, 4, 5] rfl
  have hD9 : va_D A [(h0, .inr (3, [.ref h1, .ref h2, .ref h3, .int (nI c2)])), (h1, .inr (2, [.ref h4, .int (nI k), .int (nI c2)])), (h4, .inl (cI, 12, .inl f)), (h2, .inr (1, [.ref h5, .int (nI (ag + 1))])), (h5, .inl (cI, 4096, .inl u)), (h3, .inr (1, [.ref h6, .int (nI (a2 + 1))]))] := hD.sub [0, 1, 2, 3, 4, 5] (by decide) rfl
  subst hAe
  exact W.iret (v := (nI k - (2 : Int32) * nI (nuS k f (2 ^ k - 1)))) hx hb hr (fun t ht hW => ⟨⟨_, u, rfl, ⟨rfl, hu.2⟩, by rw [ht]; exact hP9, hD9⟩, hS.F ht⟩) hS.2.2 dX3_lack_12
