theorem lz_nle {a b : Int32} (h : ¬ a ≤ b) : b < a := by
  have z := mt (lz_le a b).mpr h
  rw [lz_lt]
  omega
theorem lz_len {a b : Int32} (h : a ≤ b) : ¬ b < a := fun z => by
  have z1 := (lz_le a b).mp h
  have z2 := (lz_lt b a).mp z
  omega
theorem ncn_full : ∀ k, k < 13 → ncn (tb (2 ^ k - 1)) 12 = k := by decide
set_option maxHeartbeats 4000000 in
set_option maxRecDepth 100000 in
theorem c_X2_all_1 (l : Launch) (D : va_G) (cI cS : ClassId) (h0 h1 : Nat) (x0 x1 : Int32) : Met l yX2_all wsX2_all ({ frames := 0, cells := 0, slots := 0, locals := 0 }) (PS D cI cS [(h0, .inr (2, [.ref h1, .int x0, .int x1]))] [.ref h0]) (vp_Si (fun r => r = ((1 : Int32) <<< (x0 &&& 31)) - (1 : Int32))) 0 0 (fun _ => False) := by
  refine Met.ofW (cc := cX2_all) (maxL := 1) (ret := (some .int)) (by decide) rfl ?_
  intro p e s m args below meth c s₁ B hml hv
  obtain ⟨rfl, hP, hKK⟩ := hv
  have hx := B.exec
  have hb := B.bytes
  have hr := B.returns
  have hts := atoms_spec (ws := wsX2_all) B.pre
  have hown : s.vm.findClass RX2 = some m.cls := findClass_of_methodNamed B.named
  have hlocks := B.notSynchronized
  have hK := hKK.1
  have hN := hKK.2
  have hin2 : ∀ w ∈ wsX20, w ∈ wsX2_all := by decide +kernel
  have hl := lv_entry ([.ref h0]) (n := 1) (Nat.le_of_ble_eq_true rfl)
  rw [lg_entry_eq]
  generalize (lg_sl ([.ref h0]) ++ List.replicate (1 - (lg_sl ([.ref h0])).length) Slot.unset).toArray = ls at hl ⊢
  have hl : lv_has ls 1 [(0, .ref h0)] := hl
  refine lv_iconst (v := 1) hx hb dX2_all_0 (by decide) ?_
  refine lv_aload_n hx hb dX2_all_1 rfl (lv_at hl 0 rfl) ?_
  refine va_get (D := D) (ci := 2) (v := .int x0) (C := RX2) (T := TX2) (N := 3) hx hb hts hin2 hown hK hP 0 rfl rfl 1 (by decide) (hts (.fieldLink RX2 15 "MissedPoints$Net" "size" "I") (by decide +kernel)) (fun _ h9 => h9) rfl dX2_all_2 ?_
  refine lv_ishl hx hb dX2_all_5 ?_
  refine lv_iconst (v := 1) hx hb dX2_all_6 (by decide) ?_
  refine lv_isub hx hb dX2_all_7 ?_
  exact W.iret (v := ((1 : Int32) <<< (x0 &&& 31)) - (1 : Int32)) hx hb hr (fun t ht hW => ⟨_, rfl, rfl, ht⟩) (fun q hq => absurd hq List.not_mem_nil) dX2_all_8
set_option maxRecDepth 20000 in
theorem ggX3_notice_X1_forget : GoodIn wsX3_notice wsX1_forget := goodIn_r _ [9, 10, 11, 19, 20] (by decide +kernel) (by decide +kernel)
set_option maxRecDepth 20000 in
theorem gX3_notice_X1_forget : GoodIn wsX3_notice (wsV RX3 36 RX1 yX1_forget wsX1_forget) := goodIn_app (goodIn_of _ (by decide +kernel)) ggX3_notice_X1_forget
theorem dX3_notice_14 : decode cX3_notice 14 = .ok (.aload_n 0, 1) := by decide +kernel
theorem dX3_notice_15 : decode cX3_notice 15 = .ok (.aload_n 0, 1) := by decide +kernel
theorem dX3_notice_16 : decode cX3_notice 16 = .ok (.getfield 23, 3) := by decide +kernel
theorem dX3_notice_19 : decode cX3_notice 19 = .ok (.getfield 31, 3) := by decide +kernel
theorem dX3_notice_22 : decode cX3_notice 22 = .ok (.putfield 27, 3) := by decide +kernel
theorem dX3_notice_25 : decode cX3_notice 25 = .ok (.aload_n 0, 1) := by decide +kernel
theorem dX3_notice_26 : decode cX3_notice 26 = .ok (.getfield 14, 3) := by decide +kernel
theorem dX3_notice_29 : decode cX3_notice 29 = .ok (.invokevirtual 36, 3) := by decide +kernel
theorem dX3_notice_32 : decode cX3_notice 32 = .ok (.aload_n 0, 1) := by decide +kernel
theorem dX3_notice_33 : decode cX3_notice 33 = .ok (.getfield 20, 3) := by decide +kernel
theorem dX3_notice_36 : decode cX3_notice 36 = .ok (.invokevirtual 36, 3) := by decide +kernel
set_option maxHeartbeats 4000000 in
set_option maxRecDepth 100000 in
theorem c_notice (l : Launch) (D : va_G) (cI cS : ClassId) (sz : Nat) (h0 h1 h2 h3 h4 h5 h6 : Nat) (k c1 c2 ag a2 : Nat) (hc : c1 ≠ c2) (hc1 : c1 < 2 ^ 31) (hc2 : c2 < 2 ^ 31) (hag : ag < 32767) (ha2 : a2 < 32767) : Met l yX3_notice wsX3_notice ({ frames := 1, cells := 0, slots := 0, locals := 40 }) (PQ D cI cS [(h0, .inr (3, [.ref h1, .ref h2, .ref h3, .int (nI c1)])), (h1, .inr (2, [.ref h4, .int (nI k), .int (nI c2)])), (h2, .inr (1, [.ref h5, .int (nI ag)])), (h3, .inr (1, [.ref h6, .int (nI a2)]))] sz [.ref h0]) (QV D [(h0, .inr (3, [.ref h1, .ref h2, .ref h3, .int (nI c1)])), (h1, .inr (2, [.ref h4, .int (nI k), .int (nI c2)])), (h2, .inr (1, [.ref h5, .int (nI ag)])), (h3, .inr (1, [.ref h6, .int (nI a2)]))] [(h0, .inr (3, [.ref h1, .ref h2, .ref h3, .int (nI c2)])), (h1, .inr (2, [.ref h4, .int (nI k), .int (nI c2)])), (h2, .inr (1, [.ref h5, .int (nI (ag + 1))])), (h3, .inr (1, [.ref h6, .int (nI (a2 + 1))]))] sz) 0 0 (va_A [(h0, .inr (3, [.ref h1, .ref h2, .ref h3, .int (nI c1)])), (h1, .inr (2, [.ref h4, .int (nI k), .int (nI c2)])), (h2, .inr (1, [.ref h5, .int (nI ag)])), (h3, .inr (1, [.ref h6, .int (nI a2)]))] sz) := by
  refine Met.ofW (cc := cX3_notice) (maxL := 1) (ret := none) (by decide) rfl ?_
  intro p e s m args below meth c s₁ B hml hv
  obtain ⟨rfl, hsz, hP, hKK, hD0⟩ := hv
  have hx := B.exec
  have hb := B.bytes
  have hr := B.returns
  have hts := atoms_spec (ws := wsX3_notice) B.pre
  have hown : s.vm.findClass RX3 = some m.cls := findClass_of_methodNamed B.named
  have hlocks := B.notSynchronized
  have hK := hKK.1
  have hN := hKK.2
  have hin2 : ∀ w ∈ wsX20, w ∈ wsX3_notice := by decide +kernel
  have hin3 : ∀ w ∈ wsX30, w ∈ wsX3_notice := by decide +kernel
  subst hsz
  have hD := hD0.self (sz := s.heap.size)
  obtain ⟨A, hAe⟩ : ∃ A, A = va_A [(h0, .inr (3, [.ref h1, .ref h2, .ref h3, .int (nI c1)])), (h1, .inr (2, [.ref h4, .int (nI k), .int (nI c2)])), (h2, .inr (1, [.ref h5, .int (nI ag)])), (h3, .inr (1, [.ref h6, .int (nI a2)]))] s.heap.size := ⟨_, rfl⟩
  rw [← hAe] at hD
  have hA : ∀ q : Nat, s.heap.size ≤ q → A q := fun q h => by rw [hAe]; exact Or.inr h
  have hS : va_S A s.heap s.heap [] := va_S.rf
  have hl := lv_entry ([.ref h0]) (n := 1) (Nat.le_of_ble_eq_true rfl)
  rw [lg_entry_eq]
  generalize (lg_sl ([.ref h0]) ++ List.replicate (1 - (lg_sl ([.ref h0])).length) Slot.unset).toArray = ls at hl ⊢
  have hl : lv_has ls 1 [(0, .ref h0)] := hl
  refine lv_aload_n hx hb dX3_notice_0 rfl (lv_at hl 0 rfl) ?_
  refine va_get (D := D) (ci := 3) (v := .int (nI c1)) (C := RX3) (T := TX3) (N := 4) hx hb hts hin3 hown hK hP 0 rfl rfl 3 (by decide) (hts (.fieldLink RX3 27 "MissedPoints$Pairs" "changesSeen" "I") (by decide +kernel)) (fun _ h9 => h9) rfl dX3_notice_1 ?_
  refine lv_aload_n hx hb dX3_notice_4 rfl (lv_at hl 0 rfl) ?_
  refine va_get (D := D) (ci := 3) (v := .ref h1) (C := RX3) (T := TX3) (N := 4) hx hb hts hin3 hown hK hP 0 rfl rfl 0 (by decide) (hts (.fieldLink RX3 23 "MissedPoints$Pairs" "net" "LMissedPoints$Net;") (by decide +kernel)) (fun _ h9 => h9) rfl dX3_notice_5 ?_
  refine va_getN (D := D) (ci := 2) (v := .int (nI c2)) (C := RX2) (T := TX2) (N := 3) hx hb hts hin2 hown hK hP 1 rfl rfl 2 (by decide) (va_Nw.use rfl hN.2.2.2.2.2.2.2.2.2.2.1) (fun _ h9 => h9) rfl dX3_notice_8 ?_
  refine lv_icmp_eq (tgt := 39) hx hb dX3_notice_11 (by decide) (fun c5307 => ?_) (fun c5307 => ?_)
  · exact absurd c5307 (fun e => hc ((nI_eq hc1 hc2).mp e))
  · refine lv_aload_n hx hb dX3_notice_14 rfl (lv_at hl 0 rfl) ?_
    refine lv_aload_n hx hb dX3_notice_15 rfl (lv_at hl 0 rfl) ?_
    refine va_get (D := D) (ci := 3) (v := .ref h1) (C := RX3) (T := TX3) (N := 4) hx hb hts hin3 hown hK hP 0 rfl rfl 0 (by decide) (hts (.fieldLink RX3 23 "MissedPoints$Pairs" "net" "LMissedPoints$Net;") (by decide +kernel)) (fun _ h9 => h9) rfl dX3_notice_16 ?_
    refine va_getN (D := D) (ci := 2) (v := .int (nI c2)) (C := RX2) (T := TX2) (N := 3) hx hb hts hin2 hown hK hP 1 rfl rfl 2 (by decide) (va_Nw.use rfl hN.2.2.2.2.2.2.2.2.2.2.1) (fun _ h9 => h9) rfl dX3_notice_19 ?_
    refine va_put (D := D) (ci := 3) (v := .int (nI c2)) (ty := .int) (C := RX3) (T := TX3) (N := 4) hx hb hts hin3 tyX3 tyX3_ok nmX3 hown hK hP hD hS 0 rfl rfl 3 (by decide) (hts (.fieldLink RX3 27 "MissedPoints$Pairs" "changesSeen" "I") (by decide +kernel)) (fun _ h9 => h9) rfl (by decide +kernel) rfl rfl (Nat.le_of_ble_eq_true rfl) dX3_notice_22 (fun H locs hP hD hS => ?_)
    have hP : va_P D cls [(h0, .inr (3, [.ref h1, .ref h2, .ref h3, .int (nI c2)])), (h1, .inr (2, [.ref h4, .int (nI k), .int (nI c2)])), (h2, .inr (1, [.ref h5, .int (nI ag)])), (h3, .inr (1, [.ref h6, .int (nI a2)]))] H := hP
    have hD : va_D A [(h0, .inr (3, [.ref h1, .ref h2, .ref h3, .int (nI c2)])), (h1, .inr (2, [.ref h4, .int (nI k), .int (nI c2)])), (h2, .inr (1, [.ref h5, .int (nI ag)])), (h3, .inr (1, [.ref h6, .int (nI a2)]))] := hD
    refine lv_aload_n hx hb dX3_notice_25 rfl (lv_at hl 0 rfl) ?_
    refine va_get (D := D) (ci := 3) (v := .ref h2) (C := RX3) (T := TX3) (N := 4) hx hb hts hin3 hown hK hP 0 rfl rfl 1 (by decide) (hts (.fieldLink RX3 14 "MissedPoints$Pairs" "mosts" "LMissedPoints$Memo;") (by decide +kernel)) (fun _ h9 => h9) rfl dX3_notice_26 ?_
    have hPc := hP.sub (ws' := [(h2, .inr (1, [.ref h5, .int (nI ag)]))]) [2] rfl
    have hDc := hD.sub (ws' := [(h2, .inr (1, [.ref h5, .int (nI ag)]))]) [2] (by decide) rfl
    refine lz_qv (wr := [(h0, .inr (3, [.ref h1, .ref h2, .ref h3, .int (nI c2)])), (h1, .inr (2, [.ref h4, .int (nI k), .int (nI c2)])), (h3, .inr (1, [.ref h6, .int (nI a2)]))]) (w1 := [(h2, .inr (1, [.ref h5, .int (nI (ag + 1))]))]) (As := []) (rest := []) ⟨hx, hb, hml, hown, hts⟩ (c_forget l D cI cS _ h2 h5 ag hag) hKK hP hD hS hA [2] [0, 1, 3] (by decide) rfl rfl (by decide) (by decide) hPc hDc (ci := 1) rfl rfl (cwV 0 hts gX3_notice_X1_forget rfl rfl rfl (by decide +kernel) ⟨Nat.le_of_ble_eq_true rfl, Nat.le_of_ble_eq_true rfl⟩) rfl hl.1 rfl (Nat.le_of_ble_eq_true rfl) dX3_notice_29 ⟨Nat.le_of_ble_eq_true rfl, Nat.le_of_ble_eq_true rfl⟩ (fun H locs hP hD hS => ?_)
    have hP : va_P D cls [(h0, .inr (3, [.ref h1, .ref h2, .ref h3, .int (nI c2)])), (h1, .inr (2, [.ref h4, .int (nI k), .int (nI c2)])), (h3, .inr (1, [.ref h6, .int (nI a2)])), (h2, .inr (1, [.ref h5, .int (nI (ag + 1))]))] H := hP
    have hD : va_D A [(h0, .inr (3, [.ref h1, .ref h2, .ref h3, .int (nI c2)])), (h1, .inr (2, [.ref h4, .int (nI k), .int (nI c2)])), (h3, .inr (1, [.ref h6, .int (nI a2)])), (h2, .inr (1, [.ref h5, .int (nI (ag + 1))]))] := hD
    refine lv_aload_n hx hb dX3_notice_32 rfl (lv_at hl 0 rfl) ?_
    refine va_get (D := D) (ci := 3) (v := .ref h3) (C := RX3) (T := TX3) (N := 4) hx hb hts hin3 hown hK hP 0 rfl rfl 2 (by decide) (hts (.fieldLink RX3 20 "MissedPoints$Pairs" "numbers" "LMissedPoints$Memo;") (by decide +kernel)) (fun _ h9 => h9) rfl dX3_notice_33 ?_
    have hPc := hP.sub (ws' := [(h3, .inr (1, [.ref h6, .int (nI a2)]))]) [2] rfl
    have hDc := hD.sub (ws' := [(h3, .inr (1, [.ref h6, .int (nI a2)]))]) [2] (by decide) rfl
    refine lz_qv (wr := [(h0, .inr (3, [.ref h1, .ref h2, .ref h3, .int (nI c2)])), (h1, .inr (2, [.ref h4, .int (nI k), .int (nI c2)])), (h2, .inr (1, [.ref h5, .int (nI (ag + 1))]))]) (w1 := [(h3, .inr (1, [.ref h6, .int (nI (a2 + 1))]))]) (As := []) (rest := []) ⟨hx, hb, hml, hown, hts⟩ (c_forget l D cI cS _ h3 h6 a2 ha2) hKK hP hD hS hA [2] [0, 1, 3] (by decide) rfl rfl (by decide) (by decide) hPc hDc (ci := 1) rfl rfl (cwV 0 hts gX3_notice_X1_forget rfl rfl rfl (by decide +kernel) ⟨Nat.le_of_ble_eq_true rfl, Nat.le_of_ble_eq_true rfl⟩) rfl hl.1 rfl (Nat.le_of_ble_eq_true rfl) dX3_notice_36 ⟨Nat.le_of_ble_eq_true rfl, Nat.le_of_ble_eq_true rfl⟩ (fun H locs hP hD hS => ?_)
    have hP : va_P D cls [(h0, .inr (3, [.ref h1, .ref h2, .ref h3, .int (nI c2)])), (h1, .inr (2, [.ref h4, .int (nI k), .int (nI c2)])), (h2, .inr (1, [.ref h5, .int (nI (ag + 1))])), (h3, .inr (1, [.ref h6, .int (nI (a2 + 1))]))] H := hP
    have hD : va_D A [(h0, .inr (3, [.ref h1, .ref h2, .ref h3, .int (nI c2)])), (h1, .inr (2, [.ref h4, .int (nI k), .int (nI c2)])), (h2, .inr (1, [.ref h5, .int (nI (ag + 1))])), (h3, .inr (1, [.ref h6, .int (nI (a2 + 1))]))] := hD
    have hP9 : va_P D cls [(h0, .inr (3, [.ref h1, .ref h2, .ref h3, .int (nI c2)])), (h1, .inr (2, [.ref h4, .int (nI k), .int (nI c2)])), (h2, .inr (1, [.ref h5, .int (nI (ag + 1))])), (h3, .inr (1, [.ref h6, .int (nI (a2 + 1))]))] H := hP.sub [0, 1, 2, 3] rfl
    have hD9 : va_D A [(h0, .inr (3, [.ref h1, .ref h2, .ref h3, .int (nI c2)])), (h1, .inr (2, [.ref h4, .int (nI k), .int (nI c2)])), (h2, .inr (1, [.ref h5, .int (nI (ag + 1))])), (h3, .inr (1, [.ref h6, .int (nI (a2 + 1))]))] := hD.sub [0, 1, 2, 3] (by decide) rfl
    subst hAe
    exact W.vret hx hb hr (fun t ht hW => ⟨⟨(), rfl, trivial, by rw [ht]; exact hP9, hD9⟩, hS.F ht⟩) hS.2.2 dX3_notice_39
set_option maxHeartbeats 4000000 in
set_option maxRecDepth 100000 in
theorem c_best (l : Launch) (D : va_G) (cI cS : ClassId) (sz : Nat) (h0 h1 h2 h3 h4 h5 h6 : Nat) (f g : Nat → Int32) (k c1 c2 ag a2 n : Nat) (hk : k ≤ 12) (hc : c1 ≠ c2) (hc1 : c1 < 2 ^ 31) (hc2 : c2 < 2 ^ 31) (hag : ag < 32766) (ha2 : a2 < 32767) (hv4 : Lo k f) (hsy : Sym k f) (hn : n < 2 ^ k) (hms : MS ag g) : Met l yX3_best wsX3_best ({ frames := 20, cells := 0, slots := 0, locals := 800 }) (PQ D cI cS [(h0, .inr (3, [.ref h1, .ref h2, .ref h3, .int (nI c1)])), (h1, .inr (2, [.ref h4, .int (nI k), .int (nI c2)])), (h4, .inl (cI, 12, .inl f)), (h2, .inr (1, [.ref h5, .int (nI ag)])), (h5, .inl (cI, 4096, .inl g)), (h3, .inr (1, [.ref h6, .int (nI a2)]))] sz [.ref h0, .int (nI n)]) (QF (S := Nat → Int32) D [(h0, .inr (3, [.ref h1, .ref h2, .ref h3, .int (nI c1)])), (h1, .inr (2, [.ref h4, .int (nI k), .int (nI c2)])), (h4, .inl (cI, 12, .inl f)), (h2, .inr (1, [.ref h5, .int (nI ag)])), (h5, .inl (cI, 4096, .inl g)), (h3, .inr (1, [.ref h6, .int (nI a2)]))] (fun u => [(h0, .inr (3, [.ref h1, .ref h2, .ref h3, .int (nI c2)])), (h1, .inr (2, [.ref h4, .int (nI k), .int (nI c2)])), (h4, .inl (cI, 12, .inl f)), (h2, .inr (1, [.ref h5, .int (nI (ag + 1))])), (h5, .inl (cI, 4096, .inl u)), (h3, .inr (1, [.ref h6, .int (nI (a2 + 1))]))]) sz (fun r u => r = nI (nuS k f n) ∧ MS (ag + 1) u)) 0 0 (va_A [(h0, .inr (3, [.ref h1, .ref h2, .ref h3, .int (nI c1)])), (h1, .inr (2, [.ref h4, .int (nI k), .int (nI c2)])), (h4, .inl (cI, 12, .inl f)), (h2, .inr (1, [.ref h5, .int (nI ag)])), (h5, .inl (cI, 4096, .inl g)), (h3, .inr (1, [.ref h6, .int (nI a2)]))] sz) := by
  refine Met.ofW (cc := cX3_best) (maxL := 2) (ret := (some .int)) (by decide) rfl ?_
  intro p e s m args below meth c s₁ B hml hv
  obtain ⟨rfl, hsz, hP, hKK, hD0⟩ := hv
  have hx := B.exec
  have hb := B.bytes
  have hr := B.returns
  have hts := atoms_spec (ws := wsX3_best) B.pre
  have hown : s.vm.findClass RX3 = some m.cls := findClass_of_methodNamed B.named
  have hlocks := B.notSynchronized
  have hK := hKK.1
  have hN := hKK.2
  subst hsz
  have hD := hD0.self (sz := s.heap.size)
  obtain ⟨A, hAe⟩ : ∃ A, A = va_A [(h0, .inr (3, [.ref h1, .ref h2, .ref h3, .int (nI c1)])), (h1, .inr (2, [.ref h4, .int (nI k), .int (nI c2)])), (h4, .inl (cI, 12, .inl f)), (h2, .inr (1, [.ref h5, .int (nI ag)])), (h5, .inl (cI, 4096, .inl g)), (h3, .inr (1, [.ref h6, .int (nI a2)]))] s.heap.size := ⟨_, rfl⟩
  rw [← hAe] at hD
  have hA : ∀ q : Nat, s.heap.size ≤ q → A q := fun q h => by rw [hAe]; exact Or.inr h
  have hS : va_S A s.heap s.heap [] := va_S.rf
  have hl := lv_entry ([.ref h0, .int (nI n)]) (n := 2) (Nat.le_of_ble_eq_true rfl)
  rw [lg_entry_eq]
  generalize (lg_sl ([.ref h0, .int (nI n)]) ++ List.replicate (2 - (lg_sl ([.ref h0, .int (nI n)])).length) Slot.unset).toArray = ls at hl ⊢
  have hl : lv_has ls 2 [(0, .ref h0), (1, .int (nI n))] := hl
  refine lv_aload_n hx hb dX3_best_0 rfl (lv_at hl 0 rfl) ?_
  have hPc := hP.sub (ws' := [(h0, .inr (3, [.ref h1, .ref h2, .ref h3, .int (nI c1)])), (h1, .inr (2, [.ref h4, .int (nI k), .int (nI c2)])), (h2, .inr (1, [.ref h5, .int (nI ag)])), (h3, .inr (1, [.ref h6, .int (nI a2)]))]) [0, 1, 3, 5] rfl
  have hDc := hD.sub (ws' := [(h0, .inr (3, [.ref h1, .ref h2, .ref h3, .int (nI c1)])), (h1, .inr (2, [.ref h4, .int (nI k), .int (nI c2)])), (h2, .inr (1, [.ref h5, .int (nI ag)])), (h3, .inr (1, [.ref h6, .int (nI a2)]))]) [0, 1, 3, 5] (by decide) rfl
  refine lz_qv (wr := [(h4, .inl (cI, 12, .inl f)), (h5, .inl (cI, 4096, .inl g))]) (w1 := [(h0, .inr (3, [.ref h1, .ref h2, .ref h3, .int (nI c2)])), (h1, .inr (2, [.ref h4, .int (nI k), .int (nI c2)])), (h2, .inr (1, [.ref h5, .int (nI (ag + 1))])), (h3, .inr (1, [.ref h6, .int (nI (a2 + 1))]))]) (As := []) (rest := []) ⟨hx, hb, hml, hown, hts⟩ (c_notice l D cI cS _ h0 h1 h2 h3 h4 h5 h6 k c1 c2 ag a2 hc hc1 hc2 (by omega) ha2) hKK hP hD hS hA [0, 1, 3, 5] [2, 4] (by decide) rfl rfl (by decide) (by decide) hPc hDc (ci := 3) rfl rfl (cwV 0 hts gX3_best_X3_notice rfl rfl rfl (by decide +kernel) ⟨by show 1 + 1 ≤ 20; omega, by show 8 + (1 + 11) + 40 ≤ 800; omega⟩) rfl hl.1 rfl (Nat.le_of_ble_eq_true rfl) dX3_best_1 ⟨Nat.le_of_ble_eq_true rfl, Nat.le_of_ble_eq_true rfl⟩ (fun H locs hP hD hS => ?_)
  have hP : va_P D cls [(h4, .inl (cI, 12, .inl f)), (h5, .inl (cI, 4096, .inl g)), (h0, .inr (3, [.ref h1, .ref h2, .ref h3, .int (nI c2)])), (h1, .inr (2, [.ref h4, .int (nI k), .int (nI c2)])), (h2, .inr (1, [.ref h5, .int (nI (ag + 1))])), (h3, .inr (1, [.ref h6, .int (nI (a2 + 1))]))] H := hP
  have hD : va_D A [(h4, .inl (cI, 12, .inl f)), (h5, .inl (cI, 4096, .inl g)), (h0, .inr (3, [.ref h1, .ref h2, .ref h3, .int (nI c2)])), (h1, .inr (2, [.ref h4, .int (nI k), .int (nI c2)])), (h2, .inr (1, [.ref h5, .int (nI (ag + 1))])), (h3, .inr (1, [.ref h6, .int (nI (a2 + 1))]))] := hD
  refine lv_aload_n hx hb dX3_best_4 rfl (lv_at hl 0 rfl) ?_
  refine lv_iload_n hx hb dX3_best_5 rfl (lv_at hl 1 rfl) ?_
  refine lv_iconst (v := 0) hx hb dX3_best_6 (by decide) ?_
  refine lz_top (y := (nI 0)) (nI_0.symm) ?_
  have hPc := hP.sub (ws' := [(h0, .inr (3, [.ref h1, .ref h2, .ref h3, .int (nI c2)])), (h1, .inr (2, [.ref h4, .int (nI k), .int (nI c2)])), (h4, .inl (cI, 12, .inl f)), (h2, .inr (1, [.ref h5, .int (nI (ag + 1))])), (h5, .inl (cI, 4096, .inl g))]) [2, 3, 0, 4, 1] rfl
  have hDc := hD.sub (ws' := [(h0, .inr (3, [.ref h1, .ref h2, .ref h3, .int (nI c2)])), (h1, .inr (2, [.ref h4, .int (nI k), .int (nI c2)])), (h4, .inl (cI, 12, .inl f)), (h2, .inr (1, [.ref h5, .int (nI (ag + 1))])), (h5, .inl (cI, 4096, .inl g))]) [2, 3, 0, 4, 1] (by decide) rfl
  refine lz_qf (wr := [(h3, .inr (1, [.ref h6, .int (nI (a2 + 1))]))]) (w1 := fun (u : Nat → Int32) => [(h0, .inr (3, [.ref h1, .ref h2, .ref h3, .int (nI c2)])), (h1, .inr (2, [.ref h4, .int (nI k), .int (nI c2)])), (h4, .inl (cI, 12, .inl f)), (h2, .inr (1, [.ref h5, .int (nI (ag + 1))])), (h5, .inl (cI, 4096, .inl u))]) (As := [.int (nI n), .int (nI 0)]) (rest := []) ⟨hx, hb, hml, hown, hts⟩ (c_bestOf l D cI cS h0 h1 h2 h3 h4 h5 f (nI c2) (nI c2) k (ag + 1) hk (by omega) hv4 hsy k _ g n 0 (Nat.le_refl _) hn (by omega) (hms.mv k f)) hKK hP hD hS hA [2, 3, 0, 4, 1] [5] (by decide) rfl rfl (by decide) (by decide) hPc hDc (ci := 3) rfl rfl (cwV 2 hts gX3_best_X3_bestOf rfl rfl rfl (by decide +kernel) ⟨by show k + 1 + 1 ≤ 20; omega, by show 8 + (11 + 11) + 40 * (k + 1) ≤ 800; omega⟩) rfl hl.1 rfl (Nat.le_of_ble_eq_true rfl) dX3_best_7 ⟨Nat.le_of_ble_eq_true rfl, Nat.le_of_ble_eq_true rfl⟩ (fun r9 u H locs hu hP hD hS => ?_)
  have hP : va_P D cls [(h3, .inr (1, [.ref h6, .int (nI (a2 + 1))])), (h0, .inr (3, [.ref h1, .ref h2, .ref h3, .int (nI c2)])), (h1, .inr (2, [.ref h4, .int (nI k), .int (nI c2)])), (h4, .inl (cI, 12, .inl f)), (h2, .inr (1, [.ref h5, .int (nI (ag + 1))])), (h5, .inl (cI, 4096, .inl u))] H := hP
  have hD : va_D A [(h3, .inr (1, [.ref h6, .int (nI (a2 + 1))])), (h0, .inr (3, [.ref h1, .ref h2, .ref h3, .int (nI c2)])), (h1, .inr (2, [.ref h4, .int (nI k), .int (nI c2)])), (h4, .inl (cI, 12, .inl f)), (h2, .inr (1, [.ref h5, .int (nI (ag + 1))])), (h5, .inl (cI, 4096, .inl u))] := hD
  refine lz_top (y := (nI (nuS k f n))) (hu.1) ?_
  have hP9 : va_P D cls [(h0, .inr (3, [.ref h1, .ref h2, .ref h3, .int (nI c2)])), (h1, .inr (2, [.ref h4, .int (nI k), .int (nI c2)])), (h4, .inl (cI, 12, .inl f)), (h2, .inr (1, [.ref h5, .int (nI (ag + 1))])), (h5, .inl (cI, 4096, .inl u)), (h3, .inr (1, [.ref h6, .int (nI (a2 + 1))]))] H := hP.sub [1, 2, 3, 4, 5, 0] rfl
  have hD9 : va_D A [(h0, .inr (3, [.ref h1, .ref h2, .ref h3, .int (nI c2)])), (h1, .inr (2, [.ref h4, .int (nI k), .int (nI c2)])), (h4, .inl (cI, 12, .inl f)), (h2, .inr (1, [.ref h5, .int (nI (ag + 1))])), (h5, .inl (cI, 4096, .inl u)), (h3, .inr (1, [.ref h6, .int (nI (a2 + 1))]))] := hD.sub [1, 2, 3, 4, 5, 0] (by decide) rfl
  subst hAe
  exact W.iret (v := nI (nuS k f n)) hx hb hr (fun t ht hW => ⟨⟨_, u, rfl, ⟨rfl, hu.2.ms⟩, by rw [ht]; exact hP9, hD9⟩, hS.F ht⟩) hS.2.2 dX3_best_10
set_option maxHeartbeats 4000000 in
set_option maxRecDepth 100000 in
theorem c_lackX (l : Launch) (D : va_G) (cI cS : ClassId) (sz : Nat) (h0 h1 h2 h3 h4 h5 h6 : Nat) (f g : Nat → Int32) (k c1 c2 ag a2 : Nat) (hk : k ≤ 12) (hc : c1 ≠ c2) (hc1 : c1 < 2 ^ 31) (hc2 : c2 < 2 ^ 31) (hag : ag < 32766) (ha2 : a2 < 32767) (hv4 : Lo k f) (hsy : Sym k f) (hms : MS ag g) : Met l yX3_lack wsX3_lack ({ frames := 21, cells := 0, slots := 0, locals := 840 }) (PQ D cI cS [(h0, .inr (3, [.ref h1, .ref h2, .ref h3, .int (nI c1)])), (h1, .inr (2, [.ref h4, .int (nI k), .int (nI c2)])), (h4, .inl (cI, 12, .inl f)), (h2, .inr (1, [.ref h5, .int (nI ag)])), (h5, .inl (cI, 4096, .inl g)), (h3, .inr (1, [.ref h6, .int (nI a2)]))] sz [.ref h0, .int (nI (2 ^ k - 1))]) (QF (S := Nat → Int32) D [(h0, .inr (3, [.ref h1, .ref h2, .ref h3, .int (nI c1)])), (h1, .inr (2, [.ref h4, .int (nI k), .int (nI c2)])), (h4, .inl (cI, 12, .inl f)), (h2, .inr (1, [.ref h5, .int (nI ag)])), (h5, .inl (cI, 4096, .inl g)), (h3, .inr (1, [.ref h6, .int (nI a2)]))] (fun u => [(h0, .inr (3, [.ref h1, .ref h2, .ref h3, .int (nI c2)])), (h1, .inr (2, [.ref h4, .int (nI k), .int (nI c2)])), (h4, .inl (cI, 12, .inl f)), (h2, .inr (1, [.ref h5, .int (nI (ag + 1))])), (h5, .inl (cI, 4096, .inl u)), (h3, .inr (1, [.ref h6, .int (nI (a2 + 1))]))]) sz (fun r u => r = (nI k - (2 : Int32) * nI (nuS k f (2 ^ k - 1))) ∧ MS (ag + 1) u)) 0 0 (va_A [(h0, .inr (3, [.ref h1, .ref h2, .ref h3, .int (nI c1)])), (h1, .inr (2, [.ref h4, .int (nI k), .int (nI c2)])), (h4, .inl (cI, 12, .inl f)), (h2, .inr (1, [.ref h5, .int (nI ag)])), (h5, .inl (cI, 4096, .inl g)), (h3, .inr (1, [.ref h6, .int (nI a2)]))] sz) := by
  refine Met.ofW (cc := cX3_lack) (maxL := 2) (ret := (some .int)) (by decide) rfl ?_
  intro p e s m args below meth c s₁ B hml hv
  obtain ⟨rfl, hsz, hP, hKK, hD0⟩ := hv
  have hx := B.exec
  have hb := B.bytes
  have hr := B.returns
  have hts := atoms_spec (ws := wsX3_lack) B.pre
  have hown : s.vm.findClass RX3 = some m.cls := findClass_of_methodNamed B.named
  have hlocks := B.notSynchronized
  have hK := hKK.1
  have hN := hKK.2
  subst hsz
  have hD := hD0.self (sz := s.heap.size)
  obtain ⟨A, hAe⟩ : ∃ A, A = va_A [(h0, .inr (3, [.ref h1, .ref h2, .ref h3, .int (nI c1)])), (h1, .inr (2, [.ref h4, .int (nI k), .int (nI c2)])), (h4, .inl (cI, 12, .inl f)), (h2, .inr (1, [.ref h5, .int (nI ag)])), (h5, .inl (cI, 4096, .inl g)), (h3, .inr (1, [.ref h6, .int (nI a2)]))] s.heap.size := ⟨_, rfl⟩
  rw [← hAe] at hD
  have hA : ∀ q : Nat, s.heap.size ≤ q → A q := fun q h => by rw [hAe]; exact Or.inr h
  have hS : va_S A s.heap s.heap [] := va_S.rf
  have hl := lv_entry ([.ref h0, .int (nI (2 ^ k - 1))]) (n := 2) (Nat.le_of_ble_eq_true rfl)
  rw [lg_entry_eq]
  generalize (lg_sl ([.ref h0, .int (nI (2 ^ k - 1))]) ++ List.replicate (2 - (lg_sl ([.ref h0, .int (nI (2 ^ k - 1))])).length) Slot.unset).toArray = ls at hl ⊢
  have hl : lv_has ls 2 [(0, .ref h0), (1, .int (nI (2 ^ k - 1)))] := hl
  have h2k : 2 ^ k ≤ 4096 := (Nat.pow_le_pow_right (by decide) hk : 2 ^ k ≤ 2 ^ 12)
  have h1k : 1 ≤ 2 ^ k := Nat.one_le_two_pow
  refine lv_iload_n hx hb dX3_lack_0 rfl (lv_at hl 1 rfl) ?_
  have hPc := hP.sub (ws' := []) [] rfl
  refine lz_ss (As := [.int (nI (2 ^ k - 1))]) (rest := []) ⟨hx, hb, hml, hown, hts⟩ (c_J6_bitCount_0f7a4_1 l D cI cS (nI (2 ^ k - 1))) hKK hPc (va_cwS 1 hts gX3_lack_J6_bitCount_0f7a4 rfl rfl rfl (by decide +kernel) ⟨Nat.le_of_ble_eq_true rfl, Nat.le_of_ble_eq_true rfl⟩) rfl hl.1 rfl (Nat.le_of_ble_eq_true rfl) dX3_lack_1 ⟨Nat.le_of_ble_eq_true rfl, Nat.le_of_ble_eq_true rfl⟩ (fun r5308 hw => ?_)
  subst hw
  refine lz_top (y := (nI k)) ((show bc (nI (2 ^ k - 1)) = nI k from by rw [bc_cnt (by omega), ncn_full k (by omega)])) ?_
  refine lv_iconst (v := 2) hx hb dX3_lack_4 (by decide) ?_
  refine lv_aload_n hx hb dX3_lack_5 rfl (lv_at hl 0 rfl) ?_
  refine lv_iload_n hx hb dX3_lack_6 rfl (lv_at hl 1 rfl) ?_
  have hPc := hP.sub (ws' := [(h0, .inr (3, [.ref h1, .ref h2, .ref h3, .int (nI c1)])), (h1, .inr (2, [.ref h4, .int (nI k), .int (nI c2)])), (h4, .inl (cI, 12, .inl f)), (h2, .inr (1, [.ref h5, .int (nI ag)])), (h5, .inl (cI, 4096, .inl g)), (h3, .inr (1, [.ref h6, .int (nI a2)]))]) [0, 1, 2, 3, 4, 5] rfl
  have hDc := hD.sub (ws' := [(h0, .inr (3, [.ref h1, .ref h2, .ref h3, .int (nI c1)])), (h1, .inr (2, [.ref h4, .int (nI k), .int (nI c2)])), (h4, .inl (cI, 12, .inl f)), (h2, .inr (1, [.ref h5, .int (nI ag)])), (h5, .inl (cI, 4096, .inl g)), (h3, .inr (1, [.ref h6, .int (nI a2)]))]) [0, 1, 2, 3, 4, 5] (by decide) rfl
  refine lz_qf (wr := []) (w1 := fun (u : Nat → Int32) => [(h0, .inr (3, [.ref h1, .ref h2, .ref h3, .int (nI c2)])), (h1, .inr (2, [.ref h4, .int (nI k), .int (nI c2)])), (h4, .inl (cI, 12, .inl f)), (h2, .inr (1, [.ref h5, .int (nI (ag + 1))])), (h5, .inl (cI, 4096, .inl u)), (h3, .inr (1, [.ref h6, .int (nI (a2 + 1))]))]) (As := [.int (nI (2 ^ k - 1))]) (rest := [.int 2, .int (nI k)]) ⟨hx, hb, hml, hown, hts⟩ (c_best l D cI cS _ h0 h1 h2 h3 h4 h5 h6 f g k c1 c2 ag a2 (2 ^ k - 1) hk hc hc1 hc2 hag ha2 hv4 hsy (by omega) hms) hKK hP hD hS hA [0, 1, 2, 3, 4, 5] [] (by decide) rfl rfl (by decide) (by decide) hPc hDc (ci := 3) rfl rfl (cwV 1 hts gX3_lack_X3_best rfl rfl rfl (by decide +kernel) ⟨Nat.le_of_ble_eq_true rfl, Nat.le_of_ble_eq_true rfl⟩) rfl hl.1 rfl (Nat.le_of_ble_eq_true rfl) dX3_lack_7 ⟨Nat.le_of_ble_eq_true rfl, Nat.le_of_ble_eq_true rfl⟩ (fun r9 u H locs hu hP hD hS => ?_)
  have hP : va_P D cls [(h0, .inr (3, [.ref h1, .ref h2, .ref h3, .int (nI c2)])), (h1, .inr (2, [.ref h4, .int (nI k), .int (nI c2)])), (h4, .inl (cI, 12, .inl f)), (h2, .inr (1, [.ref h5, .int (nI (ag + 1))])), (h5, .inl (cI, 4096, .inl u)), (h3, .inr (1, [.ref h6, .int (nI (a2 + 1))]))] H := hP
  have hD : va_D A [(h0, .inr (3, [.ref h1, .ref h2, .ref h3, .int (nI c2)])), (h1, .inr (2, [.ref h4, .int (nI k), .int (nI c2)])), (h4, .inl (cI, 12, .inl f)), (h2, .inr (1, [.ref h5, .int (nI (ag + 1))])), (h5, .inl (cI, 4096, .inl u)), (h3, .inr (1, [.ref h6, .int (nI (a2 + 1))]))] := hD
  refine lz_top (y := (nI (nuS k f (2 ^ k - 1)))) (hu.1) ?_
  refine lv_imul hx hb dX3_lack_10 ?_
  refine lv_isub hx hb dX3_lack_11 ?_
  refine lz_top (y := (nI k - (2 : Int32) * nI (nuS k f (2 ^ k - 1)))) (rfl) ?_
  have hP9 : va_P D cls [(h0, .inr (3, [.ref h1, .ref h2, .ref h3, .int (nI c2)])), (h1, .inr (2, [.ref h4, .int (nI k), .int (nI c2)])), (h4, .inl (cI, 12, .inl f)), (h2, .inr (1, [.ref h5, .int (nI (ag + 1))])), (h5, .inl (cI, 4096, .inl u)), (h3, .inr (1, [.ref h6, .int (nI (a2 + 1))]))] H := hP.sub [0, 1, 2, 3, 4, 5] rfl
  have hD9 : va_D A [(h0, .inr (3, [.ref h1, .ref h2, .ref h3, .int (nI c2)])), (h1, .inr (2, [.ref h4, .int (nI k), .int (nI c2)])), (h4, .inl (cI, 12, .inl f)), (h2, .inr (1, [.ref h5, .int (nI (ag + 1))])), (h5, .inl (cI, 4096, .inl u)), (h3, .inr (1, [.ref h6, .int (nI (a2 + 1))]))] := hD.sub [0, 1, 2, 3, 4, 5] (by decide) rfl
  subst hAe
  exact W.iret (v := (nI k - (2 : Int32) * nI (nuS k f (2 ^ k - 1)))) hx hb hr (fun t ht hW => ⟨⟨_, u, rfl, ⟨rfl, hu.2⟩, by rw [ht]; exact hP9, hD9⟩, hS.F ht⟩) hS.2.2 dX3_lack_12
set_option maxRecDepth 20000 in
theorem ggX11_times_X11_canDeal : GoodIn wsX11_times wsX11_canDeal := goodIn_r _ [7] (by decide +kernel) (by decide +kernel)
set_option maxRecDepth 20000 in
theorem gX11_times_X11_canDeal : GoodIn wsX11_times (va_wsS RX11 279 yX11_canDeal wsX11_canDeal) := goodIn_app (goodIn_of _ (by decide +kernel)) ggX11_times_X11_canDeal
theorem dX11_times_0 : decode cX11_times 0 = .ok (.iload_n 1, 1) := by decide +kernel
theorem dX11_times_1 : decode cX11_times 1 = .ok (.iconst 1, 1) := by decide +kernel
theorem dX11_times_11 : decode cX11_times 11 = .ok (.iload_n 2, 1) := by decide +kernel
theorem dX11_times_12 : decode cX11_times 12 = .ok (.iload_n 3, 1) := by decide +kernel
theorem dX11_times_13 : decode cX11_times 13 = .ok (.invokestatic 279, 3) := by decide +kernel
theorem dX11_times_16 : decode cX11_times 16 = .ok (.ifCond .eq 15, 3) := by decide +kernel
theorem dX11_times_19 : decode cX11_times 19 = .ok (.iload 4, 2) := by decide +kernel
theorem dX11_times_2 : decode cX11_times 2 = .ok (.if_icmp .lt 29, 3) := by decide +kernel
theorem dX11_times_21 : decode cX11_times 21 = .ok (.ifCond .lt 10, 3) := by decide +kernel
theorem dX11_times_24 : decode cX11_times 24 = .ok (.iload 4, 2) := by decide +kernel
theorem dX11_times_26 : decode cX11_times 26 = .ok (.bipush 12, 2) := by decide +kernel
theorem dX11_times_28 : decode cX11_times 28 = .ok (.if_icmp .le 6, 3) := by decide +kernel
theorem dX11_times_31 : decode cX11_times 31 = .ok (.bipush (-2), 2) := by decide +kernel
theorem dX11_times_33 : decode cX11_times 33 = .ok (.ireturn, 1) := by decide +kernel
theorem dX11_times_5 : decode cX11_times 5 = .ok (.iload_n 1, 1) := by decide +kernel
theorem dX11_times_6 : decode cX11_times 6 = .ok (.bipush 20, 2) := by decide +kernel
theorem dX11_times_8 : decode cX11_times 8 = .ok (.if_icmp .gt 23, 3) := by decide +kernel
theorem dX11_times_100 : decode cX11_times 100 = .ok (.iload 5, 2) := by decide +kernel
theorem dX11_times_102 : decode cX11_times 102 = .ok (.putfield 141, 3) := by decide +kernel
theorem dX11_times_105 : decode cX11_times 105 = .ok (.iload 6, 2) := by decide +kernel
theorem dX11_times_107 : decode cX11_times 107 = .ok (.ireturn, 1) := by decide +kernel
theorem dX11_times_49 : decode cX11_times 49 = .ok (.iload 7, 2) := by decide +kernel
theorem dX11_times_51 : decode cX11_times 51 = .ok (.iload_n 1, 1) := by decide +kernel
theorem dX11_times_52 : decode cX11_times 52 = .ok (.if_icmp .ge 44, 3) := by decide +kernel
theorem dX11_times_96 : decode cX11_times 96 = .ok (.aload_n 0, 1) := by decide +kernel
theorem dX11_times_97 : decode cX11_times 97 = .ok (.getfield 53, 3) := by decide +kernel
set_option maxRecDepth 20000 in
theorem ggX11_times_X2_all : GoodIn wsX11_times wsX2_all := goodIn_r _ [50, 13, 116, 117, 118] (by decide +kernel) (by decide +kernel)
set_option maxRecDepth 20000 in
theorem gX11_times_X2_all : GoodIn wsX11_times (wsV RX11 128 RX2 yX2_all wsX2_all) := goodIn_app (goodIn_of _ (by decide +kernel)) ggX11_times_X2_all
set_option maxRecDepth 20000 in
theorem ggX11_times_X2_dealAnew : GoodIn wsX11_times wsX2_dealAnew := goodIn_r _ (12 :: 13 :: 14 :: 15 :: 16 :: 11 :: 17 :: 18 :: 19 :: 20 :: 21 :: 22 :: 23 :: 24 :: 25 :: 26 :: 27 :: 28 :: 29 :: 30 :: 31 :: 32 :: 33 :: 34 :: 35 :: 36 :: 37 :: 38 :: 39 :: 40 :: 41 :: 42 :: 43 :: 44 :: 45 :: 46 :: 116 :: 117 :: 118 :: 115 :: []) (by decide +kernel) (by decide +kernel)
set_option maxRecDepth 20000 in
theorem gX11_times_X2_dealAnew : GoodIn wsX11_times (wsV RX11 282 RX2 yX2_dealAnew wsX2_dealAnew) := goodIn_app (goodIn_of _ (by decide +kernel)) ggX11_times_X2_dealAnew
set_option maxRecDepth 20000 in
theorem ggX11_times_X3_lack : GoodIn wsX11_times wsX3_lack := goodIn_r _ (55 :: 56 :: 57 :: 58 :: 59 :: 60 :: 61 :: 62 :: 63 :: 64 :: 65 :: 54 :: 66 :: 67 :: 68 :: 69 :: 70 :: 71 :: 72 :: 73 :: 74 :: 75 :: 76 :: 77 :: 78 :: 79 :: 80 :: 81 :: 82 :: 83 :: 84 :: 85 :: 86 :: 87 :: 88 :: 89 :: 90 :: 91 :: 92 :: 93 :: 94 :: 95 :: 96 :: 97 :: 98 :: 119 :: 120 :: 121 :: 122 :: 116 :: 117 :: 118 :: 123 :: 124 :: []) (by decide +kernel) (by decide +kernel)
set_option maxRecDepth 20000 in
theorem gX11_times_X3_lack : GoodIn wsX11_times (wsV RX11 134 RX3 yX3_lack wsX3_lack) := goodIn_app (goodIn_of _ (by decide +kernel)) ggX11_times_X3_lack
theorem dX11_times_55 : decode cX11_times 55 = .ok (.aload_n 0, 1) := by decide +kernel
theorem dX11_times_56 : decode cX11_times 56 = .ok (.getfield 41, 3) := by decide +kernel
theorem dX11_times_59 : decode cX11_times 59 = .ok (.iload_n 2, 1) := by decide +kernel
theorem dX11_times_60 : decode cX11_times 60 = .ok (.iload_n 3, 1) := by decide +kernel
theorem dX11_times_61 : decode cX11_times 61 = .ok (.aload_n 0, 1) := by decide +kernel
theorem dX11_times_62 : decode cX11_times 62 = .ok (.getfield 53, 3) := by decide +kernel
theorem dX11_times_65 : decode cX11_times 65 = .ok (.invokevirtual 282, 3) := by decide +kernel
theorem dX11_times_68 : decode cX11_times 68 = .ok (.aload_n 0, 1) := by decide +kernel
theorem dX11_times_69 : decode cX11_times 69 = .ok (.getfield 44, 3) := by decide +kernel
theorem dX11_times_72 : decode cX11_times 72 = .ok (.aload_n 0, 1) := by decide +kernel
theorem dX11_times_73 : decode cX11_times 73 = .ok (.getfield 41, 3) := by decide +kernel
theorem dX11_times_76 : decode cX11_times 76 = .ok (.invokevirtual 128, 3) := by decide +kernel
theorem dX11_times_79 : decode cX11_times 79 = .ok (.invokevirtual 134, 3) := by decide +kernel
theorem dX11_times_82 : decode cX11_times 82 = .ok (.iload 4, 2) := by decide +kernel
theorem dX11_times_84 : decode cX11_times 84 = .ok (.if_icmp .ne 6, 3) := by decide +kernel
theorem dX11_times_87 : decode cX11_times 87 = .ok (.iinc 6 1, 3) := by decide +kernel
theorem dX11_times_90 : decode cX11_times 90 = .ok (.iinc 7 1, 3) := by decide +kernel
theorem dX11_times_93 : decode cX11_times 93 = .ok (.goto (-44), 3) := by decide +kernel
theorem dX11_times_34 : decode cX11_times 34 = .ok (.aload_n 0, 1) := by decide +kernel
theorem dX11_times_35 : decode cX11_times 35 = .ok (.getfield 53, 3) := by decide +kernel
theorem dX11_times_38 : decode cX11_times 38 = .ok (.getfield 141, 3) := by decide +kernel
theorem dX11_times_41 : decode cX11_times 41 = .ok (.istore 5, 2) := by decide +kernel
theorem dX11_times_43 : decode cX11_times 43 = .ok (.iconst 0, 1) := by decide +kernel
theorem dX11_times_44 : decode cX11_times 44 = .ok (.istore 6, 2) := by decide +kernel
theorem dX11_times_46 : decode cX11_times 46 = .ok (.iconst 0, 1) := by decide +kernel
theorem dX11_times_47 : decode cX11_times 47 = .ok (.istore 7, 2) := by decide +kernel
set_option maxHeartbeats 4000000 in
set_option maxRecDepth 100000 in
theorem c_X11_times (l : Launch) (D : va_G) (cI cS : ClassId) (sz : Nat) (h0 h1 h2 h3 h4 h5 h6 h7 h8 h9 h10 h11 h12 h13 h14 n1 n2 n3 n4 n5 : Nat) (x0 x1 x2 x3 : Int32) : Met l yX11_times wsX11_times ({ frames := 24, cells := 0, slots := 0, locals := 960 }) (PQ D cI cS [(h0, .inr (11, [.ref h1, .ref h2, .ref h3, .ref h4, .ref h5, .ref h6, .ref h7, .int 0, .int 0, .ref h8, .ref h9, .ref h10, .ref h11, .ref h12, .ref h13, .ref h14])), (h5, .inr (2, [.ref n1, .int 0, .int 0])), (n1, .inl (cI, 12, .inl (fun _ => 0))), (h6, .inr (3, [.ref h5, .ref n2, .ref n4, .int 0])), (n2, .inr (1, [.ref n3, .int 1])), (n3, .inl (cI, 4096, .inl (fun _ => 0))), (n4, .inr (1, [.ref n5, .int 1])), (h8, .inr (0, [.int 1]))] sz [.ref h0, .int x0, .int x1, .int x2, .int x3]) (QI D [(h0, .inr (11, [.ref h1, .ref h2, .ref h3, .ref h4, .ref h5, .ref h6, .ref h7, .int 0, .int 0, .ref h8, .ref h9, .ref h10, .ref h11, .ref h12, .ref h13, .ref h14])), (h5, .inr (2, [.ref n1, .int 0, .int 0])), (n1, .inl (cI, 12, .inl (fun _ => 0))), (h6, .inr (3, [.ref h5, .ref n2, .ref n4, .int 0])), (n2, .inr (1, [.ref n3, .int 1])), (n3, .inl (cI, 4096, .inl (fun _ => 0))), (n4, .inr (1, [.ref n5, .int 1])), (h8, .inr (0, [.int 1]))] [] sz (fun r => r = timesR x0 x1 x2 x3)) 0 0 (va_A [(h0, .inr (11, [.ref h1, .ref h2, .ref h3, .ref h4, .ref h5, .ref h6, .ref h7, .int 0, .int 0, .ref h8, .ref h9, .ref h10, .ref h11, .ref h12, .ref h13, .ref h14])), (h5, .inr (2, [.ref n1, .int 0, .int 0])), (n1, .inl (cI, 12, .inl (fun _ => 0))), (h6, .inr (3, [.ref h5, .ref n2, .ref n4, .int 0])), (n2, .inr (1, [.ref n3, .int 1])), (n3, .inl (cI, 4096, .inl (fun _ => 0))), (n4, .inr (1, [.ref n5, .int 1])), (h8, .inr (0, [.int 1]))] sz) := by
  refine Met.ofW (cc := cX11_times) (maxL := 8) (ret := (some .int)) (by decide) rfl ?_
  intro p e s m args below meth c s₁ B hml hv
  obtain ⟨rfl, hsz, hP, hKK, hD0⟩ := hv
  have hx := B.exec
  have hb := B.bytes
  have hr := B.returns
  have hts := atoms_spec (ws := wsX11_times) B.pre
  have hown : s.vm.findClass RX11 = some m.cls := findClass_of_methodNamed B.named
  have hlocks := B.notSynchronized
  have hK := hKK.1
  have hN := hKK.2
  have hin0 : ∀ w ∈ wsX00, w ∈ wsX11_times := by decide +kernel
  have hin11 : ∀ w ∈ wsX110, w ∈ wsX11_times := by decide +kernel
  subst hsz
  have hD := hD0.self (sz := s.heap.size)
  obtain ⟨A, hAe⟩ : ∃ A, A = va_A [(h0, .inr (11, [.ref h1, .ref h2, .ref h3, .ref h4, .ref h5, .ref h6, .ref h7, .int 0, .int 0, .ref h8, .ref h9, .ref h10, .ref h11, .ref h12, .ref h13, .ref h14])), (h5, .inr (2, [.ref n1, .int 0, .int 0])), (n1, .inl (cI, 12, .inl (fun _ => 0))), (h6, .inr (3, [.ref h5, .ref n2, .ref n4, .int 0])), (n2, .inr (1, [.ref n3, .int 1])), (n3, .inl (cI, 4096, .inl (fun _ => 0))), (n4, .inr (1, [.ref n5, .int 1])), (h8, .inr (0, [.int 1]))] s.heap.size := ⟨_, rfl⟩
  rw [← hAe] at hD
  have hA : ∀ q : Nat, s.heap.size ≤ q → A q := fun q h => by rw [hAe]; exact Or.inr h
  have hS : va_S A s.heap s.heap [] := va_S.rf
  have hl := lv_entry ([.ref h0, .int x0, .int x1, .int x2, .int x3]) (n := 8) (Nat.le_of_ble_eq_true rfl)
  rw [lg_entry_eq]
  generalize (lg_sl ([.ref h0, .int x0, .int x1, .int x2, .int x3]) ++ List.replicate (8 - (lg_sl ([.ref h0, .int x0, .int x1, .int x2, .int x3])).length) Slot.unset).toArray = ls at hl ⊢
  have hl : lv_has ls 8 [(0, .ref h0), (1, .int x0), (2, .int x1), (3, .int x2), (4, .int x3)] := hl
  refine lv_iload_n hx hb dX11_times_0 rfl (lv_at hl 1 rfl) ?_
  refine lv_iconst (v := 1) hx hb dX11_times_1 (by decide) ?_
  refine lv_icmp_lt (tgt := 31) hx hb dX11_times_2 (by decide) (fun c5309 => ?_) (fun c5309 => ?_)
  · refine lv_bipush (v := (-2)) hx hb dX11_times_31 (by decide) ?_
    have hP9 := hP.sub (ws' := []) [] rfl
    have hD9 := hD.sub (ws' := []) [] (by decide) rfl
    subst hAe
    exact W.iret (v := (-2)) hx hb hr (fun t ht hW => ⟨⟨_, (), rfl, by unfold timesR; rw [if_pos c5309], by rw [ht]; exact hP9, hD9⟩, hS.F ht⟩) hS.2.2 dX11_times_33
  · refine lv_iload_n hx hb dX11_times_5 rfl (lv_at hl 1 rfl) ?_
    refine lv_bipush (v := 20) hx hb dX11_times_6 (by decide) ?_
    refine lv_icmp_gt (tgt := 31) hx hb dX11_times_8 (by decide) (fun c5310 => ?_) (fun c5310 => ?_)
    · refine lv_bipush (v := (-2)) hx hb dX11_times_31 (by decide) ?_
      have hP9 := hP.sub (ws' := []) [] rfl
      have hD9 := hD.sub (ws' := []) [] (by decide) rfl
      subst hAe
      exact W.iret (v := (-2)) hx hb hr (fun t ht hW => ⟨⟨_, (), rfl, by unfold timesR; rw [if_neg c5309, if_pos c5310], by rw [ht]; exact hP9, hD9⟩, hS.F ht⟩) hS.2.2 dX11_times_33
    · refine lv_iload_n hx hb dX11_times_11 rfl (lv_at hl 2 rfl) ?_
      refine lv_iload_n hx hb dX11_times_12 rfl (lv_at hl 3 rfl) ?_
      have hPc := hP.sub (ws' := []) [] rfl
      refine lz_ss (As := [.int x1, .int x2]) (rest := []) ⟨hx, hb, hml, hown, hts⟩ (c_X11_canDeal_0 l D cI cS x1 x2) hKK hPc (va_cwS 2 hts gX11_times_X11_canDeal rfl rfl rfl (by decide +kernel) ⟨Nat.le_of_ble_eq_true rfl, Nat.le_of_ble_eq_true rfl⟩) rfl hl.1 rfl (Nat.le_of_ble_eq_true rfl) dX11_times_13 ⟨Nat.le_of_ble_eq_true rfl, Nat.le_of_ble_eq_true rfl⟩ (fun r5311 hw => ?_)
      by_cases k5312 : x1 < 0
      · rw [if_pos k5312] at hw
        subst hw
        refine lv_if_eq (tgt := 31) hx hb dX11_times_16 (by decide) (fun c5313 => ?_) (fun c5313 => ?_)
        · refine lv_bipush (v := (-2)) hx hb dX11_times_31 (by decide) ?_
          have hP9 := hP.sub (ws' := []) [] rfl
          have hD9 := hD.sub (ws' := []) [] (by decide) rfl
          subst hAe
          exact W.iret (v := (-2)) hx hb hr (fun t ht hW => ⟨⟨_, (), rfl, by unfold timesR; rw [if_neg c5309, if_neg c5310, if_pos k5312], by rw [ht]; exact hP9, hD9⟩, hS.F ht⟩) hS.2.2 dX11_times_33
        · exact absurd c5313 (by decide)
      · rw [if_neg k5312] at hw
        by_cases k5314 : (12 : Int32) < x1
        · rw [if_pos k5314] at hw
          subst hw
          refine lv_if_eq (tgt := 31) hx hb dX11_times_16 (by decide) (fun c5315 => ?_) (fun c5315 => ?_)
          · refine lv_bipush (v := (-2)) hx hb dX11_times_31 (by decide) ?_
            have hP9 := hP.sub (ws' := []) [] rfl
            have hD9 := hD.sub (ws' := []) [] (by decide) rfl
            subst hAe
            exact W.iret (v := (-2)) hx hb hr (fun t ht hW => ⟨⟨_, (), rfl, by unfold timesR; rw [if_neg c5309, if_neg c5310, if_neg k5312, if_pos k5314], by rw [ht]; exact hP9, hD9⟩, hS.F ht⟩) hS.2.2 dX11_times_33
          · exact absurd c5315 (by decide)
        · rw [if_neg k5314] at hw
          by_cases k5316 : x2 < 0
          · rw [if_pos k5316] at hw
            subst hw
            refine lv_if_eq (tgt := 31) hx hb dX11_times_16 (by decide) (fun c5317 => ?_) (fun c5317 => ?_)
            · refine lv_bipush (v := (-2)) hx hb dX11_times_31 (by decide) ?_
              have hP9 := hP.sub (ws' := []) [] rfl
              have hD9 := hD.sub (ws' := []) [] (by decide) rfl
              subst hAe
              exact W.iret (v := (-2)) hx hb hr (fun t ht hW => ⟨⟨_, (), rfl, by unfold timesR; rw [if_neg c5309, if_neg c5310, if_neg k5312, if_neg k5314, if_pos k5316], by rw [ht]; exact hP9, hD9⟩, hS.F ht⟩) hS.2.2 dX11_times_33
            · exact absurd c5317 (by decide)
          · rw [if_neg k5316] at hw
            by_cases k5318 : (10 : Int32) < x2
            · rw [if_pos k5318] at hw
              subst hw
              refine lv_if_eq (tgt := 31) hx hb dX11_times_16 (by decide) (fun c5319 => ?_) (fun c5319 => ?_)
              · refine lv_bipush (v := (-2)) hx hb dX11_times_31 (by decide) ?_
                have hP9 := hP.sub (ws' := []) [] rfl
                have hD9 := hD.sub (ws' := []) [] (by decide) rfl
                subst hAe
                exact W.iret (v := (-2)) hx hb hr (fun t ht hW => ⟨⟨_, (), rfl, by unfold timesR; rw [if_neg c5309, if_neg c5310, if_neg k5312, if_neg k5314, if_neg k5316, if_pos k5318], by rw [ht]; exact hP9, hD9⟩, hS.F ht⟩) hS.2.2 dX11_times_33
              · exact absurd c5319 (by decide)
            · rw [if_neg k5318] at hw
              subst hw
              refine lv_if_eq (tgt := 31) hx hb dX11_times_16 (by decide) (fun c5320 => ?_) (fun c5320 => ?_)
              · exact absurd c5320 (by decide)
              · refine lv_iload hx hb dX11_times_19 (lv_at hl 4 rfl) ?_
                refine lv_if_lt (tgt := 31) hx hb dX11_times_21 (by decide) (fun c5321 => ?_) (fun c5321 => ?_)
                · refine lv_bipush (v := (-2)) hx hb dX11_times_31 (by decide) ?_
                  have hP9 := hP.sub (ws' := []) [] rfl
                  have hD9 := hD.sub (ws' := []) [] (by decide) rfl
                  subst hAe
                  exact W.iret (v := (-2)) hx hb hr (fun t ht hW => ⟨⟨_, (), rfl, by unfold timesR; rw [if_neg c5309, if_neg c5310, if_neg k5312, if_neg k5314, if_neg k5316, if_neg k5318, if_pos c5321], by rw [ht]; exact hP9, hD9⟩, hS.F ht⟩) hS.2.2 dX11_times_33
                · refine lv_iload hx hb dX11_times_24 (lv_at hl 4 rfl) ?_
                  refine lv_bipush (v := 12) hx hb dX11_times_26 (by decide) ?_
                  refine lv_icmp_le (tgt := 34) hx hb dX11_times_28 (by decide) (fun c5322 => ?_) (fun c5322 => ?_)
                  · have hR : timesR x0 x1 x2 x3 = cT x2 x3 x1.toNatClampNeg x0.toNatClampNeg := by unfold timesR; rw [if_neg c5309, if_neg c5310, if_neg k5312, if_neg k5314, if_neg k5316, if_neg k5318, if_neg c5321, if_neg (lz_len c5322)]
                    obtain ⟨k, hk, rfl⟩ := nI_of2 (M := 12) (n := 12) (by decide) k5312 (Int32.not_lt.mp k5314)
                    obtain ⟨nn, hnn, rfl⟩ := nI_of2 (x := x0) (M := 20) (n := 20) (by decide) (fun z => c5309 (by have a9 := (lz_lt _ _).mp z; have b9 : (0 : Int32).toInt = 0 := (by decide); have c9 : (1 : Int32).toInt = 1 := (by decide); rw [lz_lt]; omega)) (Int32.not_lt.mp c5310)
                    rw [nI_clamp (by omega), nI_clamp (by omega)] at hR
                    have lp : ∀ (r i cn : Nat) (sv : Int32) (g mg : Nat → Int32), i + r = nn → cn ≤ 200 * i → MS (1 + i) mg → ∀ (ls : Array Slot) (H : Heap) (locs : List Loc), va_P D cls [(h0, .inr (11, [.ref h1, .ref h2, .ref h3, .ref h4, .ref h5, .ref h6, .ref h7, .int 0, .int 0, .ref h8, .ref h9, .ref h10, .ref h11, .ref h12, .ref h13, .ref h14])), (h5, .inr (2, [.ref n1, .int sv, .int (nI cn)])), (n1, .inl (cI, 12, .inl g)), (h6, .inr (3, [.ref h5, .ref n2, .ref n4, .int (nI cn)])), (n2, .inr (1, [.ref n3, .int (nI (1 + i))])), (n3, .inl (cI, 4096, .inl mg)), (n4, .inr (1, [.ref n5, .int (nI (1 + i))])), (h8, .inr (0, [.int (zN x2 k i)]))] H → va_D A [(h0, .inr (11, [.ref h1, .ref h2, .ref h3, .ref h4, .ref h5, .ref h6, .ref h7, .int 0, .int 0, .ref h8, .ref h9, .ref h10, .ref h11, .ref h12, .ref h13, .ref h14])), (h5, .inr (2, [.ref n1, .int sv, .int (nI cn)])), (n1, .inl (cI, 12, .inl g)), (h6, .inr (3, [.ref h5, .ref n2, .ref n4, .int (nI cn)])), (n2, .inr (1, [.ref n3, .int (nI (1 + i))])), (n3, .inl (cI, 4096, .inl mg)), (n4, .inr (1, [.ref n5, .int (nI (1 + i))])), (h8, .inr (0, [.int (zN x2 k i)]))] → va_S A s.heap H locs → lv_has ls 8 [(7, .int (nI i)), (6, .int (cT x2 x3 k i)), (5, .int 1), (0, .ref h0), (1, .int (nI nn)), (2, .int (nI k)), (3, .int x2), (4, .int x3)] → W p l e (headSpec wsX11_times ({ frames := 24, cells := 0, slots := 0, locals := 960 })).room s m ([.ref h0, .int (nI nn), .int (nI k), .int x2, .int x3]).toArray below meth c H locs 0 0 (MQ below (QI D [(h0, .inr (11, [.ref h1, .ref h2, .ref h3, .ref h4, .ref h5, .ref h6, .ref h7, .int 0, .int 0, .ref h8, .ref h9, .ref h10, .ref h11, .ref h12, .ref h13, .ref h14])), (h5, .inr (2, [.ref n1, .int 0, .int 0])), (n1, .inl (cI, 12, .inl (fun _ => 0))), (h6, .inr (3, [.ref h5, .ref n2, .ref n4, .int 0])), (n2, .inr (1, [.ref n3, .int 1])), (n3, .inl (cI, 4096, .inl (fun _ => 0))), (n4, .inr (1, [.ref n5, .int 1])), (h8, .inr (0, [.int 1]))] [] s.heap.size (fun r => r = timesR (nI nn) (nI k) x2 x3)) ([.ref h0, .int (nI nn), .int (nI k), .int x2, .int x3]).toArray s 0 0 (va_A [(h0, .inr (11, [.ref h1, .ref h2, .ref h3, .ref h4, .ref h5, .ref h6, .ref h7, .int 0, .int 0, .ref h8, .ref h9, .ref h10, .ref h11, .ref h12, .ref h13, .ref h14])), (h5, .inr (2, [.ref n1, .int 0, .int 0])), (n1, .inl (cI, 12, .inl (fun _ => 0))), (h6, .inr (3, [.ref h5, .ref n2, .ref n4, .int 0])), (n2, .inr (1, [.ref n3, .int 1])), (n3, .inl (cI, 4096, .inl (fun _ => 0))), (n4, .inr (1, [.ref n5, .int 1])), (h8, .inr (0, [.int 1]))] s.heap.size)) (F0 m 49 ls []) := by
                      intro r
                      induction r with
                      | zero =>
                        intro i cn sv g mg hi hcn hms ls H locs hP hD hS hl
                        obtain rfl : i = nn := by omega
                        refine lv_iload hx hb dX11_times_49 (lv_at hl 0 rfl) ?_
                        refine lv_iload_n hx hb dX11_times_51 rfl (lv_at hl 4 rfl) ?_
                        refine lv_icmp_ge (tgt := 96) hx hb dX11_times_52 (by decide) (fun c5323 => ?_) (fun c5323 => ?_)
                        · refine lv_aload_n hx hb dX11_times_96 rfl (lv_at hl 3 rfl) ?_
                          refine va_get (D := D) (ci := 11) (v := .ref h8) (C := RX11) (T := TX11) (N := 16) hx hb hts hin11 hown hK hP 0 rfl rfl 9 (by decide) (hts (.fieldLink RX11 53 "MissedPoints" "draws" "LMissedPoints$Draws;") (by decide +kernel)) (fun _ h9 => h9) rfl dX11_times_97 ?_
                          refine lv_iload hx hb dX11_times_100 (lv_at hl 2 rfl) ?_
                          refine va_putN (D := D) (ci := 0) (v := .int 1) (ty := .int) (C := RX0) (T := TX0) (N := 1) hx hb hts hin0 tyX0 tyX0_ok nmX0 hown hK hP hD hS 7 rfl rfl 0 (by decide) (va_Nw.use rfl hN.2.1) (fun _ h9 => h9) rfl (by decide +kernel) rfl rfl (Nat.le_of_ble_eq_true rfl) dX11_times_102 (fun H locs hP hD hS => ?_)
                          have hP : va_P D cls [(h0, .inr (11, [.ref h1, .ref h2, .ref h3, .ref h4, .ref h5, .ref h6, .ref h7, .int 0, .int 0, .ref h8, .ref h9, .ref h10, .ref h11, .ref h12, .ref h13, .ref h14])), (h5, .inr (2, [.ref n1, .int sv, .int (nI cn)])), (n1, .inl (cI, 12, .inl g)), (h6, .inr (3, [.ref h5, .ref n2, .ref n4, .int (nI cn)])), (n2, .inr (1, [.ref n3, .int (nI (1 + i))])), (n3, .inl (cI, 4096, .inl mg)), (n4, .inr (1, [.ref n5, .int (nI (1 + i))])), (h8, .inr (0, [.int 1]))] H := hP
                          have hD : va_D A [(h0, .inr (11, [.ref h1, .ref h2, .ref h3, .ref h4, .ref h5, .ref h6, .ref h7, .int 0, .int 0, .ref h8, .ref h9, .ref h10, .ref h11, .ref h12, .ref h13, .ref h14])), (h5, .inr (2, [.ref n1, .int sv, .int (nI cn)])), (n1, .inl (cI, 12, .inl g)), (h6, .inr (3, [.ref h5, .ref n2, .ref n4, .int (nI cn)])), (n2, .inr (1, [.ref n3, .int (nI (1 + i))])), (n3, .inl (cI, 4096, .inl mg)), (n4, .inr (1, [.ref n5, .int (nI (1 + i))])), (h8, .inr (0, [.int 1]))] := hD
                          refine lv_iload hx hb dX11_times_105 (lv_at hl 1 rfl) ?_
                          have hP9 := hP.sub (ws' := []) [] rfl
                          have hD9 := hD.sub (ws' := []) [] (by decide) rfl
                          subst hAe
                          exact W.iret (v := cT x2 x3 k i) hx hb hr (fun t ht hW => ⟨⟨_, (), rfl, hR.symm, by rw [ht]; exact hP9, hD9⟩, hS.F ht⟩) hS.2.2 dX11_times_107
                        · exact absurd (nI_le (Nat.le_refl _) (by omega)) c5323
                      | succ r ih =>
                        intro i cn sv g mg hi hcn hms ls H locs hP hD hS hl
                        refine lv_iload hx hb dX11_times_49 (lv_at hl 0 rfl) ?_
                        refine lv_iload_n hx hb dX11_times_51 rfl (lv_at hl 4 rfl) ?_
                        refine lv_icmp_ge (tgt := 96) hx hb dX11_times_52 (by decide) (fun c5324 => ?_) (fun c5324 => ?_)
                        · exact absurd c5324 (nI_ge (show i < nn by omega) (by omega))
                        · refine lv_aload_n hx hb dX11_times_55 rfl (lv_at hl 3 rfl) ?_
                          refine va_get (D := D) (ci := 11) (v := .ref h5) (C := RX11) (T := TX11) (N := 16) hx hb hts hin11 hown hK hP 0 rfl rfl 4 (by decide) (hts (.fieldLink RX11 41 "MissedPoints" "thoughtNet" "LMissedPoints$Net;") (by decide +kernel)) (fun _ h9 => h9) rfl dX11_times_56 ?_
                          refine lv_iload_n hx hb dX11_times_59 rfl (lv_at hl 5 rfl) ?_
                          refine lv_iload_n hx hb dX11_times_60 rfl (lv_at hl 6 rfl) ?_
                          refine lv_aload_n hx hb dX11_times_61 rfl (lv_at hl 3 rfl) ?_
                          refine va_get (D := D) (ci := 11) (v := .ref h8) (C := RX11) (T := TX11) (N := 16) hx hb hts hin11 hown hK hP 0 rfl rfl 9 (by decide) (hts (.fieldLink RX11 53 "MissedPoints" "draws" "LMissedPoints$Draws;") (by decide +kernel)) (fun _ h9 => h9) rfl dX11_times_62 ?_
                          have hPc := hP.sub (ws' := [(h5, .inr (2, [.ref n1, .int sv, .int (nI cn)])), (n1, .inl (cI, 12, .inl g)), (h8, .inr (0, [.int (zN x2 k i)]))]) [1, 2, 7] rfl
                          have hDc := hD.sub (ws' := [(h5, .inr (2, [.ref n1, .int sv, .int (nI cn)])), (n1, .inl (cI, 12, .inl g)), (h8, .inr (0, [.int (zN x2 k i)]))]) [1, 2, 7] (by decide) rfl
                          refine lz_qe (wr := [(h0, .inr (11, [.ref h1, .ref h2, .ref h3, .ref h4, .ref h5, .ref h6, .ref h7, .int 0, .int 0, .ref h8, .ref h9, .ref h10, .ref h11, .ref h12, .ref h13, .ref h14])), (h6, .inr (3, [.ref h5, .ref n2, .ref n4, .int (nI cn)])), (n2, .inr (1, [.ref n3, .int (nI (1 + i))])), (n3, .inl (cI, 4096, .inl mg)), (n4, .inr (1, [.ref n5, .int (nI (1 + i))]))]) (w1 := fun (u : (Nat → Int32) × Nat) => [(h5, .inr (2, [.ref n1, .int (nI k), .int (nI (u.2))])), (n1, .inl (cI, 12, .inl u.1)), (h8, .inr (0, [.int ((dO x2 k (zN x2 k i) k).2)]))]) (As := [.int (nI k), .int x2, .ref h8]) (rest := []) ⟨hx, hb, hml, hown, hts⟩ (c_dealAnew l D cI cS _ h5 n1 h8 g sv (zN x2 k i) x2 k cn hk) hKK hP hD hS hA [1, 2, 7] [0, 3, 4, 5, 6] (by decide) rfl rfl (by decide) (by decide) hPc hDc (ci := 2) rfl rfl (cwV 3 hts gX11_times_X2_dealAnew rfl rfl rfl (by decide +kernel) ⟨Nat.le_of_ble_eq_true rfl, Nat.le_of_ble_eq_true rfl⟩) rfl hl.1 rfl (Nat.le_of_ble_eq_true rfl) dX11_times_65 ⟨Nat.le_of_ble_eq_true rfl, Nat.le_of_ble_eq_true rfl⟩ (fun u H locs hu hP hD hS => ?_)
                          have hP : va_P D cls [(h0, .inr (11, [.ref h1, .ref h2, .ref h3, .ref h4, .ref h5, .ref h6, .ref h7, .int 0, .int 0, .ref h8, .ref h9, .ref h10, .ref h11, .ref h12, .ref h13, .ref h14])), (h6, .inr (3, [.ref h5, .ref n2, .ref n4, .int (nI cn)])), (n2, .inr (1, [.ref n3, .int (nI (1 + i))])), (n3, .inl (cI, 4096, .inl mg)), (n4, .inr (1, [.ref n5, .int (nI (1 + i))])), (h5, .inr (2, [.ref n1, .int (nI k), .int (nI (u.2))])), (n1, .inl (cI, 12, .inl u.1)), (h8, .inr (0, [.int ((dO x2 k (zN x2 k i) k).2)]))] H := hP
                          have hD : va_D A [(h0, .inr (11, [.ref h1, .ref h2, .ref h3, .ref h4, .ref h5, .ref h6, .ref h7, .int 0, .int 0, .ref h8, .ref h9, .ref h10, .ref h11, .ref h12, .ref h13, .ref h14])), (h6, .inr (3, [.ref h5, .ref n2, .ref n4, .int (nI cn)])), (n2, .inr (1, [.ref n3, .int (nI (1 + i))])), (n3, .inl (cI, 4096, .inl mg)), (n4, .inr (1, [.ref n5, .int (nI (1 + i))])), (h5, .inr (2, [.ref n1, .int (nI k), .int (nI (u.2))])), (n1, .inl (cI, 12, .inl u.1)), (h8, .inr (0, [.int ((dO x2 k (zN x2 k i) k).2)]))] := hD
                          obtain ⟨g1, c2⟩ := u
                          obtain ⟨hg1, hc2a, hc2b⟩ := hu
                          dsimp only at hg1 hc2a hc2b hP hD
                          have hP : va_P D cls [(h0, .inr (11, [.ref h1, .ref h2, .ref h3, .ref h4, .ref h5, .ref h6, .ref h7, .int 0, .int 0, .ref h8, .ref h9, .ref h10, .ref h11, .ref h12, .ref h13, .ref h14])), (h6, .inr (3, [.ref h5, .ref n2, .ref n4, .int (nI cn)])), (n2, .inr (1, [.ref n3, .int (nI (1 + i))])), (n3, .inl (cI, 4096, .inl mg)), (n4, .inr (1, [.ref n5, .int (nI (1 + i))])), (h5, .inr (2, [.ref n1, .int (nI k), .int (nI c2)])), (n1, .inl (cI, 12, .inl g1)), (h8, .inr (0, [.int ((dO x2 k (zN x2 k i) k).2)]))] H := hP
                          have hD : va_D A [(h0, .inr (11, [.ref h1, .ref h2, .ref h3, .ref h4, .ref h5, .ref h6, .ref h7, .int 0, .int 0, .ref h8, .ref h9, .ref h10, .ref h11, .ref h12, .ref h13, .ref h14])), (h6, .inr (3, [.ref h5, .ref n2, .ref n4, .int (nI cn)])), (n2, .inr (1, [.ref n3, .int (nI (1 + i))])), (n3, .inl (cI, 4096, .inl mg)), (n4, .inr (1, [.ref n5, .int (nI (1 + i))])), (h5, .inr (2, [.ref n1, .int (nI k), .int (nI c2)])), (n1, .inl (cI, 12, .inl g1)), (h8, .inr (0, [.int ((dO x2 k (zN x2 k i) k).2)]))] := hD
                          refine lv_aload_n hx hb dX11_times_68 rfl (lv_at hl 3 rfl) ?_
                          refine va_get (D := D) (ci := 11) (v := .ref h6) (C := RX11) (T := TX11) (N := 16) hx hb hts hin11 hown hK hP 0 rfl rfl 5 (by decide) (hts (.fieldLink RX11 44 "MissedPoints" "thoughtPairs" "LMissedPoints$Pairs;") (by decide +kernel)) (fun _ h9 => h9) rfl dX11_times_69 ?_
                          refine lv_aload_n hx hb dX11_times_72 rfl (lv_at hl 3 rfl) ?_
                          refine va_get (D := D) (ci := 11) (v := .ref h5) (C := RX11) (T := TX11) (N := 16) hx hb hts hin11 hown hK hP 0 rfl rfl 4 (by decide) (hts (.fieldLink RX11 41 "MissedPoints" "thoughtNet" "LMissedPoints$Net;") (by decide +kernel)) (fun _ h9 => h9) rfl dX11_times_73 ?_
                          have hPc := hP.sub (ws' := [(h5, .inr (2, [.ref n1, .int (nI k), .int (nI c2)]))]) [5] rfl
                          refine lz_sv (As := []) (rest := [.ref h6]) ⟨hx, hb, hml, hown, hts⟩ (c_X2_all_1 l D cI cS h5 n1 (nI k) (nI c2)) hKK hPc (ci := 2) rfl rfl (cwV 0 hts gX11_times_X2_all rfl rfl rfl (by decide +kernel) ⟨Nat.le_of_ble_eq_true rfl, Nat.le_of_ble_eq_true rfl⟩) rfl hl.1 rfl (Nat.le_of_ble_eq_true rfl) dX11_times_76 ⟨Nat.le_of_ble_eq_true rfl, Nat.le_of_ble_eq_true rfl⟩ (fun r5325 hw => ?_)
                          subst hw
                          refine lz_top (y := (nI (2 ^ k - 1))) (all_eq k (by omega)) ?_
                          have hPc := hP.sub (ws' := [(h6, .inr (3, [.ref h5, .ref n2, .ref n4, .int (nI cn)])), (h5, .inr (2, [.ref n1, .int (nI k), .int (nI c2)])), (n1, .inl (cI, 12, .inl g1)), (n2, .inr (1, [.ref n3, .int (nI (1 + i))])), (n3, .inl (cI, 4096, .inl mg)), (n4, .inr (1, [.ref n5, .int (nI (1 + i))]))]) [1, 5, 6, 2, 3, 4] rfl
                          have hDc := hD.sub (ws' := [(h6, .inr (3, [.ref h5, .ref n2, .ref n4, .int (nI cn)])), (h5, .inr (2, [.ref n1, .int (nI k), .int (nI c2)])), (n1, .inl (cI, 12, .inl g1)), (n2, .inr (1, [.ref n3, .int (nI (1 + i))])), (n3, .inl (cI, 4096, .inl mg)), (n4, .inr (1, [.ref n5, .int (nI (1 + i))]))]) [1, 5, 6, 2, 3, 4] (by decide) rfl
                          refine lz_qf (wr := [(h0, .inr (11, [.ref h1, .ref h2, .ref h3, .ref h4, .ref h5, .ref h6, .ref h7, .int 0, .int 0, .ref h8, .ref h9, .ref h10, .ref h11, .ref h12, .ref h13, .ref h14])), (h8, .inr (0, [.int ((dO x2 k (zN x2 k i) k).2)]))]) (w1 := fun (u : Nat → Int32) => [(h6, .inr (3, [.ref h5, .ref n2, .ref n4, .int (nI c2)])), (h5, .inr (2, [.ref n1, .int (nI k), .int (nI c2)])), (n1, .inl (cI, 12, .inl g1)), (n2, .inr (1, [.ref n3, .int (nI (1 + i + 1))])), (n3, .inl (cI, 4096, .inl u)), (n4, .inr (1, [.ref n5, .int (nI (1 + i + 1))]))]) (As := [.int (nI (2 ^ k - 1))]) (rest := []) ⟨hx, hb, hml, hown, hts⟩ (c_lackX l D cI cS _ h6 h5 n2 n4 n1 n3 n5 g1 mg k cn c2 (1 + i) (1 + i) hk (by omega) (by omega) (by omega) (by omega) (by omega) ((dO_lo hk k (Nat.le_refl _)).like hg1) (Sym.like hg1 (dO_sym hk k (Nat.le_refl _))) hms) hKK hP hD hS hA [1, 5, 6, 2, 3, 4] [0, 7] (by decide) rfl rfl (by decide) (by decide) hPc hDc (ci := 3) rfl rfl (cwV 1 hts gX11_times_X3_lack rfl rfl rfl (by decide +kernel) ⟨Nat.le_of_ble_eq_true rfl, Nat.le_of_ble_eq_true rfl⟩) rfl hl.1 rfl (Nat.le_of_ble_eq_true rfl) dX11_times_79 ⟨Nat.le_of_ble_eq_true rfl, Nat.le_of_ble_eq_true rfl⟩ (fun r9 u H locs hq hP hD hS => ?_)
                          have hP : va_P D cls [(h0, .inr (11, [.ref h1, .ref h2, .ref h3, .ref h4, .ref h5, .ref h6, .ref h7, .int 0, .int 0, .ref h8, .ref h9, .ref h10, .ref h11, .ref h12, .ref h13, .ref h14])), (h8, .inr (0, [.int ((dO x2 k (zN x2 k i) k).2)])), (h6, .inr (3, [.ref h5, .ref n2, .ref n4, .int (nI c2)])), (h5, .inr (2, [.ref n1, .int (nI k), .int (nI c2)])), (n1, .inl (cI, 12, .inl g1)), (n2, .inr (1, [.ref n3, .int (nI (1 + i + 1))])), (n3, .inl (cI, 4096, .inl u)), (n4, .inr (1, [.ref n5, .int (nI (1 + i + 1))]))] H := hP
                          have hD : va_D A [(h0, .inr (11, [.ref h1, .ref h2, .ref h3, .ref h4, .ref h5, .ref h6, .ref h7, .int 0, .int 0, .ref h8, .ref h9, .ref h10, .ref h11, .ref h12, .ref h13, .ref h14])), (h8, .inr (0, [.int ((dO x2 k (zN x2 k i) k).2)])), (h6, .inr (3, [.ref h5, .ref n2, .ref n4, .int (nI c2)])), (h5, .inr (2, [.ref n1, .int (nI k), .int (nI c2)])), (n1, .inl (cI, 12, .inl g1)), (n2, .inr (1, [.ref n3, .int (nI (1 + i + 1))])), (n3, .inl (cI, 4096, .inl u)), (n4, .inr (1, [.ref n5, .int (nI (1 + i + 1))]))] := hD
                          refine lz_top (y := (lkN x2 k i)) (by rw [hq.1]; unfold lkN; rw [nuS_like hg1]) ?_
                          refine lv_iload hx hb dX11_times_82 (lv_at hl 7 rfl) ?_
                          refine lv_icmp_ne (tgt := 90) hx hb dX11_times_84 (by decide) (fun c5326 => ?_) (fun c5326 => ?_)
                          · refine lv_iinc (v := (nI (i + 1))) (lv' := [(7, .int (nI (i + 1))), (6, .int (cT x2 x3 k i)), (5, .int 1), (0, .ref h0), (1, .int (nI nn)), (2, .int (nI k)), (3, .int x2), (4, .int x3)]) hx hb dX11_times_90 hl (k := 0) rfl (nI_1 _) (by decide) rfl (fun ls hl => ?_)
                            refine lv_goto (tgt := 49) hx hb dX11_times_93 (by decide) ?_
                            have hl9 := lv_sub (l' := [(7, .int (nI (i + 1))), (6, .int (cT x2 x3 k i)), (5, .int 1), (0, .ref h0), (1, .int (nI nn)), (2, .int (nI k)), (3, .int x2), (4, .int x3)]) hl [0, 1, 2, 3, 4, 5, 6, 7] rfl
                            rw [(show (cT x2 x3 k i) = cT x2 x3 k (i + 1) from by show _ = cT x2 x3 k i + (if lkN x2 k i = x3 then 1 else 0); rw [if_neg c5326]; simp)] at hl9
                            exact ih (i + 1) c2 (nI k) g1 u (by omega) (by omega) (by rw [show 1 + (i + 1) = 1 + i + 1 by omega]; exact hq.2) ls H locs (by rw [show 1 + (i + 1) = 1 + i + 1 by omega]; exact hP.sub [0, 3, 4, 2, 5, 6, 7, 1] rfl) (by rw [show 1 + (i + 1) = 1 + i + 1 by omega]; exact hD.sub [0, 3, 4, 2, 5, 6, 7, 1] (by decide) rfl) hS hl9
                          · refine lv_iinc (v := (cT x2 x3 k i) + 1) (lv' := [(6, .int ((cT x2 x3 k i) + 1)), (7, .int (nI i)), (5, .int 1), (0, .ref h0), (1, .int (nI nn)), (2, .int (nI k)), (3, .int x2), (4, .int x3)]) hx hb dX11_times_87 hl (k := 1) rfl (by rfl) (by decide) rfl (fun ls hl => ?_)
                            refine lv_iinc (v := (nI (i + 1))) (lv' := [(7, .int (nI (i + 1))), (6, .int ((cT x2 x3 k i) + 1)), (5, .int 1), (0, .ref h0), (1, .int (nI nn)), (2, .int (nI k)), (3, .int x2), (4, .int x3)]) hx hb dX11_times_90 hl (k := 1) rfl (nI_1 _) (by decide) rfl (fun ls hl => ?_)
                            refine lv_goto (tgt := 49) hx hb dX11_times_93 (by decide) ?_
                            have hl9 := lv_sub (l' := [(7, .int (nI (i + 1))), (6, .int ((cT x2 x3 k i) + 1)), (5, .int 1), (0, .ref h0), (1, .int (nI nn)), (2, .int (nI k)), (3, .int x2), (4, .int x3)]) hl [0, 1, 2, 3, 4, 5, 6, 7] rfl
                            rw [(show (cT x2 x3 k i) + 1 = cT x2 x3 k (i + 1) from by show _ = cT x2 x3 k i + (if lkN x2 k i = x3 then 1 else 0); rw [if_pos c5326])] at hl9
                            exact ih (i + 1) c2 (nI k) g1 u (by omega) (by omega) (by rw [show 1 + (i + 1) = 1 + i + 1 by omega]; exact hq.2) ls H locs (by rw [show 1 + (i + 1) = 1 + i + 1 by omega]; exact hP.sub [0, 3, 4, 2, 5, 6, 7, 1] rfl) (by rw [show 1 + (i + 1) = 1 + i + 1 by omega]; exact hD.sub [0, 3, 4, 2, 5, 6, 7, 1] (by decide) rfl) hS hl9
                    refine lv_aload_n hx hb dX11_times_34 rfl (lv_at hl 0 rfl) ?_
                    refine va_get (D := D) (ci := 11) (v := .ref h8) (C := RX11) (T := TX11) (N := 16) hx hb hts hin11 hown hK hP 0 rfl rfl 9 (by decide) (hts (.fieldLink RX11 53 "MissedPoints" "draws" "LMissedPoints$Draws;") (by decide +kernel)) (fun _ h9 => h9) rfl dX11_times_35 ?_
                    refine va_getN (D := D) (ci := 0) (v := .int 1) (C := RX0) (T := TX0) (N := 1) hx hb hts hin0 hown hK hP 7 rfl rfl 0 (by decide) (va_Nw.use rfl hN.2.1) (fun _ h9 => h9) rfl dX11_times_38 ?_
                    refine lv_istore (lv' := [(5, .int 1), (0, .ref h0), (1, .int (nI nn)), (2, .int (nI k)), (3, .int x2), (4, .int x3)]) hx hb dX11_times_41 hl (by decide) rfl (fun ls hl => ?_)
                    refine lv_iconst (v := 0) hx hb dX11_times_43 (by decide) ?_
                    refine lv_istore (lv' := [(6, .int 0), (5, .int 1), (0, .ref h0), (1, .int (nI nn)), (2, .int (nI k)), (3, .int x2), (4, .int x3)]) hx hb dX11_times_44 hl (by decide) rfl (fun ls hl => ?_)
                    refine lv_iconst (v := 0) hx hb dX11_times_46 (by decide) ?_
                    refine lv_istore (lv' := [(7, .int 0), (6, .int 0), (5, .int 1), (0, .ref h0), (1, .int (nI nn)), (2, .int (nI k)), (3, .int x2), (4, .int x3)]) hx hb dX11_times_47 hl (by decide) rfl (fun ls hl => ?_)
                    exact lp nn 0 0 0 (fun _ => 0) (fun _ => 0) (by omega) (by omega) (fun i hi => ⟨0, by omega, rfl, by omega⟩) ls _ _ (hP.sub [0, 1, 2, 3, 4, 5, 6, 7] rfl) (hD.sub [0, 1, 2, 3, 4, 5, 6, 7] (by decide) rfl) hS (lv_sub hl [0, 1, 2, 3, 4, 5, 6, 7] rfl)
                  · refine lv_bipush (v := (-2)) hx hb dX11_times_31 (by decide) ?_
                    have hP9 := hP.sub (ws' := []) [] rfl
                    have hD9 := hD.sub (ws' := []) [] (by decide) rfl
                    subst hAe
                    exact W.iret (v := (-2)) hx hb hr (fun t ht hW => ⟨⟨_, (), rfl, by unfold timesR; rw [if_neg c5309, if_neg c5310, if_neg k5312, if_neg k5314, if_neg k5316, if_neg k5318, if_neg c5321, if_pos (lz_nle c5322)], by rw [ht]; exact hP9, hD9⟩, hS.F ht⟩) hS.2.2 dX11_times_33
