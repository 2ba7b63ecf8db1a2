set_option maxRecDepth 20000 in
theorem ggX12_rowRead_X12_goesOn : GoodIn wsX12_rowRead wsX12_goesOn := goodIn_r _ [22, 23, 24, 7, 25, 1, 26, 27, 28, 29, 5, 30, 13, 14, 15, 41, 42, 43, 44, 45, 46, 47, 48, 49, 50, 51, 52, 53, 54, 55, 56, 57, 58, 59, 60, 61, 62, 63, 64] (by decide +kernel) (by decide +kernel)
set_option maxRecDepth 20000 in
theorem gX12_rowRead_X12_goesOn : GoodIn wsX12_rowRead (wsV RX12 187 RX12 yX12_goesOn wsX12_goesOn) := goodIn_app (goodIn_of _ (by decide +kernel)) ggX12_rowRead_X12_goesOn
set_option maxRecDepth 20000 in
theorem ggX12_rowRead_X12_joins : GoodIn wsX12_rowRead wsX12_joins := goodIn_r _ [34, 35, 36, 16, 17, 5, 18, 37, 38, 39, 40, 41, 42, 43, 44, 45, 46, 47, 48, 49, 50, 51, 52, 53, 54, 55, 56, 57, 58, 59, 60, 61, 62, 63, 64] (by decide +kernel) (by decide +kernel)
set_option maxRecDepth 20000 in
theorem gX12_rowRead_X12_joins : GoodIn wsX12_rowRead (wsV RX12 193 RX12 yX12_joins wsX12_joins) := goodIn_app (goodIn_of _ (by decide +kernel)) ggX12_rowRead_X12_joins
theorem dX12_rowRead_13 : decode cX12_rowRead 13 = .ok (.aload_n 0, 1) := by decide +kernel
theorem dX12_rowRead_14 : decode cX12_rowRead 14 = .ok (.getfield 181, 3) := by decide +kernel
theorem dX12_rowRead_17 : decode cX12_rowRead 17 = .ok (.bipush 45, 2) := by decide +kernel
theorem dX12_rowRead_19 : decode cX12_rowRead 19 = .ok (.if_icmp .ne 33, 3) := by decide +kernel
theorem dX12_rowRead_22 : decode cX12_rowRead 22 = .ok (.aload_n 0, 1) := by decide +kernel
theorem dX12_rowRead_23 : decode cX12_rowRead 23 = .ok (.invokevirtual 187, 3) := by decide +kernel
theorem dX12_rowRead_26 : decode cX12_rowRead 26 = .ok (.aload_n 0, 1) := by decide +kernel
theorem dX12_rowRead_27 : decode cX12_rowRead 27 = .ok (.iconst 1, 1) := by decide +kernel
theorem dX12_rowRead_28 : decode cX12_rowRead 28 = .ok (.iload_n 1, 1) := by decide +kernel
theorem dX12_rowRead_29 : decode cX12_rowRead 29 = .ok (.ishl, 1) := by decide +kernel
theorem dX12_rowRead_30 : decode cX12_rowRead 30 = .ok (.invokevirtual 190, 3) := by decide +kernel
theorem dX12_rowRead_33 : decode cX12_rowRead 33 = .ok (.istore_n 2, 1) := by decide +kernel
theorem dX12_rowRead_34 : decode cX12_rowRead 34 = .ok (.iload_n 2, 1) := by decide +kernel
theorem dX12_rowRead_35 : decode cX12_rowRead 35 = .ok (.iconst (-1), 1) := by decide +kernel
theorem dX12_rowRead_36 : decode cX12_rowRead 36 = .ok (.if_icmp .ne 5, 3) := by decide +kernel
theorem dX12_rowRead_39 : decode cX12_rowRead 39 = .ok (.iconst 0, 1) := by decide +kernel
theorem dX12_rowRead_40 : decode cX12_rowRead 40 = .ok (.ireturn, 1) := by decide +kernel
theorem dX12_rowRead_41 : decode cX12_rowRead 41 = .ok (.aload_n 0, 1) := by decide +kernel
theorem dX12_rowRead_42 : decode cX12_rowRead 42 = .ok (.iload_n 1, 1) := by decide +kernel
theorem dX12_rowRead_43 : decode cX12_rowRead 43 = .ok (.iload_n 2, 1) := by decide +kernel
theorem dX12_rowRead_44 : decode cX12_rowRead 44 = .ok (.invokevirtual 193, 3) := by decide +kernel
theorem dX12_rowRead_47 : decode cX12_rowRead 47 = .ok (.iload_n 2, 1) := by decide +kernel
theorem dX12_rowRead_48 : decode cX12_rowRead 48 = .ok (.istore_n 1, 1) := by decide +kernel
theorem dX12_rowRead_49 : decode cX12_rowRead 49 = .ok (.goto (-36), 3) := by decide +kernel
theorem dX12_rowRead_52 : decode cX12_rowRead 52 = .ok (.iconst 1, 1) := by decide +kernel
theorem dX12_rowRead_53 : decode cX12_rowRead 53 = .ok (.ireturn, 1) := by decide +kernel
set_option maxHeartbeats 4000000 in
set_option maxRecDepth 100000 in
theorem w_X12_rowRead (l : Launch) (D : va_G) (cI cS : ClassId) (sz : Nat) (b : Nat → Nat) (l_m l_z l_tp l_hs l_to l_tk l_wo : Int32) (l_so l_sz l_kp : Nat → Int32) (v0 : SU) (hL : TyL (mkM l_m l_z l_tp l_hs l_to l_tk l_wo l_so l_sz l_kp)) (hV : TyV v0) (hto : l_to.toInt ≤ l_tp.toInt) : Met l yX12_rowRead wsX12_rowRead ({ frames := 4, cells := 0, slots := 0, locals := 160 }) (PQ D cI cS (wM cI b (mkM l_m l_z l_tp l_hs l_to l_tk l_wo l_so l_sz l_kp) v0) sz [.ref (b 0)]) (QF (S := Int32 × Int32 × Int32 × SU) D (wM cI b (mkM l_m l_z l_tp l_hs l_to l_tk l_wo l_so l_sz l_kp) v0) (fun q => wM cI b (mkM l_m l_z l_tp l_hs q.1 q.2.1 q.2.2.1 l_so l_sz l_kp) q.2.2.2) sz (fun r q => TyV q.2.2.2 ∧ Rg 0 1 r ∧ Rg 0 120 q.1 ∧ (l_to.toInt ≤ q.1.toInt ∧ q.1.toInt ≤ l_tp.toInt ∧ (¬ q.2.1.toInt = 0 → l_to.toInt < q.1.toInt ∨ ¬ l_tk.toInt = 0)))) 0 0 (va_A (wM cI b (mkM l_m l_z l_tp l_hs l_to l_tk l_wo l_so l_sz l_kp) v0) sz) := by
  refine Met.ofW (cc := cX12_rowRead) (maxL := 3) (ret := (some .boolean)) (by decide) rfl ?_
  intro p e s m args below meth c s₁ B hml hv
  obtain ⟨rfl, hsz, hP, hKK, hD0⟩ := hv
  have hx := B.exec
  have hb := B.bytes
  have hr := B.returns
  have hts := atoms_spec (ws := wsX12_rowRead) B.pre
  have hown : s.vm.findClass RX12 = some m.cls := findClass_of_methodNamed B.named
  have hlocks := B.notSynchronized
  have hK := hKK.1
  have hin12 : ∀ w ∈ wsX120, w ∈ wsX12_rowRead := by decide +kernel
  subst hsz
  have hD := hD0.self (sz := s.heap.size)
  obtain ⟨A, hAe⟩ : ∃ A, A = va_A (wM cI b (mkM l_m l_z l_tp l_hs l_to l_tk l_wo l_so l_sz l_kp) v0) s.heap.size := ⟨_, rfl⟩
  rw [← hAe] at hD
  have hA : ∀ q : Nat, s.heap.size ≤ q → A q := fun q h => by rw [hAe]; exact Or.inr h
  have hS : va_S A s.heap s.heap [] := va_S.rf
  have hl := lv_entry ([.ref (b 0)]) (n := 3) (Nat.le_of_ble_eq_true rfl)
  rw [lg_entry_eq]
  generalize (lg_sl ([.ref (b 0)]) ++ List.replicate (3 - (lg_sl ([.ref (b 0)])).length) Slot.unset).toArray = ls at hl ⊢
  have hl : lv_has ls 3 [(0, .ref (b 0))] := hl
  obtain ⟨v, hv9⟩ : ∃ v : SU, v = v0 := ⟨_, rfl⟩
  rw [← hv9] at hP hD hV
  have p_m : Rg 0 12 l_m := hL.1
  have p_tp : Rg 0 120 l_tp := hL.2.1
  have p_so : Ar (-1) 1 l_so := hL.2.2.1
  have p_sz : Ar 0 40 l_sz := hL.2.2.2.1
  have p_kp : Kp l_kp := hL.2.2.2.2.1
  have p_to : Rg 0 120 l_to := hL.2.2.2.2.2
  have lp13 : ∀ (n13 : Nat) (y13_l1 : Int32) (y13_kto : Int32) (y13_ktk : Int32) (y13_kwo : Int32) (v : SU) (H : Heap) (locs : List Loc) (ls : Array Slot), Rg 0 11 y13_l1 → Rg 0 120 y13_kto → (l_to.toInt ≤ y13_kto.toInt ∧ y13_kto.toInt ≤ l_tp.toInt ∧ (¬ y13_ktk.toInt = 0 → l_to.toInt < y13_kto.toInt ∨ ¬ l_tk.toInt = 0)) → TyV v → va_P D cls (wM cI b (mkM l_m l_z l_tp l_hs y13_kto y13_ktk y13_kwo l_so l_sz l_kp) v) H → va_D A (wM cI b (mkM l_m l_z l_tp l_hs y13_kto y13_ktk y13_kwo l_so l_sz l_kp) v) → va_S A s.heap H locs → lv_has ls 3 [(0, .ref (b 0)), (1, .int y13_l1)] → l_tp.toInt - y13_kto.toInt < (n13 : Int) → W p l e (headSpec wsX12_rowRead ({ frames := 4, cells := 0, slots := 0, locals := 160 })).room s m ([.ref (b 0)]).toArray below meth c H locs 0 0 (MQ below (QF (S := Int32 × Int32 × Int32 × SU) D (wM cI b (mkM l_m l_z l_tp l_hs l_to l_tk l_wo l_so l_sz l_kp) v0) (fun q => wM cI b (mkM l_m l_z l_tp l_hs q.1 q.2.1 q.2.2.1 l_so l_sz l_kp) q.2.2.2) s.heap.size (fun r q => TyV q.2.2.2 ∧ Rg 0 1 r ∧ Rg 0 120 q.1 ∧ (l_to.toInt ≤ q.1.toInt ∧ q.1.toInt ≤ l_tp.toInt ∧ (¬ q.2.1.toInt = 0 → l_to.toInt < q.1.toInt ∨ ¬ l_tk.toInt = 0)))) ([.ref (b 0)]).toArray s 0 0 (va_A (wM cI b (mkM l_m l_z l_tp l_hs l_to l_tk l_wo l_so l_sz l_kp) v0) s.heap.size)) (F0 m 13 ls []) := by
    intro n13
    induction n13 with
    | zero =>
      intro y13_l1 y13_kto y13_ktk y13_kwo v H locs ls g13_l1 g13_kto x13_0 hV hP hD hS hl hm13
      exact False.elim (by have z8 := hm13; have z7 := x13_0; omega)
    | succ n13 ih13 =>
      intro y13_l1 y13_kto y13_ktk y13_kwo v H locs ls g13_l1 g13_kto x13_0 hV hP hD hS hl hm13
      refine lv_aload_n hx hb dX12_rowRead_13 rfl (lv_at hl 0 rfl) ?_
      refine va_get (D := D) (ci := 12) (v := .int y13_ktk) (C := RX12) (T := TX12) (N := 24) hx hb hts hin12 hown hK hP 0 rfl rfl 13 (by decide) (hts (.fieldLink RX12 181 "MissedPointsModel" "token" "I") (by decide +kernel)) (fun _ h9 => h9) rfl dX12_rowRead_14 ?_
      refine lv_bipush (v := 45) hx hb dX12_rowRead_17 (by decide) ?_
      refine lv_icmp_ne (tgt := 52) hx hb dX12_rowRead_19 (by decide) (fun c23686 => ?_) (fun c23686 => ?_)
      · refine lv_iconst (v := 1) hx hb dX12_rowRead_52 (by decide) ?_
        subst hAe
        exact W.zret (v := 1) hx hb hr (by decide) (fun t ht hW => ⟨⟨_, (y13_kto, y13_ktk, y13_kwo, v), rfl, ⟨hV, (by decide : Rg 0 1 (1 : Int32)), g13_kto, (show l_to.toInt ≤ y13_kto.toInt ∧ y13_kto.toInt ≤ l_tp.toInt ∧ (¬ y13_ktk.toInt = 0 → l_to.toInt < y13_kto.toInt ∨ ¬ l_tk.toInt = 0) from by have y90 : ¬ y13_ktk.toInt = (45 : Int32).toInt := fun z => c23686 (Int32.toInt_inj.mp z); have y91 : Rg 0 11 y13_l1 := g13_l1; have y92 : Rg 0 12 l_m := p_m; have y93 : Rg 0 120 l_tp := p_tp; have y94 : Rg 0 120 y13_kto := g13_kto; have y9c5 : (0 : Int32).toInt = 0 := (by decide); have y9c6 : (1 : Int32).toInt = 1 := (by decide); have y9c7 : (45 : Int32).toInt = 45 := (by decide); omega)⟩, by rw [ht]; exact hP, hD⟩, hS.F ht⟩) hS.2.2 dX12_rowRead_53
      · have g23687 : Rg 45 45 y13_ktk := wk_eql (rg_any y13_ktk) (by decide : Rg 45 45 (45 : Int32)) c23686 (by decide)
        refine lv_aload_n hx hb dX12_rowRead_22 rfl (lv_at hl 0 rfl) ?_
        refine wk_qv (S := Int32 × Int32 × Int32 × SU) (fun q => wM cI b (mkM l_m l_z l_tp l_hs q.1 q.2.1 q.2.2.1 l_so l_sz l_kp) q.2.2.2) (y13_kto, y13_ktk, y13_kwo, v) (As := []) (rest := []) ⟨hx, hb, hml, hown, hts⟩ (w_X12_goesOn l D cI cS _ b l_m l_z l_tp l_hs y13_kto y13_ktk y13_kwo l_so l_sz l_kp v (show TyL (mkM l_m l_z l_tp l_hs y13_kto y13_ktk y13_kwo l_so l_sz l_kp) from ⟨p_m, p_tp, p_so, p_sz, p_kp, g13_kto⟩) hV (by have y90 : y13_ktk.toInt = (45 : Int32).toInt := congrArg Int32.toInt c23686; have y91 : Rg 45 45 y13_ktk := g23687; have y92 : Rg 0 11 y13_l1 := g13_l1; have y93 : Rg 0 12 l_m := p_m; have y94 : Rg 0 120 l_tp := p_tp; have y95 : Rg 0 120 y13_kto := g13_kto; have y96 : Rg 45 45 y13_ktk := g23687; have y9c7 : (0 : Int32).toInt = 0 := (by decide); have y9c8 : (1 : Int32).toInt = 1 := (by decide); have y9c9 : (45 : Int32).toInt = 45 := (by decide); omega)) hKK hP hD hS hA 0 (ci := 12) rfl rfl (cwV 0 hts gX12_rowRead_X12_goesOn rfl rfl rfl (by decide +kernel) ⟨Nat.le_of_ble_eq_true rfl, Nat.le_of_ble_eq_true rfl⟩) rfl hl.1 rfl (Nat.le_of_ble_eq_true rfl) dX12_rowRead_23 ⟨Nat.le_of_ble_eq_true rfl, Nat.le_of_ble_eq_true rfl⟩ (fun q9 H locs hr23688 hP hD hS => ?_)
        obtain ⟨r23689, r23690, r23691, v⟩ := q9
        have hr23688 : TyV v ∧ Rg 0 120 r23689 ∧ (y13_kto.toInt ≤ r23689.toInt ∧ r23689.toInt ≤ l_tp.toInt ∧ (¬ r23690.toInt = 0 → y13_kto.toInt < r23689.toInt)) := hr23688
        have hV := hr23688.1
        have hP : va_P D cls (wM cI b (mkM l_m l_z l_tp l_hs r23689 r23690 r23691 l_so l_sz l_kp) v) H := hP
        have hD : va_D A (wM cI b (mkM l_m l_z l_tp l_hs r23689 r23690 r23691 l_so l_sz l_kp) v) := hD
        have kr23688_0 := hr23688.2.2
        refine lv_aload_n hx hb dX12_rowRead_26 rfl (lv_at hl 0 rfl) ?_
        refine lv_iconst (v := 1) hx hb dX12_rowRead_27 (by decide) ?_
        refine lv_iload_n hx hb dX12_rowRead_28 rfl (lv_at hl 1 rfl) ?_
        refine wk_ishl1 (f := 2048) hx hb dX12_rowRead_29 g13_l1 (by decide) (fun r23692 hr23692 qr23692 => ?_)
        refine wk_qi (S := Int32 × Int32 × Int32 × SU) (fun q => wM cI b (mkM l_m l_z l_tp l_hs q.1 q.2.1 q.2.2.1 l_so l_sz l_kp) q.2.2.2) (r23689, r23690, r23691, v) (As := [.int r23692]) (rest := []) ⟨hx, hb, hml, hown, hts⟩ (w_X12_pointRead l D cI cS _ b l_m l_z l_tp l_hs r23689 r23690 r23691 l_so l_sz l_kp v (show TyL (mkM l_m l_z l_tp l_hs r23689 r23690 r23691 l_so l_sz l_kp) from ⟨p_m, p_tp, p_so, p_sz, p_kp, hr23688.2.1⟩) hV r23692 (by have y90 : y13_ktk.toInt = (45 : Int32).toInt := congrArg Int32.toInt c23686; have y91 : Rg 45 45 y13_ktk := g23687; have y92 : Rg 0 11 y13_l1 := g13_l1; have y93 : Rg 1 2048 r23692 := hr23692; have y94 : Rg 0 12 l_m := p_m; have y95 : Rg 0 120 l_tp := p_tp; have y96 : Rg 0 120 r23689 := hr23688.2.1; have y9c7 : (0 : Int32).toInt = 0 := (by decide); have y9c8 : (1 : Int32).toInt = 1 := (by decide); have y9c9 : (45 : Int32).toInt = 45 := (by decide); omega)) hKK hP hD hS hA 0 (ci := 12) rfl rfl (cwV 1 hts gX12_rowRead_X12_pointRead rfl rfl rfl (by decide +kernel) ⟨Nat.le_of_ble_eq_true rfl, Nat.le_of_ble_eq_true rfl⟩) rfl hl.1 rfl (Nat.le_of_ble_eq_true rfl) dX12_rowRead_30 ⟨Nat.le_of_ble_eq_true rfl, Nat.le_of_ble_eq_true rfl⟩ (fun r23693 q9 H locs hr23693 hP hD hS => ?_)
        obtain ⟨r23694, r23695, r23696, v⟩ := q9
        have hr23693 : TyV v ∧ Rg (-1) 11 r23693 ∧ Rg 0 120 r23694 ∧ (r23689.toInt ≤ r23694.toInt ∧ r23694.toInt ≤ l_tp.toInt ∧ (¬ r23693.toInt = -1 → r23690.toInt = 1 ∧ (¬ r23695.toInt = 0 → r23689.toInt < r23694.toInt)) ∧ (r23693.toInt = -1 → r23694.toInt = r23689.toInt ∧ r23695.toInt = r23690.toInt)) := hr23693
        have hV := hr23693.1
        have hP : va_P D cls (wM cI b (mkM l_m l_z l_tp l_hs r23694 r23695 r23696 l_so l_sz l_kp) v) H := hP
        have hD : va_D A (wM cI b (mkM l_m l_z l_tp l_hs r23694 r23695 r23696 l_so l_sz l_kp) v) := hD
        have kr23693_0 := hr23693.2.2.2
        refine lv_istore_n (lv' := [(2, .int r23693), (0, .ref (b 0)), (1, .int y13_l1)]) hx hb dX12_rowRead_33 rfl hl (by decide) rfl (fun ls hl => ?_)
        refine lv_iload_n hx hb dX12_rowRead_34 rfl (lv_at hl 0 rfl) ?_
        refine lv_iconst (v := (-1)) hx hb dX12_rowRead_35 (by decide) ?_
        refine lv_icmp_ne (tgt := 41) hx hb dX12_rowRead_36 (by decide) (fun c23697 => ?_) (fun c23697 => ?_)
        · have g23698 : Rg 0 11 r23693 := rg_ne_lo (k := (-1)) hr23693.2.1 (by decide) c23697 (by decide)
          refine lv_aload_n hx hb dX12_rowRead_41 rfl (lv_at hl 1 rfl) ?_
          refine lv_iload_n hx hb dX12_rowRead_42 rfl (lv_at hl 2 rfl) ?_
          refine lv_iload_n hx hb dX12_rowRead_43 rfl (lv_at hl 0 rfl) ?_
          refine wk_qv (wM cI b (mkM l_m l_z l_tp l_hs r23694 r23695 r23696 l_so l_sz l_kp)) v (As := [.int y13_l1, .int r23693]) (rest := []) ⟨hx, hb, hml, hown, hts⟩ (w_X12_joins l D cI cS _ b (mkM l_m l_z l_tp l_hs r23694 r23695 r23696 l_so l_sz l_kp) v (show TyL (mkM l_m l_z l_tp l_hs r23694 r23695 r23696 l_so l_sz l_kp) from ⟨p_m, p_tp, p_so, p_sz, p_kp, hr23693.2.2.1⟩) hV y13_l1 r23693 g13_l1 g23698) hKK hP hD hS hA 0 (ci := 12) rfl rfl (cwV 2 hts gX12_rowRead_X12_joins rfl rfl rfl (by decide +kernel) ⟨Nat.le_of_ble_eq_true rfl, Nat.le_of_ble_eq_true rfl⟩) rfl hl.1 rfl (Nat.le_of_ble_eq_true rfl) dX12_rowRead_44 ⟨Nat.le_of_ble_eq_true rfl, Nat.le_of_ble_eq_true rfl⟩ (fun v H locs hr23699 hP hD hS => ?_)
          have hV := hr23699.1
          refine lv_iload_n hx hb dX12_rowRead_47 rfl (lv_at hl 0 rfl) ?_
          refine lv_istore_n (lv' := [(1, .int r23693), (2, .int r23693), (0, .ref (b 0))]) hx hb dX12_rowRead_48 rfl hl (by decide) rfl (fun ls hl => ?_)
          refine lv_goto (tgt := 13) hx hb dX12_rowRead_49 (by decide) ?_
          exact ih13 r23693 r23694 r23695 r23696 v _ _ ls g23698 hr23693.2.2.1 (show (l_to.toInt ≤ r23694.toInt ∧ r23694.toInt ≤ l_tp.toInt ∧ (¬ r23695.toInt = 0 → l_to.toInt < r23694.toInt ∨ ¬ l_tk.toInt = 0)) from by have y90 : y13_ktk.toInt = (45 : Int32).toInt := congrArg Int32.toInt c23686; have y91 : ¬ r23693.toInt = ((-1) : Int32).toInt := fun z => c23697 (Int32.toInt_inj.mp z); have y92 : Rg 45 45 y13_ktk := g23687; have y93 : Rg 0 11 r23693 := g23698; have y94 : Rg 0 11 r23693 := g23698; have y95 : Rg 0 11 r23693 := g23698; have y96 : Rg 0 12 l_m := p_m; have y97 : Rg 0 120 l_tp := p_tp; have y98 : Rg 0 120 r23694 := hr23693.2.2.1; have y9c9 : ((-1) : Int32).toInt = -1 := (by decide); have y9c10 : (0 : Int32).toInt = 0 := (by decide); have y9c11 : (1 : Int32).toInt = 1 := (by decide); have y9c12 : (45 : Int32).toInt = 45 := (by decide); omega) hV hP hD hS (lv_sub (l' := [(0, .ref (b 0)), (1, .int r23693)]) hl [2, 0] rfl) (show l_tp.toInt - r23694.toInt < _ from by have z8 := hm13; have y90 : y13_ktk.toInt = (45 : Int32).toInt := congrArg Int32.toInt c23686; have y91 : ¬ r23693.toInt = ((-1) : Int32).toInt := fun z => c23697 (Int32.toInt_inj.mp z); have y92 : Rg 45 45 y13_ktk := g23687; have y93 : Rg 0 11 r23693 := g23698; have y94 : Rg 0 11 r23693 := g23698; have y95 : Rg 0 11 r23693 := g23698; have y96 : Rg 0 12 l_m := p_m; have y97 : Rg 0 120 l_tp := p_tp; have y98 : Rg 0 120 r23694 := hr23693.2.2.1; have y9c9 : ((-1) : Int32).toInt = -1 := (by decide); have y9c10 : (0 : Int32).toInt = 0 := (by decide); have y9c11 : (1 : Int32).toInt = 1 := (by decide); have y9c12 : (45 : Int32).toInt = 45 := (by decide); omega)
        · have g23700 : Rg (-1) (-1) r23693 := wk_eql hr23693.2.1 (by decide : Rg (-1) (-1) ((-1) : Int32)) c23697 (by decide)
          refine lv_iconst (v := 0) hx hb dX12_rowRead_39 (by decide) ?_
          subst hAe
          exact W.zret (v := 0) hx hb hr (by decide) (fun t ht hW => ⟨⟨_, (r23694, r23695, r23696, v), rfl, ⟨hV, (by decide : Rg 0 1 (0 : Int32)), hr23693.2.2.1, (show l_to.toInt ≤ r23694.toInt ∧ r23694.toInt ≤ l_tp.toInt ∧ (¬ r23695.toInt = 0 → l_to.toInt < r23694.toInt ∨ ¬ l_tk.toInt = 0) from by have y90 : y13_ktk.toInt = (45 : Int32).toInt := congrArg Int32.toInt c23686; have y91 : r23693.toInt = ((-1) : Int32).toInt := congrArg Int32.toInt c23697; have y92 : Rg 45 45 y13_ktk := g23687; have y93 : Rg (-1) (-1) r23693 := g23700; have y94 : Rg 0 11 y13_l1 := g13_l1; have y95 : Rg (-1) (-1) r23693 := g23700; have y96 : Rg 0 12 l_m := p_m; have y97 : Rg 0 120 l_tp := p_tp; have y98 : Rg 0 120 r23694 := hr23693.2.2.1; have y9c9 : ((-1) : Int32).toInt = -1 := (by decide); have y9c10 : (0 : Int32).toInt = 0 := (by decide); have y9c11 : (1 : Int32).toInt = 1 := (by decide); have y9c12 : (45 : Int32).toInt = 45 := (by decide); omega)⟩, by rw [ht]; exact hP, hD⟩, hS.F ht⟩) hS.2.2 dX12_rowRead_40
  refine lv_aload_n hx hb dX12_rowRead_0 rfl (lv_at hl 0 rfl) ?_
  refine lv_iconst (v := 0) hx hb dX12_rowRead_1 (by decide) ?_
  refine wk_qi (S := Int32 × Int32 × Int32 × SU) (fun q => wM cI b (mkM l_m l_z l_tp l_hs q.1 q.2.1 q.2.2.1 l_so l_sz l_kp) q.2.2.2) (l_to, l_tk, l_wo, v) (As := [.int 0]) (rest := []) ⟨hx, hb, hml, hown, hts⟩ (w_X12_pointRead l D cI cS _ b l_m l_z l_tp l_hs l_to l_tk l_wo l_so l_sz l_kp v (show TyL (mkM l_m l_z l_tp l_hs l_to l_tk l_wo l_so l_sz l_kp) from ⟨p_m, p_tp, p_so, p_sz, p_kp, p_to⟩) hV (0 : Int32) (by have y90 : Rg 0 12 l_m := p_m; have y91 : Rg 0 120 l_tp := p_tp; have y92 : Rg 0 120 l_to := p_to; have y9c3 : (0 : Int32).toInt = 0 := (by decide); have y9c4 : (1 : Int32).toInt = 1 := (by decide); omega)) hKK hP hD hS hA 0 (ci := 12) rfl rfl (cwV 1 hts gX12_rowRead_X12_pointRead rfl rfl rfl (by decide +kernel) ⟨Nat.le_of_ble_eq_true rfl, Nat.le_of_ble_eq_true rfl⟩) rfl hl.1 rfl (Nat.le_of_ble_eq_true rfl) dX12_rowRead_2 ⟨Nat.le_of_ble_eq_true rfl, Nat.le_of_ble_eq_true rfl⟩ (fun r23701 q9 H locs hr23701 hP hD hS => ?_)
  obtain ⟨r23702, r23703, r23704, v⟩ := q9
  have hr23701 : TyV v ∧ Rg (-1) 11 r23701 ∧ Rg 0 120 r23702 ∧ (l_to.toInt ≤ r23702.toInt ∧ r23702.toInt ≤ l_tp.toInt ∧ (¬ r23701.toInt = -1 → l_tk.toInt = 1 ∧ (¬ r23703.toInt = 0 → l_to.toInt < r23702.toInt)) ∧ (r23701.toInt = -1 → r23702.toInt = l_to.toInt ∧ r23703.toInt = l_tk.toInt)) := hr23701
  have hV := hr23701.1
  have hP : va_P D cls (wM cI b (mkM l_m l_z l_tp l_hs r23702 r23703 r23704 l_so l_sz l_kp) v) H := hP
  have hD : va_D A (wM cI b (mkM l_m l_z l_tp l_hs r23702 r23703 r23704 l_so l_sz l_kp) v) := hD
  have kr23701_0 := hr23701.2.2.2
  refine lv_istore_n (lv' := [(1, .int r23701), (0, .ref (b 0))]) hx hb dX12_rowRead_5 rfl hl (by decide) rfl (fun ls hl => ?_)
  refine lv_iload_n hx hb dX12_rowRead_6 rfl (lv_at hl 0 rfl) ?_
  refine lv_iconst (v := (-1)) hx hb dX12_rowRead_7 (by decide) ?_
  refine lv_icmp_ne (tgt := 13) hx hb dX12_rowRead_8 (by decide) (fun c23705 => ?_) (fun c23705 => ?_)
  · have g23706 : Rg 0 11 r23701 := rg_ne_lo (k := (-1)) hr23701.2.1 (by decide) c23705 (by decide)
    exact lp13 122 r23701 r23702 r23703 r23704 v _ _ ls g23706 hr23701.2.2.1 (show (l_to.toInt ≤ r23702.toInt ∧ r23702.toInt ≤ l_tp.toInt ∧ (¬ r23703.toInt = 0 → l_to.toInt < r23702.toInt ∨ ¬ l_tk.toInt = 0)) from by have y90 : ¬ r23701.toInt = ((-1) : Int32).toInt := fun z => c23705 (Int32.toInt_inj.mp z); have y91 : Rg 0 11 r23701 := g23706; have y92 : Rg 0 11 r23701 := g23706; have y93 : Rg 0 12 l_m := p_m; have y94 : Rg 0 120 l_tp := p_tp; have y95 : Rg 0 120 r23702 := hr23701.2.2.1; have y9c6 : ((-1) : Int32).toInt = -1 := (by decide); have y9c7 : (0 : Int32).toInt = 0 := (by decide); have y9c8 : (1 : Int32).toInt = 1 := (by decide); omega) hV hP hD hS (lv_sub (l' := [(0, .ref (b 0)), (1, .int r23701)]) hl [1, 0] rfl) (show l_tp.toInt - r23702.toInt < _ from by have y90 : ¬ r23701.toInt = ((-1) : Int32).toInt := fun z => c23705 (Int32.toInt_inj.mp z); have y91 : Rg 0 11 r23701 := g23706; have y92 : Rg 0 11 r23701 := g23706; have y93 : Rg 0 12 l_m := p_m; have y94 : Rg 0 120 l_tp := p_tp; have y95 : Rg 0 120 r23702 := hr23701.2.2.1; have y9c6 : ((-1) : Int32).toInt = -1 := (by decide); have y9c7 : (0 : Int32).toInt = 0 := (by decide); have y9c8 : (1 : Int32).toInt = 1 := (by decide); omega)
  · have g23707 : Rg (-1) (-1) r23701 := wk_eql hr23701.2.1 (by decide : Rg (-1) (-1) ((-1) : Int32)) c23705 (by decide)
    refine lv_iconst (v := 0) hx hb dX12_rowRead_11 (by decide) ?_
    subst hAe
    exact W.zret (v := 0) hx hb hr (by decide) (fun t ht hW => ⟨⟨_, (r23702, r23703, r23704, v), rfl, ⟨hV, (by decide : Rg 0 1 (0 : Int32)), hr23701.2.2.1, (show l_to.toInt ≤ r23702.toInt ∧ r23702.toInt ≤ l_tp.toInt ∧ (¬ r23703.toInt = 0 → l_to.toInt < r23702.toInt ∨ ¬ l_tk.toInt = 0) from by have y90 : r23701.toInt = ((-1) : Int32).toInt := congrArg Int32.toInt c23705; have y91 : Rg (-1) (-1) r23701 := g23707; have y92 : Rg (-1) (-1) r23701 := g23707; have y93 : Rg 0 12 l_m := p_m; have y94 : Rg 0 120 l_tp := p_tp; have y95 : Rg 0 120 r23702 := hr23701.2.2.1; have y9c6 : ((-1) : Int32).toInt = -1 := (by decide); have y9c7 : (0 : Int32).toInt = 0 := (by decide); have y9c8 : (1 : Int32).toInt = 1 := (by decide); omega)⟩, by rw [ht]; exact hP, hD⟩, hS.F ht⟩) hS.2.2 dX12_rowRead_12
set_option maxRecDepth 20000 in
theorem ggX12_bracketsRead_X12_bits : GoodIn wsX12_bracketsRead wsX12_bits := goodIn_r _ [22] (by decide +kernel) (by decide +kernel)
set_option maxRecDepth 20000 in
theorem gX12_bracketsRead_X12_bits : GoodIn wsX12_bracketsRead (va_wsS RX12 85 yX12_bits wsX12_bits) := goodIn_app (goodIn_of _ (by decide +kernel)) ggX12_bracketsRead_X12_bits
set_option maxRecDepth 20000 in
theorem ggX12_bracketsRead_X12_goesOn : GoodIn wsX12_bracketsRead wsX12_goesOn := goodIn_r _ [7, 8, 9, 10, 11, 1, 12, 13, 14, 15, 6, 16, 17, 18, 19, 44, 45, 46, 47, 48, 49, 50, 51, 52, 53, 54, 55, 56, 57, 58, 59, 60, 61, 62, 63, 64, 65, 66, 67] (by decide +kernel) (by decide +kernel)
set_option maxRecDepth 20000 in
theorem gX12_bracketsRead_X12_goesOn : GoodIn wsX12_bracketsRead (wsV RX12 187 RX12 yX12_goesOn wsX12_goesOn) := goodIn_app (goodIn_of _ (by decide +kernel)) ggX12_bracketsRead_X12_goesOn
set_option maxRecDepth 20000 in
theorem ggX12_bracketsRead_X12_has : GoodIn wsX12_bracketsRead wsX12_has := goodIn_r _ [33] (by decide +kernel) (by decide +kernel)
set_option maxRecDepth 20000 in
theorem gX12_bracketsRead_X12_has : GoodIn wsX12_bracketsRead (va_wsS RX12 59 yX12_has wsX12_has) := goodIn_app (goodIn_of _ (by decide +kernel)) ggX12_bracketsRead_X12_has
set_option maxRecDepth 20000 in
theorem ggX12_bracketsRead_X12_joins : GoodIn wsX12_bracketsRead wsX12_joins := goodIn_r _ [37, 38, 39, 31, 32, 6, 33, 40, 41, 42, 43, 44, 45, 46, 47, 48, 49, 50, 51, 52, 53, 54, 55, 56, 57, 58, 59, 60, 61, 62, 63, 64, 65, 66, 67] (by decide +kernel) (by decide +kernel)
set_option maxRecDepth 20000 in
theorem gX12_bracketsRead_X12_joins : GoodIn wsX12_bracketsRead (wsV RX12 193 RX12 yX12_joins wsX12_joins) := goodIn_app (goodIn_of _ (by decide +kernel)) ggX12_bracketsRead_X12_joins
set_option maxRecDepth 20000 in
theorem ggX12_bracketsRead_X12_pointRead : GoodIn wsX12_bracketsRead wsX12_pointRead := goodIn_r _ [26, 1, 10, 27, 28, 29, 6, 30, 2, 17, 18, 19, 31, 32, 33, 3, 4, 5, 7, 8, 9, 11, 12, 13, 14, 15, 16, 44, 45, 46, 47, 48, 49, 50, 51, 52, 53, 54, 55, 56, 57, 58, 59, 60, 61, 62, 63, 64, 65, 66, 67] (by decide +kernel) (by decide +kernel)
set_option maxRecDepth 20000 in
theorem gX12_bracketsRead_X12_pointRead : GoodIn wsX12_bracketsRead (wsV RX12 190 RX12 yX12_pointRead wsX12_pointRead) := goodIn_app (goodIn_of _ (by decide +kernel)) ggX12_bracketsRead_X12_pointRead
theorem dX12_bracketsRead_0 : decode cX12_bracketsRead 0 = .ok (.iload_n 1, 1) := by decide +kernel
theorem dX12_bracketsRead_1 : decode cX12_bracketsRead 1 = .ok (.ifCond .eq 8, 3) := by decide +kernel
theorem dX12_bracketsRead_101 : decode cX12_bracketsRead 101 = .ok (.ifCond .eq 11, 3) := by decide +kernel
theorem dX12_bracketsRead_104 : decode cX12_bracketsRead 104 = .ok (.aload_n 0, 1) := by decide +kernel
theorem dX12_bracketsRead_105 : decode cX12_bracketsRead 105 = .ok (.iload 7, 2) := by decide +kernel
theorem dX12_bracketsRead_107 : decode cX12_bracketsRead 107 = .ok (.iload 8, 2) := by decide +kernel
theorem dX12_bracketsRead_109 : decode cX12_bracketsRead 109 = .ok (.invokevirtual 193, 3) := by decide +kernel
theorem dX12_bracketsRead_11 : decode cX12_bracketsRead 11 = .ok (.istore_n 2, 1) := by decide +kernel
theorem dX12_bracketsRead_112 : decode cX12_bracketsRead 112 = .ok (.iinc 8 1, 3) := by decide +kernel
theorem dX12_bracketsRead_115 : decode cX12_bracketsRead 115 = .ok (.goto (-44), 3) := by decide +kernel
theorem dX12_bracketsRead_118 : decode cX12_bracketsRead 118 = .ok (.iload 6, 2) := by decide +kernel
theorem dX12_bracketsRead_12 : decode cX12_bracketsRead 12 = .ok (.iload_n 1, 1) := by decide +kernel
theorem dX12_bracketsRead_120 : decode cX12_bracketsRead 120 = .ok (.iconst (-1), 1) := by decide +kernel
theorem dX12_bracketsRead_121 : decode cX12_bracketsRead 121 = .ok (.if_icmp .ne 8, 3) := by decide +kernel
theorem dX12_bracketsRead_124 : decode cX12_bracketsRead 124 = .ok (.iload 7, 2) := by decide +kernel
theorem dX12_bracketsRead_126 : decode cX12_bracketsRead 126 = .ok (.goto 5, 3) := by decide +kernel
theorem dX12_bracketsRead_129 : decode cX12_bracketsRead 129 = .ok (.iload 6, 2) := by decide +kernel
theorem dX12_bracketsRead_13 : decode cX12_bracketsRead 13 = .ok (.ifCond .eq 7, 3) := by decide +kernel
theorem dX12_bracketsRead_131 : decode cX12_bracketsRead 131 = .ok (.istore 6, 2) := by decide +kernel
theorem dX12_bracketsRead_133 : decode cX12_bracketsRead 133 = .ok (.iload 4, 2) := by decide +kernel
theorem dX12_bracketsRead_135 : decode cX12_bracketsRead 135 = .ok (.iconst 1, 1) := by decide +kernel
theorem dX12_bracketsRead_136 : decode cX12_bracketsRead 136 = .ok (.iload 7, 2) := by decide +kernel
theorem dX12_bracketsRead_138 : decode cX12_bracketsRead 138 = .ok (.ishl, 1) := by decide +kernel
theorem dX12_bracketsRead_139 : decode cX12_bracketsRead 139 = .ok (.ior, 1) := by decide +kernel
theorem dX12_bracketsRead_140 : decode cX12_bracketsRead 140 = .ok (.istore 4, 2) := by decide +kernel
theorem dX12_bracketsRead_142 : decode cX12_bracketsRead 142 = .ok (.iload 7, 2) := by decide +kernel
theorem dX12_bracketsRead_144 : decode cX12_bracketsRead 144 = .ok (.istore 5, 2) := by decide +kernel
theorem dX12_bracketsRead_146 : decode cX12_bracketsRead 146 = .ok (.goto (-111), 3) := by decide +kernel
theorem dX12_bracketsRead_149 : decode cX12_bracketsRead 149 = .ok (.iload_n 1, 1) := by decide +kernel
theorem dX12_bracketsRead_150 : decode cX12_bracketsRead 150 = .ok (.ifCond .eq 11, 3) := by decide +kernel
theorem dX12_bracketsRead_153 : decode cX12_bracketsRead 153 = .ok (.aload_n 0, 1) := by decide +kernel
theorem dX12_bracketsRead_154 : decode cX12_bracketsRead 154 = .ok (.iload 5, 2) := by decide +kernel
theorem dX12_bracketsRead_156 : decode cX12_bracketsRead 156 = .ok (.iload 6, 2) := by decide +kernel
theorem dX12_bracketsRead_158 : decode cX12_bracketsRead 158 = .ok (.invokevirtual 193, 3) := by decide +kernel
theorem dX12_bracketsRead_16 : decode cX12_bracketsRead 16 = .ok (.iconst 3, 1) := by decide +kernel
theorem dX12_bracketsRead_161 : decode cX12_bracketsRead 161 = .ok (.aload_n 0, 1) := by decide +kernel
theorem dX12_bracketsRead_162 : decode cX12_bracketsRead 162 = .ok (.invokevirtual 187, 3) := by decide +kernel
theorem dX12_bracketsRead_165 : decode cX12_bracketsRead 165 = .ok (.iconst 1, 1) := by decide +kernel
theorem dX12_bracketsRead_166 : decode cX12_bracketsRead 166 = .ok (.ireturn, 1) := by decide +kernel
theorem dX12_bracketsRead_17 : decode cX12_bracketsRead 17 = .ok (.goto 4, 3) := by decide +kernel
theorem dX12_bracketsRead_20 : decode cX12_bracketsRead 20 = .ok (.iconst 2, 1) := by decide +kernel
theorem dX12_bracketsRead_21 : decode cX12_bracketsRead 21 = .ok (.istore_n 3, 1) := by decide +kernel
theorem dX12_bracketsRead_22 : decode cX12_bracketsRead 22 = .ok (.iconst 0, 1) := by decide +kernel
theorem dX12_bracketsRead_23 : decode cX12_bracketsRead 23 = .ok (.istore 4, 2) := by decide +kernel
theorem dX12_bracketsRead_25 : decode cX12_bracketsRead 25 = .ok (.iconst (-1), 1) := by decide +kernel
theorem dX12_bracketsRead_26 : decode cX12_bracketsRead 26 = .ok (.istore 5, 2) := by decide +kernel
theorem dX12_bracketsRead_28 : decode cX12_bracketsRead 28 = .ok (.iconst (-1), 1) := by decide +kernel
theorem dX12_bracketsRead_29 : decode cX12_bracketsRead 29 = .ok (.istore 6, 2) := by decide +kernel
theorem dX12_bracketsRead_31 : decode cX12_bracketsRead 31 = .ok (.aload_n 0, 1) := by decide +kernel
theorem dX12_bracketsRead_32 : decode cX12_bracketsRead 32 = .ok (.invokevirtual 187, 3) := by decide +kernel
theorem dX12_bracketsRead_35 : decode cX12_bracketsRead 35 = .ok (.iload 4, 2) := by decide +kernel
theorem dX12_bracketsRead_37 : decode cX12_bracketsRead 37 = .ok (.invokestatic 85, 3) := by decide +kernel
theorem dX12_bracketsRead_4 : decode cX12_bracketsRead 4 = .ok (.bipush 41, 2) := by decide +kernel
theorem dX12_bracketsRead_40 : decode cX12_bracketsRead 40 = .ok (.iload_n 3, 1) := by decide +kernel
theorem dX12_bracketsRead_41 : decode cX12_bracketsRead 41 = .ok (.if_icmp .lt 11, 3) := by decide +kernel
theorem dX12_bracketsRead_44 : decode cX12_bracketsRead 44 = .ok (.aload_n 0, 1) := by decide +kernel
theorem dX12_bracketsRead_45 : decode cX12_bracketsRead 45 = .ok (.getfield 181, 3) := by decide +kernel
theorem dX12_bracketsRead_48 : decode cX12_bracketsRead 48 = .ok (.iload_n 2, 1) := by decide +kernel
theorem dX12_bracketsRead_49 : decode cX12_bracketsRead 49 = .ok (.if_icmp .eq 100, 3) := by decide +kernel
theorem dX12_bracketsRead_52 : decode cX12_bracketsRead 52 = .ok (.aload_n 0, 1) := by decide +kernel
theorem dX12_bracketsRead_53 : decode cX12_bracketsRead 53 = .ok (.iload 4, 2) := by decide +kernel
theorem dX12_bracketsRead_55 : decode cX12_bracketsRead 55 = .ok (.invokevirtual 190, 3) := by decide +kernel
theorem dX12_bracketsRead_58 : decode cX12_bracketsRead 58 = .ok (.istore 7, 2) := by decide +kernel
theorem dX12_bracketsRead_6 : decode cX12_bracketsRead 6 = .ok (.goto 5, 3) := by decide +kernel
theorem dX12_bracketsRead_60 : decode cX12_bracketsRead 60 = .ok (.iload 7, 2) := by decide +kernel
theorem dX12_bracketsRead_62 : decode cX12_bracketsRead 62 = .ok (.iconst (-1), 1) := by decide +kernel
theorem dX12_bracketsRead_63 : decode cX12_bracketsRead 63 = .ok (.if_icmp .ne 5, 3) := by decide +kernel
theorem dX12_bracketsRead_66 : decode cX12_bracketsRead 66 = .ok (.iconst 0, 1) := by decide +kernel
theorem dX12_bracketsRead_67 : decode cX12_bracketsRead 67 = .ok (.ireturn, 1) := by decide +kernel
theorem dX12_bracketsRead_68 : decode cX12_bracketsRead 68 = .ok (.iconst 0, 1) := by decide +kernel
theorem dX12_bracketsRead_69 : decode cX12_bracketsRead 69 = .ok (.istore 8, 2) := by decide +kernel
theorem dX12_bracketsRead_71 : decode cX12_bracketsRead 71 = .ok (.iload 8, 2) := by decide +kernel
theorem dX12_bracketsRead_73 : decode cX12_bracketsRead 73 = .ok (.aload_n 0, 1) := by decide +kernel
theorem dX12_bracketsRead_74 : decode cX12_bracketsRead 74 = .ok (.getfield 63, 3) := by decide +kernel
theorem dX12_bracketsRead_77 : decode cX12_bracketsRead 77 = .ok (.if_icmp .ge 41, 3) := by decide +kernel
theorem dX12_bracketsRead_80 : decode cX12_bracketsRead 80 = .ok (.iload_n 1, 1) := by decide +kernel
theorem dX12_bracketsRead_81 : decode cX12_bracketsRead 81 = .ok (.ifCond .eq 13, 3) := by decide +kernel
theorem dX12_bracketsRead_84 : decode cX12_bracketsRead 84 = .ok (.iload 8, 2) := by decide +kernel
theorem dX12_bracketsRead_86 : decode cX12_bracketsRead 86 = .ok (.iload 5, 2) := by decide +kernel
theorem dX12_bracketsRead_88 : decode cX12_bracketsRead 88 = .ok (.if_icmp .ne 24, 3) := by decide +kernel
theorem dX12_bracketsRead_9 : decode cX12_bracketsRead 9 = .ok (.bipush 93, 2) := by decide +kernel
theorem dX12_bracketsRead_91 : decode cX12_bracketsRead 91 = .ok (.goto 13, 3) := by decide +kernel
theorem dX12_bracketsRead_94 : decode cX12_bracketsRead 94 = .ok (.iload 4, 2) := by decide +kernel
theorem dX12_bracketsRead_96 : decode cX12_bracketsRead 96 = .ok (.iload 8, 2) := by decide +kernel
theorem dX12_bracketsRead_98 : decode cX12_bracketsRead 98 = .ok (.invokestatic 59, 3) := by decide +kernel
set_option maxHeartbeats 4000000 in
set_option maxRecDepth 100000 in
theorem w_X12_bracketsRead (l : Launch) (D : va_G) (cI cS : ClassId) (sz : Nat) (b : Nat → Nat) (l_m l_z l_tp l_hs l_to l_tk l_wo : Int32) (l_so l_sz l_kp : Nat → Int32) (v0 : SU) (hL : TyL (mkM l_m l_z l_tp l_hs l_to l_tk l_wo l_so l_sz l_kp)) (hV : TyV v0) (x0 : Int32) (px0 : Rg 0 1 x0) (hto : l_to.toInt ≤ l_tp.toInt) : Met l yX12_bracketsRead wsX12_bracketsRead ({ frames := 4, cells := 0, slots := 0, locals := 160 }) (PQ D cI cS (wM cI b (mkM l_m l_z l_tp l_hs l_to l_tk l_wo l_so l_sz l_kp) v0) sz [.ref (b 0), .int x0]) (QF (S := Int32 × Int32 × Int32 × SU) D (wM cI b (mkM l_m l_z l_tp l_hs l_to l_tk l_wo l_so l_sz l_kp) v0) (fun q => wM cI b (mkM l_m l_z l_tp l_hs q.1 q.2.1 q.2.2.1 l_so l_sz l_kp) q.2.2.2) sz (fun r q => TyV q.2.2.2 ∧ Rg 0 1 r ∧ Rg 0 120 q.1 ∧ (l_to.toInt ≤ q.1.toInt ∧ q.1.toInt ≤ l_tp.toInt ∧ (¬ q.2.1.toInt = 0 → l_to.toInt < q.1.toInt ∨ ¬ l_tk.toInt = 0)))) 0 0 (va_A (wM cI b (mkM l_m l_z l_tp l_hs l_to l_tk l_wo l_so l_sz l_kp) v0) sz) := by
  refine Met.ofW (cc := cX12_bracketsRead) (maxL := 9) (ret := (some .boolean)) (by decide) rfl ?_
  intro p e s m args below meth c s₁ B hml hv
  obtain ⟨rfl, hsz, hP, hKK, hD0⟩ := hv
  have hx := B.exec
  have hb := B.bytes
  have hr := B.returns
  have hts := atoms_spec (ws := wsX12_bracketsRead) B.pre
  have hown : s.vm.findClass RX12 = some m.cls := findClass_of_methodNamed B.named
  have hlocks := B.notSynchronized
  have hK := hKK.1
  have hin12 : ∀ w ∈ wsX120, w ∈ wsX12_bracketsRead := by decide +kernel
  subst hsz
  have hD := hD0.self (sz := s.heap.size)
  obtain ⟨A, hAe⟩ : ∃ A, A = va_A (wM cI b (mkM l_m l_z l_tp l_hs l_to l_tk l_wo l_so l_sz l_kp) v0) s.heap.size := ⟨_, rfl⟩
  rw [← hAe] at hD
  have hA : ∀ q : Nat, s.heap.size ≤ q → A q := fun q h => by rw [hAe]; exact Or.inr h
  have hS : va_S A s.heap s.heap [] := va_S.rf
  have hl := lv_entry ([.ref (b 0), .int x0]) (n := 9) (Nat.le_of_ble_eq_true rfl)
  rw [lg_entry_eq]
  generalize (lg_sl ([.ref (b 0), .int x0]) ++ List.replicate (9 - (lg_sl ([.ref (b 0), .int x0])).length) Slot.unset).toArray = ls at hl ⊢
  have hl : lv_has ls 9 [(0, .ref (b 0)), (1, .int x0)] := hl
  obtain ⟨v, hv9⟩ : ∃ v : SU, v = v0 := ⟨_, rfl⟩
  rw [← hv9] at hP hD hV
  have p_m : Rg 0 12 l_m := hL.1
  have p_tp : Rg 0 120 l_tp := hL.2.1
  have p_so : Ar (-1) 1 l_so := hL.2.2.1
  have p_sz : Ar 0 40 l_sz := hL.2.2.2.1
  have p_kp : Kp l_kp := hL.2.2.2.2.1
  have p_to : Rg 0 120 l_to := hL.2.2.2.2.2
  have lp35 : ∀ (n35 : Nat) (y35_l2 : Int32) (y35_l3 : Int32) (y35_l4 : Int32) (y35_l5 : Int32) (y35_l6 : Int32) (y35_kto : Int32) (y35_ktk : Int32) (y35_kwo : Int32) (v : SU) (H : Heap) (locs : List Loc) (ls : Array Slot), Rg 0 1 x0 → Rg 41 93 y35_l2 → Rg 2 3 y35_l3 → Rg 0 4095 y35_l4 → Rg (-1) 11 y35_l5 → Rg (-1) 11 y35_l6 → Rg 0 120 y35_kto → (l_to.toInt ≤ y35_kto.toInt ∧ y35_kto.toInt ≤ l_tp.toInt ∧ (¬ y35_ktk.toInt = 0 → l_to.toInt < y35_kto.toInt ∨ ¬ l_tk.toInt = 0)) → (y35_l4 = 0 ∨ (Rg 0 11 y35_l5 ∧ Rg 0 11 y35_l6)) → TyV v → va_P D cls (wM cI b (mkM l_m l_z l_tp l_hs y35_kto y35_ktk y35_kwo l_so l_sz l_kp) v) H → va_D A (wM cI b (mkM l_m l_z l_tp l_hs y35_kto y35_ktk y35_kwo l_so l_sz l_kp) v) → va_S A s.heap H locs → lv_has ls 9 [(0, .ref (b 0)), (1, .int x0), (2, .int y35_l2), (3, .int y35_l3), (4, .int y35_l4), (5, .int y35_l5), (6, .int y35_l6)] → (2 * (l_tp.toInt - y35_kto.toInt) + (if y35_ktk.toInt = 0 then 0 else 1)) < (n35 : Int) → W p l e (headSpec wsX12_bracketsRead ({ frames := 4, cells := 0, slots := 0, locals := 160 })).room s m ([.ref (b 0), .int x0]).toArray below meth c H locs 0 0 (MQ below (QF (S := Int32 × Int32 × Int32 × SU) D (wM cI b (mkM l_m l_z l_tp l_hs l_to l_tk l_wo l_so l_sz l_kp) v0) (fun q => wM cI b (mkM l_m l_z l_tp l_hs q.1 q.2.1 q.2.2.1 l_so l_sz l_kp) q.2.2.2) s.heap.size (fun r q => TyV q.2.2.2 ∧ Rg 0 1 r ∧ Rg 0 120 q.1 ∧ (l_to.toInt ≤ q.1.toInt ∧ q.1.toInt ≤ l_tp.toInt ∧ (¬ q.2.1.toInt = 0 → l_to.toInt < q.1.toInt ∨ ¬ l_tk.toInt = 0)))) ([.ref (b 0), .int x0]).toArray s 0 0 (va_A (wM cI b (mkM l_m l_z l_tp l_hs l_to l_tk l_wo l_so l_sz l_kp) v0) s.heap.size)) (F0 m 35 ls []) := by
    intro n35
    induction n35 with
    | zero =>
      intro y35_l2 y35_l3 y35_l4 y35_l5 y35_l6 y35_kto y35_ktk y35_kwo v H locs ls g35_l1 g35_l2 g35_l3 g35_l4 g35_l5 g35_l6 g35_kto x35_0 x35_1 hV hP hD hS hl hm35
      exact False.elim (by have z8 := hm35; have z7 := x35_0; revert z8; split <;> omega)
    | succ n35 ih35 =>
      intro y35_l2 y35_l3 y35_l4 y35_l5 y35_l6 y35_kto y35_ktk y35_kwo v H locs ls g35_l1 g35_l2 g35_l3 g35_l4 g35_l5 g35_l6 g35_kto x35_0 x35_1 hV hP hD hS hl hm35
      have lp71 : ∀ (n71 : Nat) (y71_l7 : Int32) (y71_l8 : Int32) (y71_kto : Int32) (y71_ktk : Int32) (y71_kwo : Int32) (v : SU) (H : Heap) (locs : List Loc) (ls : Array Slot), Rg 0 1 x0 → Rg 41 93 y35_l2 → Rg 2 3 y35_l3 → Rg 0 4095 y35_l4 → Rg (-1) 11 y35_l5 → Rg (-1) 11 y35_l6 → Rg 0 11 y71_l7 → Rg 0 12 y71_l8 → Rg 0 120 y71_kto → (l_to.toInt ≤ y71_kto.toInt ∧ y71_kto.toInt ≤ l_tp.toInt ∧ (¬ y71_ktk.toInt = 0 → l_to.toInt < y71_kto.toInt ∨ ¬ l_tk.toInt = 0)) → TyV v → va_P D cls (wM cI b (mkM l_m l_z l_tp l_hs y71_kto y71_ktk y71_kwo l_so l_sz l_kp) v) H → va_D A (wM cI b (mkM l_m l_z l_tp l_hs y71_kto y71_ktk y71_kwo l_so l_sz l_kp) v) → va_S A s.heap H locs → lv_has ls 9 [(0, .ref (b 0)), (1, .int x0), (2, .int y35_l2), (3, .int y35_l3), (4, .int y35_l4), (5, .int y35_l5), (6, .int y35_l6), (7, .int y71_l7), (8, .int y71_l8)] → 12 - y71_l8.toInt < (n71 : Int) → W p l e (headSpec wsX12_bracketsRead ({ frames := 4, cells := 0, slots := 0, locals := 160 })).room s m ([.ref (b 0), .int x0]).toArray below meth c H locs 0 0 (MQ below (QF (S := Int32 × Int32 × Int32 × SU) D (wM cI b (mkM l_m l_z l_tp l_hs l_to l_tk l_wo l_so l_sz l_kp) v0) (fun q => wM cI b (mkM l_m l_z l_tp l_hs q.1 q.2.1 q.2.2.1 l_so l_sz l_kp) q.2.2.2) s.heap.size (fun r q => TyV q.2.2.2 ∧ Rg 0 1 r ∧ Rg 0 120 q.1 ∧ (l_to.toInt ≤ q.1.toInt ∧ q.1.toInt ≤ l_tp.toInt ∧ (¬ q.2.1.toInt = 0 → l_to.toInt < q.1.toInt ∨ ¬ l_tk.toInt = 0)))) ([.ref (b 0), .int x0]).toArray s 0 0 (va_A (wM cI b (mkM l_m l_z l_tp l_hs l_to l_tk l_wo l_so l_sz l_kp) v0) s.heap.size)) (F0 m 71 ls []) := by
        intro n71
        induction n71 with
        | zero =>
          intro y71_l7 y71_l8 y71_kto y71_ktk y71_kwo v H locs ls g71_l1 g71_l2 g71_l3 g71_l4 g71_l5 g71_l6 g71_l7 g71_l8 g71_kto x71_0 hV hP hD hS hl hm71
          exact absurd rfl (me_z g71_l8 hm71)
        | succ n71 ih71 =>
          intro y71_l7 y71_l8 y71_kto y71_ktk y71_kwo v H locs ls g71_l1 g71_l2 g71_l3 g71_l4 g71_l5 g71_l6 g71_l7 g71_l8 g71_kto x71_0 hV hP hD hS hl hm71
          refine lv_iload hx hb dX12_bracketsRead_71 (lv_at hl 8 rfl) ?_
          refine lv_aload_n hx hb dX12_bracketsRead_73 rfl (lv_at hl 0 rfl) ?_
          refine va_get (D := D) (ci := 12) (v := .int l_m) (C := RX12) (T := TX12) (N := 24) hx hb hts hin12 hown hK hP 0 rfl rfl 0 (by decide) (hts (.fieldLink RX12 63 "MissedPointsModel" "many" "I") (by decide +kernel)) (fun _ h9 => h9) rfl dX12_bracketsRead_74 ?_
          refine lv_icmp_ge (tgt := 118) hx hb dX12_bracketsRead_77 (by decide) (fun c24669 => ?_) (fun c24669 => ?_)
          · refine lv_iload hx hb dX12_bracketsRead_118 (lv_at hl 6 rfl) ?_
            refine lv_iconst (v := (-1)) hx hb dX12_bracketsRead_120 (by decide) ?_
            refine lv_icmp_ne (tgt := 129) hx hb dX12_bracketsRead_121 (by decide) (fun c24670 => ?_) (fun c24670 => ?_)
            · have g24671 : Rg 0 11 y35_l6 := rg_ne_lo (k := (-1)) g71_l6 (by decide) c24670 (by decide)
              refine lv_iload hx hb dX12_bracketsRead_129 (lv_at hl 6 rfl) ?_
              refine lv_istore (lv' := [(6, .int y35_l6), (0, .ref (b 0)), (1, .int x0), (2, .int y35_l2), (3, .int y35_l3), (4, .int y35_l4), (5, .int y35_l5), (7, .int y71_l7), (8, .int y71_l8)]) hx hb dX12_bracketsRead_131 hl (by decide) rfl (fun ls hl => ?_)
              refine lv_iload hx hb dX12_bracketsRead_133 (lv_at hl 5 rfl) ?_
              refine lv_iconst (v := 1) hx hb dX12_bracketsRead_135 (by decide) ?_
              refine lv_iload hx hb dX12_bracketsRead_136 (lv_at hl 7 rfl) ?_
              refine wk_ishl1 (f := 2048) hx hb dX12_bracketsRead_138 g71_l7 (by decide) (fun r24672 hr24672 qr24672 => ?_)
              refine wk_ior 12 (e1 := 1) (f := 4095) hx hb dX12_bracketsRead_139 g71_l4 hr24672 (by decide) (fun r24673 hr24673 qr24673 => ?_)
              refine lv_istore (lv' := [(4, .int r24673), (6, .int y35_l6), (0, .ref (b 0)), (1, .int x0), (2, .int y35_l2), (3, .int y35_l3), (5, .int y35_l5), (7, .int y71_l7), (8, .int y71_l8)]) hx hb dX12_bracketsRead_140 hl (by decide) rfl (fun ls hl => ?_)
              refine lv_iload hx hb dX12_bracketsRead_142 (lv_at hl 7 rfl) ?_
              refine lv_istore (lv' := [(5, .int y71_l7), (4, .int r24673), (6, .int y35_l6), (0, .ref (b 0)), (1, .int x0), (2, .int y35_l2), (3, .int y35_l3), (7, .int y71_l7), (8, .int y71_l8)]) hx hb dX12_bracketsRead_144 hl (by decide) rfl (fun ls hl => ?_)
              refine lv_goto (tgt := 35) hx hb dX12_bracketsRead_146 (by decide) ?_
              exact ih35 y35_l2 y35_l3 r24673 y71_l7 y35_l6 y71_kto y71_ktk y71_kwo v _ _ ls g71_l1 g71_l2 g71_l3 (show Rg 0 4095 r24673 from rg_w hr24673 (by decide) (by decide)) (show Rg (-1) 11 y71_l7 from rg_w g71_l7 (by decide) (by decide)) (show Rg (-1) 11 y35_l6 from rg_w g24671 (by decide) (by decide)) g71_kto (show (l_to.toInt ≤ y71_kto.toInt ∧ y71_kto.toInt ≤ l_tp.toInt ∧ (¬ y71_ktk.toInt = 0 → l_to.toInt < y71_kto.toInt ∨ ¬ l_tk.toInt = 0)) from by have y90 : l_m.toInt ≤ y71_l8.toInt := (lz_le _ _).mp c24669; have y91 : ¬ y35_l6.toInt = ((-1) : Int32).toInt := fun z => c24670 (Int32.toInt_inj.mp z); have y92 : Rg 0 11 y35_l6 := g24671; have y93 : Rg 0 1 x0 := g71_l1; have y94 : Rg 41 93 y35_l2 := g71_l2; have y95 : Rg 2 3 y35_l3 := g71_l3; have y96 : Rg 1 4095 r24673 := hr24673; have y97 : Rg 0 11 y71_l7 := g71_l7; have y98 : Rg 0 11 y35_l6 := g24671; have y99 : Rg 0 11 y71_l7 := g71_l7; have y910 : Rg 0 12 y71_l8 := g71_l8; have y911 : Rg 0 12 l_m := p_m; have y912 : Rg 0 120 l_tp := p_tp; have y913 : Rg 0 120 y71_kto := g71_kto; have y9c14 : ((-1) : Int32).toInt = -1 := (by decide); have y9c15 : (0 : Int32).toInt = 0 := (by decide); have y9c16 : (1 : Int32).toInt = 1 := (by decide); omega) (by exact Or.inr ⟨g71_l7, g24671⟩) hV hP hD hS (lv_sub (l' := [(0, .ref (b 0)), (1, .int x0), (2, .int y35_l2), (3, .int y35_l3), (4, .int r24673), (5, .int y71_l7), (6, .int y35_l6)]) hl [3, 4, 5, 6, 1, 0, 2] rfl) (show (2 * (l_tp.toInt - y71_kto.toInt) + (if y71_ktk.toInt = 0 then 0 else 1)) < _ from by have z8 := hm35; have y90 : l_m.toInt ≤ y71_l8.toInt := (lz_le _ _).mp c24669; have y91 : ¬ y35_l6.toInt = ((-1) : Int32).toInt := fun z => c24670 (Int32.toInt_inj.mp z); have y92 : Rg 0 11 y35_l6 := g24671; have y93 : Rg 0 1 x0 := g71_l1; have y94 : Rg 41 93 y35_l2 := g71_l2; have y95 : Rg 2 3 y35_l3 := g71_l3; have y96 : Rg 1 4095 r24673 := hr24673; have y97 : Rg 0 11 y71_l7 := g71_l7; have y98 : Rg 0 11 y35_l6 := g24671; have y99 : Rg 0 11 y71_l7 := g71_l7; have y910 : Rg 0 12 y71_l8 := g71_l8; have y911 : Rg 0 12 l_m := p_m; have y912 : Rg 0 120 l_tp := p_tp; have y913 : Rg 0 120 y71_kto := g71_kto; have y9c14 : ((-1) : Int32).toInt = -1 := (by decide); have y9c15 : (0 : Int32).toInt = 0 := (by decide); have y9c16 : (1 : Int32).toInt = 1 := (by decide); revert z8; split <;> split <;> omega)
            · have g24674 : Rg (-1) (-1) y35_l6 := wk_eql g71_l6 (by decide : Rg (-1) (-1) ((-1) : Int32)) c24670 (by decide)
              refine lv_iload hx hb dX12_bracketsRead_124 (lv_at hl 7 rfl) ?_
              refine lv_goto (tgt := 131) hx hb dX12_bracketsRead_126 (by decide) ?_
              refine lv_istore (lv' := [(6, .int y71_l7), (0, .ref (b 0)), (1, .int x0), (2, .int y35_l2), (3, .int y35_l3), (4, .int y35_l4), (5, .int y35_l5), (7, .int y71_l7), (8, .int y71_l8)]) hx hb dX12_bracketsRead_131 hl (by decide) rfl (fun ls hl => ?_)
              refine lv_iload hx hb dX12_bracketsRead_133 (lv_at hl 5 rfl) ?_
              refine lv_iconst (v := 1) hx hb dX12_bracketsRead_135 (by decide) ?_
              refine lv_iload hx hb dX12_bracketsRead_136 (lv_at hl 7 rfl) ?_
              refine wk_ishl1 (f := 2048) hx hb dX12_bracketsRead_138 g71_l7 (by decide) (fun r24675 hr24675 qr24675 => ?_)
              refine wk_ior 12 (e1 := 1) (f := 4095) hx hb dX12_bracketsRead_139 g71_l4 hr24675 (by decide) (fun r24676 hr24676 qr24676 => ?_)
              refine lv_istore (lv' := [(4, .int r24676), (6, .int y71_l7), (0, .ref (b 0)), (1, .int x0), (2, .int y35_l2), (3, .int y35_l3), (5, .int y35_l5), (7, .int y71_l7), (8, .int y71_l8)]) hx hb dX12_bracketsRead_140 hl (by decide) rfl (fun ls hl => ?_)
              refine lv_iload hx hb dX12_bracketsRead_142 (lv_at hl 7 rfl) ?_
              refine lv_istore (lv' := [(5, .int y71_l7), (4, .int r24676), (6, .int y71_l7), (0, .ref (b 0)), (1, .int x0), (2, .int y35_l2), (3, .int y35_l3), (7, .int y71_l7), (8, .int y71_l8)]) hx hb dX12_bracketsRead_144 hl (by decide) rfl (fun ls hl => ?_)
              refine lv_goto (tgt := 35) hx hb dX12_bracketsRead_146 (by decide) ?_
              exact ih35 y35_l2 y35_l3 r24676 y71_l7 y71_l7 y71_kto y71_ktk y71_kwo v _ _ ls g71_l1 g71_l2 g71_l3 (show Rg 0 4095 r24676 from rg_w hr24676 (by decide) (by decide)) (show Rg (-1) 11 y71_l7 from rg_w g71_l7 (by decide) (by decide)) (show Rg (-1) 11 y71_l7 from rg_w g71_l7 (by decide) (by decide)) g71_kto (show (l_to.toInt ≤ y71_kto.toInt ∧ y71_kto.toInt ≤ l_tp.toInt ∧ (¬ y71_ktk.toInt = 0 → l_to.toInt < y71_kto.toInt ∨ ¬ l_tk.toInt = 0)) from by have y90 : l_m.toInt ≤ y71_l8.toInt := (lz_le _ _).mp c24669; have y91 : y35_l6.toInt = ((-1) : Int32).toInt := congrArg Int32.toInt c24670; have y92 : Rg (-1) (-1) y35_l6 := g24674; have y93 : Rg 0 1 x0 := g71_l1; have y94 : Rg 41 93 y35_l2 := g71_l2; have y95 : Rg 2 3 y35_l3 := g71_l3; have y96 : Rg 1 4095 r24676 := hr24676; have y97 : Rg 0 11 y71_l7 := g71_l7; have y98 : Rg 0 11 y71_l7 := g71_l7; have y99 : Rg 0 11 y71_l7 := g71_l7; have y910 : Rg 0 12 y71_l8 := g71_l8; have y911 : Rg 0 12 l_m := p_m; have y912 : Rg 0 120 l_tp := p_tp; have y913 : Rg 0 120 y71_kto := g71_kto; have y9c14 : ((-1) : Int32).toInt = -1 := (by decide); have y9c15 : (0 : Int32).toInt = 0 := (by decide); have y9c16 : (1 : Int32).toInt = 1 := (by decide); omega) (by exact Or.inr ⟨g71_l7, g71_l7⟩) hV hP hD hS (lv_sub (l' := [(0, .ref (b 0)), (1, .int x0), (2, .int y35_l2), (3, .int y35_l3), (4, .int r24676), (5, .int y71_l7), (6, .int y71_l7)]) hl [3, 4, 5, 6, 1, 0, 2] rfl) (show (2 * (l_tp.toInt - y71_kto.toInt) + (if y71_ktk.toInt = 0 then 0 else 1)) < _ from by have z8 := hm35; have y90 : l_m.toInt ≤ y71_l8.toInt := (lz_le _ _).mp c24669; have y91 : y35_l6.toInt = ((-1) : Int32).toInt := congrArg Int32.toInt c24670; have y92 : Rg (-1) (-1) y35_l6 := g24674; have y93 : Rg 0 1 x0 := g71_l1; have y94 : Rg 41 93 y35_l2 := g71_l2; have y95 : Rg 2 3 y35_l3 := g71_l3; have y96 : Rg 1 4095 r24676 := hr24676; have y97 : Rg 0 11 y71_l7 := g71_l7; have y98 : Rg 0 11 y71_l7 := g71_l7; have y99 : Rg 0 11 y71_l7 := g71_l7; have y910 : Rg 0 12 y71_l8 := g71_l8; have y911 : Rg 0 12 l_m := p_m; have y912 : Rg 0 120 l_tp := p_tp; have y913 : Rg 0 120 y71_kto := g71_kto; have y9c14 : ((-1) : Int32).toInt = -1 := (by decide); have y9c15 : (0 : Int32).toInt = 0 := (by decide); have y9c16 : (1 : Int32).toInt = 1 := (by decide); revert z8; split <;> split <;> omega)
          · have g24677 : Rg 1 12 l_m := rg_ltr g71_l8 p_m (rg_nle c24669) (by decide)
            have g24678 : Rg 0 11 y71_l8 := rg_ltl g71_l8 p_m (rg_nle c24669) (by decide)
            refine lv_iload_n hx hb dX12_bracketsRead_80 rfl (lv_at hl 1 rfl) ?_
            refine lv_if_eq (tgt := 94) hx hb dX12_bracketsRead_81 (by decide) (fun c24679 => ?_) (fun c24679 => ?_)
            · have g24680 : Rg 0 0 x0 := wk_eql g71_l1 (by decide : Rg 0 0 (0 : Int32)) c24679 (by decide)
              refine lv_iload hx hb dX12_bracketsRead_94 (lv_at hl 4 rfl) ?_
              refine lv_iload hx hb dX12_bracketsRead_96 (lv_at hl 8 rfl) ?_
              refine lz_ss (As := [.int y35_l4, .int y71_l8]) (rest := []) ⟨hx, hb, hml, hown, hts⟩ (w_X12_has l D cI cS y35_l4 y71_l8) hKK (hP.sub (ws' := []) [] rfl) (va_cwS 2 hts gX12_bracketsRead_X12_has rfl rfl rfl (by decide +kernel) ⟨Nat.le_of_ble_eq_true rfl, Nat.le_of_ble_eq_true rfl⟩) rfl hl.1 rfl (Nat.le_of_ble_eq_true rfl) dX12_bracketsRead_98 ⟨Nat.le_of_ble_eq_true rfl, Nat.le_of_ble_eq_true rfl⟩ (fun r24681 hr24681 => ?_)
              refine lv_if_eq (tgt := 112) hx hb dX12_bracketsRead_101 (by decide) (fun c24682 => ?_) (fun c24682 => ?_)
              · have g24683 : Rg 0 0 r24681 := wk_eql hr24681.1 (by decide : Rg 0 0 (0 : Int32)) c24682 (by decide)
                refine wk_iinc (lv' := fun r => [(8, .int r), (0, .ref (b 0)), (1, .int x0), (2, .int y35_l2), (3, .int y35_l3), (4, .int y35_l4), (5, .int y35_l5), (6, .int y35_l6), (7, .int y71_l7)]) (e1 := 1) (f := 12) hx hb dX12_bracketsRead_112 hl (k := 8) rfl (by decide) g24678 (by decide) (fun _ => rfl) (fun r24684 ls hr24684 er24684 hl => ?_)
                refine lv_goto (tgt := 71) hx hb dX12_bracketsRead_115 (by decide) ?_
                exact ih71 y71_l7 r24684 y71_kto y71_ktk y71_kwo v _ _ ls (show Rg 0 1 x0 from rg_w g24680 (by decide) (by decide)) g71_l2 g71_l3 g71_l4 g71_l5 g71_l6 g71_l7 (show Rg 0 12 r24684 from rg_w hr24684 (by decide) (by decide)) g71_kto (show (l_to.toInt ≤ y71_kto.toInt ∧ y71_kto.toInt ≤ l_tp.toInt ∧ (¬ y71_ktk.toInt = 0 → l_to.toInt < y71_kto.toInt ∨ ¬ l_tk.toInt = 0)) from by have y90 : y71_l8.toInt < l_m.toInt := (lz_lt _ _).mp (rg_nle c24669); have y91 : x0.toInt = (0 : Int32).toInt := congrArg Int32.toInt c24679; have y92 : r24681.toInt = (0 : Int32).toInt := congrArg Int32.toInt c24682; have y93 : Rg 1 12 l_m := g24677; have y94 : Rg 0 11 y71_l8 := g24678; have y95 : Rg 0 0 x0 := g24680; have y96 : Rg 0 0 r24681 := g24683; have y97 : Rg 0 0 x0 := g24680; have y98 : Rg 41 93 y35_l2 := g71_l2; have y99 : Rg 2 3 y35_l3 := g71_l3; have y910 : Rg 0 4095 y35_l4 := g71_l4; have y911 : Rg (-1) 11 y35_l5 := g71_l5; have y912 : Rg (-1) 11 y35_l6 := g71_l6; have y913 : Rg 0 11 y71_l7 := g71_l7; have y914 : Rg 1 12 r24684 := hr24684; have y915 : Rg 1 12 l_m := g24677; have y916 : Rg 0 120 l_tp := p_tp; have y917 : Rg 0 120 y71_kto := g71_kto; have y9c18 : (0 : Int32).toInt = 0 := (by decide); have y9c19 : (1 : Int32).toInt = 1 := (by decide); omega) hV hP hD hS (lv_sub (l' := [(0, .ref (b 0)), (1, .int x0), (2, .int y35_l2), (3, .int y35_l3), (4, .int y35_l4), (5, .int y35_l5), (6, .int y35_l6), (7, .int y71_l7), (8, .int r24684)]) hl [1, 2, 3, 4, 5, 6, 7, 8, 0] rfl) (me_up hm71 er24684 (by decide))
              · have g24685 : Rg 1 1 r24681 := rg_ne_lo (k := 0) hr24681.1 (by decide) c24682 (by decide)
                refine lv_aload_n hx hb dX12_bracketsRead_104 rfl (lv_at hl 0 rfl) ?_
                refine lv_iload hx hb dX12_bracketsRead_105 (lv_at hl 7 rfl) ?_
                refine lv_iload hx hb dX12_bracketsRead_107 (lv_at hl 8 rfl) ?_
                refine wk_qv (wM cI b (mkM l_m l_z l_tp l_hs y71_kto y71_ktk y71_kwo l_so l_sz l_kp)) v (As := [.int y71_l7, .int y71_l8]) (rest := []) ⟨hx, hb, hml, hown, hts⟩ (w_X12_joins l D cI cS _ b (mkM l_m l_z l_tp l_hs y71_kto y71_ktk y71_kwo l_so l_sz l_kp) v (show TyL (mkM l_m l_z l_tp l_hs y71_kto y71_ktk y71_kwo l_so l_sz l_kp) from ⟨(show Rg 0 12 l_m from rg_w g24677 (by decide) (by decide)), p_tp, p_so, p_sz, p_kp, g71_kto⟩) hV y71_l7 y71_l8 g71_l7 g24678) hKK hP hD hS hA 0 (ci := 12) rfl rfl (cwV 2 hts gX12_bracketsRead_X12_joins rfl rfl rfl (by decide +kernel) ⟨Nat.le_of_ble_eq_true rfl, Nat.le_of_ble_eq_true rfl⟩) rfl hl.1 rfl (Nat.le_of_ble_eq_true rfl) dX12_bracketsRead_109 ⟨Nat.le_of_ble_eq_true rfl, Nat.le_of_ble_eq_true rfl⟩ (fun v H locs hr24686 hP hD hS => ?_)
                have hV := hr24686.1
                refine wk_iinc (lv' := fun r => [(8, .int r), (0, .ref (b 0)), (1, .int x0), (2, .int y35_l2), (3, .int y35_l3), (4, .int y35_l4), (5, .int y35_l5), (6, .int y35_l6), (7, .int y71_l7)]) (e1 := 1) (f := 12) hx hb dX12_bracketsRead_112 hl (k := 8) rfl (by decide) g24678 (by decide) (fun _ => rfl) (fun r24687 ls hr24687 er24687 hl => ?_)
                refine lv_goto (tgt := 71) hx hb dX12_bracketsRead_115 (by decide) ?_
                exact ih71 y71_l7 r24687 y71_kto y71_ktk y71_kwo v _ _ ls (show Rg 0 1 x0 from rg_w g24680 (by decide) (by decide)) g71_l2 g71_l3 g71_l4 g71_l5 g71_l6 g71_l7 (show Rg 0 12 r24687 from rg_w hr24687 (by decide) (by decide)) g71_kto (show (l_to.toInt ≤ y71_kto.toInt ∧ y71_kto.toInt ≤ l_tp.toInt ∧ (¬ y71_ktk.toInt = 0 → l_to.toInt < y71_kto.toInt ∨ ¬ l_tk.toInt = 0)) from by have y90 : y71_l8.toInt < l_m.toInt := (lz_lt _ _).mp (rg_nle c24669); have y91 : x0.toInt = (0 : Int32).toInt := congrArg Int32.toInt c24679; have y92 : ¬ r24681.toInt = (0 : Int32).toInt := fun z => c24682 (Int32.toInt_inj.mp z); have y93 : Rg 1 12 l_m := g24677; have y94 : Rg 0 11 y71_l8 := g24678; have y95 : Rg 0 0 x0 := g24680; have y96 : Rg 1 1 r24681 := g24685; have y97 : Rg 0 0 x0 := g24680; have y98 : Rg 41 93 y35_l2 := g71_l2; have y99 : Rg 2 3 y35_l3 := g71_l3; have y910 : Rg 0 4095 y35_l4 := g71_l4; have y911 : Rg (-1) 11 y35_l5 := g71_l5; have y912 : Rg (-1) 11 y35_l6 := g71_l6; have y913 : Rg 0 11 y71_l7 := g71_l7; have y914 : Rg 1 12 r24687 := hr24687; have y915 : Rg 1 12 l_m := g24677; have y916 : Rg 0 120 l_tp := p_tp; have y917 : Rg 0 120 y71_kto := g71_kto; have y9c18 : (0 : Int32).toInt = 0 := (by decide); have y9c19 : (1 : Int32).toInt = 1 := (by decide); omega) hV hP hD hS (lv_sub (l' := [(0, .ref (b 0)), (1, .int x0), (2, .int y35_l2), (3, .int y35_l3), (4, .int y35_l4), (5, .int y35_l5), (6, .int y35_l6), (7, .int y71_l7), (8, .int r24687)]) hl [1, 2, 3, 4, 5, 6, 7, 8, 0] rfl) (me_up hm71 er24687 (by decide))
            · have g24688 : Rg 1 1 x0 := rg_ne_lo (k := 0) g71_l1 (by decide) c24679 (by decide)
              refine lv_iload hx hb dX12_bracketsRead_84 (lv_at hl 8 rfl) ?_
              refine lv_iload hx hb dX12_bracketsRead_86 (lv_at hl 5 rfl) ?_
              refine lv_icmp_ne (tgt := 112) hx hb dX12_bracketsRead_88 (by decide) (fun c24689 => ?_) (fun c24689 => ?_)
              · refine wk_iinc (lv' := fun r => [(8, .int r), (0, .ref (b 0)), (1, .int x0), (2, .int y35_l2), (3, .int y35_l3), (4, .int y35_l4), (5, .int y35_l5), (6, .int y35_l6), (7, .int y71_l7)]) (e1 := 1) (f := 12) hx hb dX12_bracketsRead_112 hl (k := 8) rfl (by decide) g24678 (by decide) (fun _ => rfl) (fun r24690 ls hr24690 er24690 hl => ?_)
                refine lv_goto (tgt := 71) hx hb dX12_bracketsRead_115 (by decide) ?_
                exact ih71 y71_l7 r24690 y71_kto y71_ktk y71_kwo v _ _ ls (show Rg 0 1 x0 from rg_w g24688 (by decide) (by decide)) g71_l2 g71_l3 g71_l4 g71_l5 g71_l6 g71_l7 (show Rg 0 12 r24690 from rg_w hr24690 (by decide) (by decide)) g71_kto (show (l_to.toInt ≤ y71_kto.toInt ∧ y71_kto.toInt ≤ l_tp.toInt ∧ (¬ y71_ktk.toInt = 0 → l_to.toInt < y71_kto.toInt ∨ ¬ l_tk.toInt = 0)) from by have y90 : y71_l8.toInt < l_m.toInt := (lz_lt _ _).mp (rg_nle c24669); have y91 : ¬ x0.toInt = (0 : Int32).toInt := fun z => c24679 (Int32.toInt_inj.mp z); have y92 : ¬ y71_l8.toInt = y35_l5.toInt := fun z => c24689 (Int32.toInt_inj.mp z); have y93 : Rg 1 12 l_m := g24677; have y94 : Rg 0 11 y71_l8 := g24678; have y95 : Rg 1 1 x0 := g24688; have y96 : Rg 1 1 x0 := g24688; have y97 : Rg 41 93 y35_l2 := g71_l2; have y98 : Rg 2 3 y35_l3 := g71_l3; have y99 : Rg 0 4095 y35_l4 := g71_l4; have y910 : Rg (-1) 11 y35_l5 := g71_l5; have y911 : Rg (-1) 11 y35_l6 := g71_l6; have y912 : Rg 0 11 y71_l7 := g71_l7; have y913 : Rg 1 12 r24690 := hr24690; have y914 : Rg 1 12 l_m := g24677; have y915 : Rg 0 120 l_tp := p_tp; have y916 : Rg 0 120 y71_kto := g71_kto; have y9c17 : (0 : Int32).toInt = 0 := (by decide); have y9c18 : (1 : Int32).toInt = 1 := (by decide); omega) hV hP hD hS (lv_sub (l' := [(0, .ref (b 0)), (1, .int x0), (2, .int y35_l2), (3, .int y35_l3), (4, .int y35_l4), (5, .int y35_l5), (6, .int y35_l6), (7, .int y71_l7), (8, .int r24690)]) hl [1, 2, 3, 4, 5, 6, 7, 8, 0] rfl) (me_up hm71 er24690 (by decide))
              · have g24691 : Rg 0 11 y35_l5 := wk_eqr g24678 g71_l5 c24689 (by decide)
                refine lv_goto (tgt := 104) hx hb dX12_bracketsRead_91 (by decide) ?_
                refine lv_aload_n hx hb dX12_bracketsRead_104 rfl (lv_at hl 0 rfl) ?_
                refine lv_iload hx hb dX12_bracketsRead_105 (lv_at hl 7 rfl) ?_
                refine lv_iload hx hb dX12_bracketsRead_107 (lv_at hl 8 rfl) ?_
                refine wk_qv (wM cI b (mkM l_m l_z l_tp l_hs y71_kto y71_ktk y71_kwo l_so l_sz l_kp)) v (As := [.int y71_l7, .int y71_l8]) (rest := []) ⟨hx, hb, hml, hown, hts⟩ (w_X12_joins l D cI cS _ b (mkM l_m l_z l_tp l_hs y71_kto y71_ktk y71_kwo l_so l_sz l_kp) v (show TyL (mkM l_m l_z l_tp l_hs y71_kto y71_ktk y71_kwo l_so l_sz l_kp) from ⟨(show Rg 0 12 l_m from rg_w g24677 (by decide) (by decide)), p_tp, p_so, p_sz, p_kp, g71_kto⟩) hV y71_l7 y71_l8 g71_l7 g24678) hKK hP hD hS hA 0 (ci := 12) rfl rfl (cwV 2 hts gX12_bracketsRead_X12_joins rfl rfl rfl (by decide +kernel) ⟨Nat.le_of_ble_eq_true rfl, Nat.le_of_ble_eq_true rfl⟩) rfl hl.1 rfl (Nat.le_of_ble_eq_true rfl) dX12_bracketsRead_109 ⟨Nat.le_of_ble_eq_true rfl, Nat.le_of_ble_eq_true rfl⟩ (fun v H locs hr24692 hP hD hS => ?_)
                have hV := hr24692.1
                refine wk_iinc (lv' := fun r => [(8, .int r), (0, .ref (b 0)), (1, .int x0), (2, .int y35_l2), (3, .int y35_l3), (4, .int y35_l4), (5, .int y35_l5), (6, .int y35_l6), (7, .int y71_l7)]) (e1 := 1) (f := 12) hx hb dX12_bracketsRead_112 hl (k := 8) rfl (by decide) g24678 (by decide) (fun _ => rfl) (fun r24693 ls hr24693 er24693 hl => ?_)
                refine lv_goto (tgt := 71) hx hb dX12_bracketsRead_115 (by decide) ?_
                exact ih71 y71_l7 r24693 y71_kto y71_ktk y71_kwo v _ _ ls (show Rg 0 1 x0 from rg_w g24688 (by decide) (by decide)) g71_l2 g71_l3 g71_l4 (show Rg (-1) 11 y35_l5 from rg_w g24691 (by decide) (by decide)) g71_l6 g71_l7 (show Rg 0 12 r24693 from rg_w hr24693 (by decide) (by decide)) g71_kto (show (l_to.toInt ≤ y71_kto.toInt ∧ y71_kto.toInt ≤ l_tp.toInt ∧ (¬ y71_ktk.toInt = 0 → l_to.toInt < y71_kto.toInt ∨ ¬ l_tk.toInt = 0)) from by have y90 : y71_l8.toInt < l_m.toInt := (lz_lt _ _).mp (rg_nle c24669); have y91 : ¬ x0.toInt = (0 : Int32).toInt := fun z => c24679 (Int32.toInt_inj.mp z); have y92 : y71_l8.toInt = y35_l5.toInt := congrArg Int32.toInt c24689; have y93 : Rg 1 12 l_m := g24677; have y94 : Rg 0 11 y71_l8 := g24678; have y95 : Rg 1 1 x0 := g24688; have y96 : Rg 0 11 y35_l5 := g24691; have y97 : Rg 1 1 x0 := g24688; have y98 : Rg 41 93 y35_l2 := g71_l2; have y99 : Rg 2 3 y35_l3 := g71_l3; have y910 : Rg 0 4095 y35_l4 := g71_l4; have y911 : Rg 0 11 y35_l5 := g24691; have y912 : Rg (-1) 11 y35_l6 := g71_l6; have y913 : Rg 0 11 y71_l7 := g71_l7; have y914 : Rg 1 12 r24693 := hr24693; have y915 : Rg 1 12 l_m := g24677; have y916 : Rg 0 120 l_tp := p_tp; have y917 : Rg 0 120 y71_kto := g71_kto; have y9c18 : (0 : Int32).toInt = 0 := (by decide); have y9c19 : (1 : Int32).toInt = 1 := (by decide); omega) hV hP hD hS (lv_sub (l' := [(0, .ref (b 0)), (1, .int x0), (2, .int y35_l2), (3, .int y35_l3), (4, .int y35_l4), (5, .int y35_l5), (6, .int y35_l6), (7, .int y71_l7), (8, .int r24693)]) hl [1, 2, 3, 4, 5, 6, 7, 8, 0] rfl) (me_up hm71 er24693 (by decide))
      refine lv_iload hx hb dX12_bracketsRead_35 (lv_at hl 4 rfl) ?_
      refine lz_ss (As := [.int y35_l4]) (rest := []) ⟨hx, hb, hml, hown, hts⟩ (w_X12_bits l D cI cS y35_l4) hKK (hP.sub (ws' := []) [] rfl) (va_cwS 1 hts gX12_bracketsRead_X12_bits rfl rfl rfl (by decide +kernel) ⟨Nat.le_of_ble_eq_true rfl, Nat.le_of_ble_eq_true rfl⟩) rfl hl.1 rfl (Nat.le_of_ble_eq_true rfl) dX12_bracketsRead_37 ⟨Nat.le_of_ble_eq_true rfl, Nat.le_of_ble_eq_true rfl⟩ (fun r24694 hr24694 => ?_)
      refine lv_iload_n hx hb dX12_bracketsRead_40 rfl (lv_at hl 3 rfl) ?_
      refine lv_icmp_lt (tgt := 52) hx hb dX12_bracketsRead_41 (by decide) (fun c24695 => ?_) (fun c24695 => ?_)
      · have g24696 : Rg (-2147483648) 2 r24694 := rg_ltl hr24694.1 g35_l3 c24695 (by decide)
        refine lv_aload_n hx hb dX12_bracketsRead_52 rfl (lv_at hl 0 rfl) ?_
        refine lv_iload hx hb dX12_bracketsRead_53 (lv_at hl 4 rfl) ?_
        refine wk_qi (S := Int32 × Int32 × Int32 × SU) (fun q => wM cI b (mkM l_m l_z l_tp l_hs q.1 q.2.1 q.2.2.1 l_so l_sz l_kp) q.2.2.2) (y35_kto, y35_ktk, y35_kwo, v) (As := [.int y35_l4]) (rest := []) ⟨hx, hb, hml, hown, hts⟩ (w_X12_pointRead l D cI cS _ b l_m l_z l_tp l_hs y35_kto y35_ktk y35_kwo l_so l_sz l_kp v (show TyL (mkM l_m l_z l_tp l_hs y35_kto y35_ktk y35_kwo l_so l_sz l_kp) from ⟨p_m, p_tp, p_so, p_sz, p_kp, g35_kto⟩) hV y35_l4 (by have y90 : r24694.toInt < y35_l3.toInt := (lz_lt _ _).mp c24695; have y91 : Rg (-2147483648) 2 r24694 := g24696; have y92 : Rg 0 1 x0 := g35_l1; have y93 : Rg 41 93 y35_l2 := g35_l2; have y94 : Rg 2 3 y35_l3 := g35_l3; have y95 : Rg 0 4095 y35_l4 := g35_l4; have y96 : Rg (-1) 11 y35_l5 := g35_l5; have y97 : Rg (-1) 11 y35_l6 := g35_l6; have y98 : Rg 0 4095 y35_l4 := g35_l4; have y99 : Rg 0 12 l_m := p_m; have y910 : Rg 0 120 l_tp := p_tp; have y911 : Rg 0 120 y35_kto := g35_kto; have y9c12 : (0 : Int32).toInt = 0 := (by decide); have y9c13 : (1 : Int32).toInt = 1 := (by decide); omega)) hKK hP hD hS hA 0 (ci := 12) rfl rfl (cwV 1 hts gX12_bracketsRead_X12_pointRead rfl rfl rfl (by decide +kernel) ⟨Nat.le_of_ble_eq_true rfl, Nat.le_of_ble_eq_true rfl⟩) rfl hl.1 rfl (Nat.le_of_ble_eq_true rfl) dX12_bracketsRead_55 ⟨Nat.le_of_ble_eq_true rfl, Nat.le_of_ble_eq_true rfl⟩ (fun r24697 q9 H locs hr24697 hP hD hS => ?_)
        obtain ⟨r24698, r24699, r24700, v⟩ := q9
        have hr24697 : TyV v ∧ Rg (-1) 11 r24697 ∧ Rg 0 120 r24698 ∧ (y35_kto.toInt ≤ r24698.toInt ∧ r24698.toInt ≤ l_tp.toInt ∧ (¬ r24697.toInt = -1 → y35_ktk.toInt = 1 ∧ (¬ r24699.toInt = 0 → y35_kto.toInt < r24698.toInt)) ∧ (r24697.toInt = -1 → r24698.toInt = y35_kto.toInt ∧ r24699.toInt = y35_ktk.toInt)) := hr24697
        have hV := hr24697.1
        have hP : va_P D cls (wM cI b (mkM l_m l_z l_tp l_hs r24698 r24699 r24700 l_so l_sz l_kp) v) H := hP
        have hD : va_D A (wM cI b (mkM l_m l_z l_tp l_hs r24698 r24699 r24700 l_so l_sz l_kp) v) := hD
        have kr24697_0 := hr24697.2.2.2
        refine lv_istore (lv' := [(7, .int r24697), (0, .ref (b 0)), (1, .int x0), (2, .int y35_l2), (3, .int y35_l3), (4, .int y35_l4), (5, .int y35_l5), (6, .int y35_l6)]) hx hb dX12_bracketsRead_58 hl (by decide) rfl (fun ls hl => ?_)
        refine lv_iload hx hb dX12_bracketsRead_60 (lv_at hl 0 rfl) ?_
        refine lv_iconst (v := (-1)) hx hb dX12_bracketsRead_62 (by decide) ?_
        refine lv_icmp_ne (tgt := 68) hx hb dX12_bracketsRead_63 (by decide) (fun c24701 => ?_) (fun c24701 => ?_)
        · have g24702 : Rg 0 11 r24697 := rg_ne_lo (k := (-1)) hr24697.2.1 (by decide) c24701 (by decide)
          refine lv_iconst (v := 0) hx hb dX12_bracketsRead_68 (by decide) ?_
          refine lv_istore (lv' := [(8, .int 0), (7, .int r24697), (0, .ref (b 0)), (1, .int x0), (2, .int y35_l2), (3, .int y35_l3), (4, .int y35_l4), (5, .int y35_l5), (6, .int y35_l6)]) hx hb dX12_bracketsRead_69 hl (by decide) rfl (fun ls hl => ?_)
          exact lp71 13 r24697 (0 : Int32) r24698 r24699 r24700 v _ _ ls g35_l1 g35_l2 g35_l3 g35_l4 g35_l5 g35_l6 g24702 (by decide : Rg 0 12 (0 : Int32)) hr24697.2.2.1 (show (l_to.toInt ≤ r24698.toInt ∧ r24698.toInt ≤ l_tp.toInt ∧ (¬ r24699.toInt = 0 → l_to.toInt < r24698.toInt ∨ ¬ l_tk.toInt = 0)) from by have y90 : r24694.toInt < y35_l3.toInt := (lz_lt _ _).mp c24695; have y91 : ¬ r24697.toInt = ((-1) : Int32).toInt := fun z => c24701 (Int32.toInt_inj.mp z); have y92 : Rg (-2147483648) 2 r24694 := g24696; have y93 : Rg 0 11 r24697 := g24702; have y94 : Rg 0 1 x0 := g35_l1; have y95 : Rg 41 93 y35_l2 := g35_l2; have y96 : Rg 2 3 y35_l3 := g35_l3; have y97 : Rg 0 4095 y35_l4 := g35_l4; have y98 : Rg (-1) 11 y35_l5 := g35_l5; have y99 : Rg (-1) 11 y35_l6 := g35_l6; have y910 : Rg 0 11 r24697 := g24702; have y911 : Rg 0 12 l_m := p_m; have y912 : Rg 0 120 l_tp := p_tp; have y913 : Rg 0 120 r24698 := hr24697.2.2.1; have y9c14 : ((-1) : Int32).toInt = -1 := (by decide); have y9c15 : (0 : Int32).toInt = 0 := (by decide); have y9c16 : (1 : Int32).toInt = 1 := (by decide); omega) hV hP hD hS (lv_sub (l' := [(0, .ref (b 0)), (1, .int x0), (2, .int y35_l2), (3, .int y35_l3), (4, .int y35_l4), (5, .int y35_l5), (6, .int y35_l6), (7, .int r24697), (8, .int 0)]) hl [2, 3, 4, 5, 6, 7, 8, 1, 0] rfl) (me_i (by decide : Rg 0 12 (0 : Int32)) (by decide))
        · have g24703 : Rg (-1) (-1) r24697 := wk_eql hr24697.2.1 (by decide : Rg (-1) (-1) ((-1) : Int32)) c24701 (by decide)
          refine lv_iconst (v := 0) hx hb dX12_bracketsRead_66 (by decide) ?_
          subst hAe
          exact W.zret (v := 0) hx hb hr (by decide) (fun t ht hW => ⟨⟨_, (r24698, r24699, r24700, v), rfl, ⟨hV, (by decide : Rg 0 1 (0 : Int32)), hr24697.2.2.1, (show l_to.toInt ≤ r24698.toInt ∧ r24698.toInt ≤ l_tp.toInt ∧ (¬ r24699.toInt = 0 → l_to.toInt < r24698.toInt ∨ ¬ l_tk.toInt = 0) from by have y90 : r24694.toInt < y35_l3.toInt := (lz_lt _ _).mp c24695; have y91 : r24697.toInt = ((-1) : Int32).toInt := congrArg Int32.toInt c24701; have y92 : Rg (-2147483648) 2 r24694 := g24696; have y93 : Rg (-1) (-1) r24697 := g24703; have y94 : Rg 0 1 x0 := g35_l1; have y95 : Rg 41 93 y35_l2 := g35_l2; have y96 : Rg 2 3 y35_l3 := g35_l3; have y97 : Rg 0 4095 y35_l4 := g35_l4; have y98 : Rg (-1) 11 y35_l5 := g35_l5; have y99 : Rg (-1) 11 y35_l6 := g35_l6; have y910 : Rg (-1) (-1) r24697 := g24703; have y911 : Rg 0 12 l_m := p_m; have y912 : Rg 0 120 l_tp := p_tp; have y913 : Rg 0 120 r24698 := hr24697.2.2.1; have y9c14 : ((-1) : Int32).toInt = -1 := (by decide); have y9c15 : (0 : Int32).toInt = 0 := (by decide); have y9c16 : (1 : Int32).toInt = 1 := (by decide); omega)⟩, by rw [ht]; exact hP, hD⟩, hS.F ht⟩) hS.2.2 dX12_bracketsRead_67
      · have g24704 : Rg 2 2147483647 r24694 := rg_ler g35_l3 hr24694.1 (rg_nlt c24695) (by decide)
        refine lv_aload_n hx hb dX12_bracketsRead_44 rfl (lv_at hl 0 rfl) ?_
        refine va_get (D := D) (ci := 12) (v := .int y35_ktk) (C := RX12) (T := TX12) (N := 24) hx hb hts hin12 hown hK hP 0 rfl rfl 13 (by decide) (hts (.fieldLink RX12 181 "MissedPointsModel" "token" "I") (by decide +kernel)) (fun _ h9 => h9) rfl dX12_bracketsRead_45 ?_
        refine lv_iload_n hx hb dX12_bracketsRead_48 rfl (lv_at hl 2 rfl) ?_
        refine lv_icmp_eq (tgt := 149) hx hb dX12_bracketsRead_49 (by decide) (fun c24705 => ?_) (fun c24705 => ?_)
        · have g24706 : Rg 41 93 y35_ktk := wk_eql (rg_any y35_ktk) g35_l2 c24705 (by decide)
          refine lv_iload_n hx hb dX12_bracketsRead_149 rfl (lv_at hl 1 rfl) ?_
          refine lv_if_eq (tgt := 161) hx hb dX12_bracketsRead_150 (by decide) (fun c24707 => ?_) (fun c24707 => ?_)
          · have g24708 : Rg 0 0 x0 := wk_eql g35_l1 (by decide : Rg 0 0 (0 : Int32)) c24707 (by decide)
            refine lv_aload_n hx hb dX12_bracketsRead_161 rfl (lv_at hl 0 rfl) ?_
            refine wk_qv (S := Int32 × Int32 × Int32 × SU) (fun q => wM cI b (mkM l_m l_z l_tp l_hs q.1 q.2.1 q.2.2.1 l_so l_sz l_kp) q.2.2.2) (y35_kto, y35_ktk, y35_kwo, v) (As := []) (rest := []) ⟨hx, hb, hml, hown, hts⟩ (w_X12_goesOn l D cI cS _ b l_m l_z l_tp l_hs y35_kto y35_ktk y35_kwo l_so l_sz l_kp v (show TyL (mkM l_m l_z l_tp l_hs y35_kto y35_ktk y35_kwo l_so l_sz l_kp) from ⟨p_m, p_tp, p_so, p_sz, p_kp, g35_kto⟩) hV (by have y90 : y35_l3.toInt ≤ r24694.toInt := (lz_le _ _).mp (rg_nlt c24695); have y91 : y35_ktk.toInt = y35_l2.toInt := congrArg Int32.toInt c24705; have y92 : x0.toInt = (0 : Int32).toInt := congrArg Int32.toInt c24707; have y93 : Rg 2 2147483647 r24694 := g24704; have y94 : Rg 41 93 y35_ktk := g24706; have y95 : Rg 0 0 x0 := g24708; have y96 : Rg 0 0 x0 := g24708; have y97 : Rg 41 93 y35_l2 := g35_l2; have y98 : Rg 2 3 y35_l3 := g35_l3; have y99 : Rg 0 4095 y35_l4 := g35_l4; have y910 : Rg (-1) 11 y35_l5 := g35_l5; have y911 : Rg (-1) 11 y35_l6 := g35_l6; have y912 : Rg 0 12 l_m := p_m; have y913 : Rg 0 120 l_tp := p_tp; have y914 : Rg 0 120 y35_kto := g35_kto; have y915 : Rg 41 93 y35_ktk := g24706; have y9c16 : (0 : Int32).toInt = 0 := (by decide); have y9c17 : (1 : Int32).toInt = 1 := (by decide); omega)) hKK hP hD hS hA 0 (ci := 12) rfl rfl (cwV 0 hts gX12_bracketsRead_X12_goesOn rfl rfl rfl (by decide +kernel) ⟨Nat.le_of_ble_eq_true rfl, Nat.le_of_ble_eq_true rfl⟩) rfl hl.1 rfl (Nat.le_of_ble_eq_true rfl) dX12_bracketsRead_162 ⟨Nat.le_of_ble_eq_true rfl, Nat.le_of_ble_eq_true rfl⟩ (fun q9 H locs hr24709 hP hD hS => ?_)
            obtain ⟨r24710, r24711, r24712, v⟩ := q9
            have hr24709 : TyV v ∧ Rg 0 120 r24710 ∧ (y35_kto.toInt ≤ r24710.toInt ∧ r24710.toInt ≤ l_tp.toInt ∧ (¬ r24711.toInt = 0 → y35_kto.toInt < r24710.toInt)) := hr24709
            have hV := hr24709.1
            have hP : va_P D cls (wM cI b (mkM l_m l_z l_tp l_hs r24710 r24711 r24712 l_so l_sz l_kp) v) H := hP
            have hD : va_D A (wM cI b (mkM l_m l_z l_tp l_hs r24710 r24711 r24712 l_so l_sz l_kp) v) := hD
            have kr24709_0 := hr24709.2.2
            refine lv_iconst (v := 1) hx hb dX12_bracketsRead_165 (by decide) ?_
            subst hAe
            exact W.zret (v := 1) hx hb hr (by decide) (fun t ht hW => ⟨⟨_, (r24710, r24711, r24712, v), rfl, ⟨hV, (by decide : Rg 0 1 (1 : Int32)), hr24709.2.1, (show l_to.toInt ≤ r24710.toInt ∧ r24710.toInt ≤ l_tp.toInt ∧ (¬ r24711.toInt = 0 → l_to.toInt < r24710.toInt ∨ ¬ l_tk.toInt = 0) from by have y90 : y35_l3.toInt ≤ r24694.toInt := (lz_le _ _).mp (rg_nlt c24695); have y91 : y35_ktk.toInt = y35_l2.toInt := congrArg Int32.toInt c24705; have y92 : x0.toInt = (0 : Int32).toInt := congrArg Int32.toInt c24707; have y93 : Rg 2 2147483647 r24694 := g24704; have y94 : Rg 41 93 y35_ktk := g24706; have y95 : Rg 0 0 x0 := g24708; have y96 : Rg 0 0 x0 := g24708; have y97 : Rg 41 93 y35_l2 := g35_l2; have y98 : Rg 2 3 y35_l3 := g35_l3; have y99 : Rg 0 4095 y35_l4 := g35_l4; have y910 : Rg (-1) 11 y35_l5 := g35_l5; have y911 : Rg (-1) 11 y35_l6 := g35_l6; have y912 : Rg 0 12 l_m := p_m; have y913 : Rg 0 120 l_tp := p_tp; have y914 : Rg 0 120 r24710 := hr24709.2.1; have y9c15 : (0 : Int32).toInt = 0 := (by decide); have y9c16 : (1 : Int32).toInt = 1 := (by decide); omega)⟩, by rw [ht]; exact hP, hD⟩, hS.F ht⟩) hS.2.2 dX12_bracketsRead_166
          · have g24713 : Rg 1 1 x0 := rg_ne_lo (k := 0) g35_l1 (by decide) c24707 (by decide)
            have g24714 : Rg 0 11 y35_l5 ∧ Rg 0 11 y35_l6 := x35_1.resolve_left (fun z => by have z2 := congrArg Int32.toInt (hr24694.2 z); have y90 : y35_l3.toInt ≤ r24694.toInt := (lz_le _ _).mp (rg_nlt c24695); have y91 : y35_ktk.toInt = y35_l2.toInt := congrArg Int32.toInt c24705; have y92 : ¬ x0.toInt = (0 : Int32).toInt := fun z => c24707 (Int32.toInt_inj.mp z); have y93 : Rg 2 2147483647 r24694 := g24704; have y94 : Rg 41 93 y35_ktk := g24706; have y95 : Rg 1 1 x0 := g24713; have y96 : Rg 1 1 x0 := g24713; have y97 : Rg 41 93 y35_l2 := g35_l2; have y98 : Rg 2 3 y35_l3 := g35_l3; have y99 : Rg 0 4095 y35_l4 := g35_l4; have y910 : Rg (-1) 11 y35_l5 := g35_l5; have y911 : Rg (-1) 11 y35_l6 := g35_l6; have y912 : Rg 0 12 l_m := p_m; have y913 : Rg 0 120 l_tp := p_tp; have y914 : Rg 0 120 y35_kto := g35_kto; have y915 : Rg 41 93 y35_ktk := g24706; have y9c16 : (0 : Int32).toInt = 0 := (by decide); have y9c17 : (1 : Int32).toInt = 1 := (by decide); have z3 : (0 : Int32).toInt = 0 := (by decide); omega)
            refine lv_aload_n hx hb dX12_bracketsRead_153 rfl (lv_at hl 0 rfl) ?_
            refine lv_iload hx hb dX12_bracketsRead_154 (lv_at hl 5 rfl) ?_
            refine lv_iload hx hb dX12_bracketsRead_156 (lv_at hl 6 rfl) ?_
            refine wk_qv (wM cI b (mkM l_m l_z l_tp l_hs y35_kto y35_ktk y35_kwo l_so l_sz l_kp)) v (As := [.int y35_l5, .int y35_l6]) (rest := []) ⟨hx, hb, hml, hown, hts⟩ (w_X12_joins l D cI cS _ b (mkM l_m l_z l_tp l_hs y35_kto y35_ktk y35_kwo l_so l_sz l_kp) v (show TyL (mkM l_m l_z l_tp l_hs y35_kto y35_ktk y35_kwo l_so l_sz l_kp) from ⟨p_m, p_tp, p_so, p_sz, p_kp, g35_kto⟩) hV y35_l5 y35_l6 g24714.1 g24714.2) hKK hP hD hS hA 0 (ci := 12) rfl rfl (cwV 2 hts gX12_bracketsRead_X12_joins rfl rfl rfl (by decide +kernel) ⟨Nat.le_of_ble_eq_true rfl, Nat.le_of_ble_eq_true rfl⟩) rfl hl.1 rfl (Nat.le_of_ble_eq_true rfl) dX12_bracketsRead_158 ⟨Nat.le_of_ble_eq_true rfl, Nat.le_of_ble_eq_true rfl⟩ (fun v H locs hr24715 hP hD hS => ?_)
            have hV := hr24715.1
            refine lv_aload_n hx hb dX12_bracketsRead_161 rfl (lv_at hl 0 rfl) ?_
            refine wk_qv (S := Int32 × Int32 × Int32 × SU) (fun q => wM cI b (mkM l_m l_z l_tp l_hs q.1 q.2.1 q.2.2.1 l_so l_sz l_kp) q.2.2.2) (y35_kto, y35_ktk, y35_kwo, v) (As := []) (rest := []) ⟨hx, hb, hml, hown, hts⟩ (w_X12_goesOn l D cI cS _ b l_m l_z l_tp l_hs y35_kto y35_ktk y35_kwo l_so l_sz l_kp v (show TyL (mkM l_m l_z l_tp l_hs y35_kto y35_ktk y35_kwo l_so l_sz l_kp) from ⟨p_m, p_tp, p_so, p_sz, p_kp, g35_kto⟩) hV (by have y90 : y35_l3.toInt ≤ r24694.toInt := (lz_le _ _).mp (rg_nlt c24695); have y91 : y35_ktk.toInt = y35_l2.toInt := congrArg Int32.toInt c24705; have y92 : ¬ x0.toInt = (0 : Int32).toInt := fun z => c24707 (Int32.toInt_inj.mp z); have y93 : Rg 2 2147483647 r24694 := g24704; have y94 : Rg 41 93 y35_ktk := g24706; have y95 : Rg 1 1 x0 := g24713; have y96 : Rg 0 11 y35_l5 := g24714.1; have y97 : Rg 0 11 y35_l6 := g24714.2; have y98 : Rg 1 1 x0 := g24713; have y99 : Rg 41 93 y35_l2 := g35_l2; have y910 : Rg 2 3 y35_l3 := g35_l3; have y911 : Rg 0 4095 y35_l4 := g35_l4; have y912 : Rg 0 11 y35_l5 := g24714.1; have y913 : Rg 0 11 y35_l6 := g24714.2; have y914 : Rg 0 12 l_m := p_m; have y915 : Rg 0 120 l_tp := p_tp; have y916 : Rg 0 120 y35_kto := g35_kto; have y917 : Rg 41 93 y35_ktk := g24706; have y9c18 : (0 : Int32).toInt = 0 := (by decide); have y9c19 : (1 : Int32).toInt = 1 := (by decide); omega)) hKK hP hD hS hA 0 (ci := 12) rfl rfl (cwV 0 hts gX12_bracketsRead_X12_goesOn rfl rfl rfl (by decide +kernel) ⟨Nat.le_of_ble_eq_true rfl, Nat.le_of_ble_eq_true rfl⟩) rfl hl.1 rfl (Nat.le_of_ble_eq_true rfl) dX12_bracketsRead_162 ⟨Nat.le_of_ble_eq_true rfl, Nat.le_of_ble_eq_true rfl⟩ (fun q9 H locs hr24716 hP hD hS => ?_)
            obtain ⟨r24717, r24718, r24719, v⟩ := q9
            have hr24716 : TyV v ∧ Rg 0 120 r24717 ∧ (y35_kto.toInt ≤ r24717.toInt ∧ r24717.toInt ≤ l_tp.toInt ∧ (¬ r24718.toInt = 0 → y35_kto.toInt < r24717.toInt)) := hr24716
            have hV := hr24716.1
            have hP : va_P D cls (wM cI b (mkM l_m l_z l_tp l_hs r24717 r24718 r24719 l_so l_sz l_kp) v) H := hP
            have hD : va_D A (wM cI b (mkM l_m l_z l_tp l_hs r24717 r24718 r24719 l_so l_sz l_kp) v) := hD
            have kr24716_0 := hr24716.2.2
            refine lv_iconst (v := 1) hx hb dX12_bracketsRead_165 (by decide) ?_
            subst hAe
            exact W.zret (v := 1) hx hb hr (by decide) (fun t ht hW => ⟨⟨_, (r24717, r24718, r24719, v), rfl, ⟨hV, (by decide : Rg 0 1 (1 : Int32)), hr24716.2.1, (show l_to.toInt ≤ r24717.toInt ∧ r24717.toInt ≤ l_tp.toInt ∧ (¬ r24718.toInt = 0 → l_to.toInt < r24717.toInt ∨ ¬ l_tk.toInt = 0) from by have y90 : y35_l3.toInt ≤ r24694.toInt := (lz_le _ _).mp (rg_nlt c24695); have y91 : y35_ktk.toInt = y35_l2.toInt := congrArg Int32.toInt c24705; have y92 : ¬ x0.toInt = (0 : Int32).toInt := fun z => c24707 (Int32.toInt_inj.mp z); have y93 : Rg 2 2147483647 r24694 := g24704; have y94 : Rg 41 93 y35_ktk := g24706; have y95 : Rg 1 1 x0 := g24713; have y96 : Rg 0 11 y35_l5 := g24714.1; have y97 : Rg 0 11 y35_l6 := g24714.2; have y98 : Rg 1 1 x0 := g24713; have y99 : Rg 41 93 y35_l2 := g35_l2; have y910 : Rg 2 3 y35_l3 := g35_l3; have y911 : Rg 0 4095 y35_l4 := g35_l4; have y912 : Rg 0 11 y35_l5 := g24714.1; have y913 : Rg 0 11 y35_l6 := g24714.2; have y914 : Rg 0 12 l_m := p_m; have y915 : Rg 0 120 l_tp := p_tp; have y916 : Rg 0 120 r24717 := hr24716.2.1; have y9c17 : (0 : Int32).toInt = 0 := (by decide); have y9c18 : (1 : Int32).toInt = 1 := (by decide); omega)⟩, by rw [ht]; exact hP, hD⟩, hS.F ht⟩) hS.2.2 dX12_bracketsRead_166
        · refine lv_aload_n hx hb dX12_bracketsRead_52 rfl (lv_at hl 0 rfl) ?_
          refine lv_iload hx hb dX12_bracketsRead_53 (lv_at hl 4 rfl) ?_
          refine wk_qi (S := Int32 × Int32 × Int32 × SU) (fun q => wM cI b (mkM l_m l_z l_tp l_hs q.1 q.2.1 q.2.2.1 l_so l_sz l_kp) q.2.2.2) (y35_kto, y35_ktk, y35_kwo, v) (As := [.int y35_l4]) (rest := []) ⟨hx, hb, hml, hown, hts⟩ (w_X12_pointRead l D cI cS _ b l_m l_z l_tp l_hs y35_kto y35_ktk y35_kwo l_so l_sz l_kp v (show TyL (mkM l_m l_z l_tp l_hs y35_kto y35_ktk y35_kwo l_so l_sz l_kp) from ⟨p_m, p_tp, p_so, p_sz, p_kp, g35_kto⟩) hV y35_l4 (by have y90 : y35_l3.toInt ≤ r24694.toInt := (lz_le _ _).mp (rg_nlt c24695); have y91 : ¬ y35_ktk.toInt = y35_l2.toInt := fun z => c24705 (Int32.toInt_inj.mp z); have y92 : Rg 2 2147483647 r24694 := g24704; have y93 : Rg 0 1 x0 := g35_l1; have y94 : Rg 41 93 y35_l2 := g35_l2; have y95 : Rg 2 3 y35_l3 := g35_l3; have y96 : Rg 0 4095 y35_l4 := g35_l4; have y97 : Rg (-1) 11 y35_l5 := g35_l5; have y98 : Rg (-1) 11 y35_l6 := g35_l6; have y99 : Rg 0 4095 y35_l4 := g35_l4; have y910 : Rg 0 12 l_m := p_m; have y911 : Rg 0 120 l_tp := p_tp; have y912 : Rg 0 120 y35_kto := g35_kto; have y9c13 : (0 : Int32).toInt = 0 := (by decide); have y9c14 : (1 : Int32).toInt = 1 := (by decide); omega)) hKK hP hD hS hA 0 (ci := 12) rfl rfl (cwV 1 hts gX12_bracketsRead_X12_pointRead rfl rfl rfl (by decide +kernel) ⟨Nat.le_of_ble_eq_true rfl, Nat.le_of_ble_eq_true rfl⟩) rfl hl.1 rfl (Nat.le_of_ble_eq_true rfl) dX12_bracketsRead_55 ⟨Nat.le_of_ble_eq_true rfl, Nat.le_of_ble_eq_true rfl⟩ (fun r24720 q9 H locs hr24720 hP hD hS => ?_)
          obtain ⟨r24721, r24722, r24723, v⟩ := q9
          have hr24720 : TyV v ∧ Rg (-1) 11 r24720 ∧ Rg 0 120 r24721 ∧ (y35_kto.toInt ≤ r24721.toInt ∧ r24721.toInt ≤ l_tp.toInt ∧ (¬ r24720.toInt = -1 → y35_ktk.toInt = 1 ∧ (¬ r24722.toInt = 0 → y35_kto.toInt < r24721.toInt)) ∧ (r24720.toInt = -1 → r24721.toInt = y35_kto.toInt ∧ r24722.toInt = y35_ktk.toInt)) := hr24720
          have hV := hr24720.1
          have hP : va_P D cls (wM cI b (mkM l_m l_z l_tp l_hs r24721 r24722 r24723 l_so l_sz l_kp) v) H := hP
          have hD : va_D A (wM cI b (mkM l_m l_z l_tp l_hs r24721 r24722 r24723 l_so l_sz l_kp) v) := hD
          have kr24720_0 := hr24720.2.2.2
          refine lv_istore (lv' := [(7, .int r24720), (0, .ref (b 0)), (1, .int x0), (2, .int y35_l2), (3, .int y35_l3), (4, .int y35_l4), (5, .int y35_l5), (6, .int y35_l6)]) hx hb dX12_bracketsRead_58 hl (by decide) rfl (fun ls hl => ?_)
          refine lv_iload hx hb dX12_bracketsRead_60 (lv_at hl 0 rfl) ?_
          refine lv_iconst (v := (-1)) hx hb dX12_bracketsRead_62 (by decide) ?_
          refine lv_icmp_ne (tgt := 68) hx hb dX12_bracketsRead_63 (by decide) (fun c24724 => ?_) (fun c24724 => ?_)
          · have g24725 : Rg 0 11 r24720 := rg_ne_lo (k := (-1)) hr24720.2.1 (by decide) c24724 (by decide)
            refine lv_iconst (v := 0) hx hb dX12_bracketsRead_68 (by decide) ?_
            refine lv_istore (lv' := [(8, .int 0), (7, .int r24720), (0, .ref (b 0)), (1, .int x0), (2, .int y35_l2), (3, .int y35_l3), (4, .int y35_l4), (5, .int y35_l5), (6, .int y35_l6)]) hx hb dX12_bracketsRead_69 hl (by decide) rfl (fun ls hl => ?_)
            exact lp71 13 r24720 (0 : Int32) r24721 r24722 r24723 v _ _ ls g35_l1 g35_l2 g35_l3 g35_l4 g35_l5 g35_l6 g24725 (by decide : Rg 0 12 (0 : Int32)) hr24720.2.2.1 (show (l_to.toInt ≤ r24721.toInt ∧ r24721.toInt ≤ l_tp.toInt ∧ (¬ r24722.toInt = 0 → l_to.toInt < r24721.toInt ∨ ¬ l_tk.toInt = 0)) from by have y90 : y35_l3.toInt ≤ r24694.toInt := (lz_le _ _).mp (rg_nlt c24695); have y91 : ¬ y35_ktk.toInt = y35_l2.toInt := fun z => c24705 (Int32.toInt_inj.mp z); have y92 : ¬ r24720.toInt = ((-1) : Int32).toInt := fun z => c24724 (Int32.toInt_inj.mp z); have y93 : Rg 2 2147483647 r24694 := g24704; have y94 : Rg 0 11 r24720 := g24725; have y95 : Rg 0 1 x0 := g35_l1; have y96 : Rg 41 93 y35_l2 := g35_l2; have y97 : Rg 2 3 y35_l3 := g35_l3; have y98 : Rg 0 4095 y35_l4 := g35_l4; have y99 : Rg (-1) 11 y35_l5 := g35_l5; have y910 : Rg (-1) 11 y35_l6 := g35_l6; have y911 : Rg 0 11 r24720 := g24725; have y912 : Rg 0 12 l_m := p_m; have y913 : Rg 0 120 l_tp := p_tp; have y914 : Rg 0 120 r24721 := hr24720.2.2.1; have y9c15 : ((-1) : Int32).toInt = -1 := (by decide); have y9c16 : (0 : Int32).toInt = 0 := (by decide); have y9c17 : (1 : Int32).toInt = 1 := (by decide); omega) hV hP hD hS (lv_sub (l' := [(0, .ref (b 0)), (1, .int x0), (2, .int y35_l2), (3, .int y35_l3), (4, .int y35_l4), (5, .int y35_l5), (6, .int y35_l6), (7, .int r24720), (8, .int 0)]) hl [2, 3, 4, 5, 6, 7, 8, 1, 0] rfl) (me_i (by decide : Rg 0 12 (0 : Int32)) (by decide))
          · have g24726 : Rg (-1) (-1) r24720 := wk_eql hr24720.2.1 (by decide : Rg (-1) (-1) ((-1) : Int32)) c24724 (by decide)
            refine lv_iconst (v := 0) hx hb dX12_bracketsRead_66 (by decide) ?_
            subst hAe
            exact W.zret (v := 0) hx hb hr (by decide) (fun t ht hW => ⟨⟨_, (r24721, r24722, r24723, v), rfl, ⟨hV, (by decide : Rg 0 1 (0 : Int32)), hr24720.2.2.1, (show l_to.toInt ≤ r24721.toInt ∧ r24721.toInt ≤ l_tp.toInt ∧ (¬ r24722.toInt = 0 → l_to.toInt < r24721.toInt ∨ ¬ l_tk.toInt = 0) from by have y90 : y35_l3.toInt ≤ r24694.toInt := (lz_le _ _).mp (rg_nlt c24695); have y91 : ¬ y35_ktk.toInt = y35_l2.toInt := fun z => c24705 (Int32.toInt_inj.mp z); have y92 : r24720.toInt = ((-1) : Int32).toInt := congrArg Int32.toInt c24724; have y93 : Rg 2 2147483647 r24694 := g24704; have y94 : Rg (-1) (-1) r24720 := g24726; have y95 : Rg 0 1 x0 := g35_l1; have y96 : Rg 41 93 y35_l2 := g35_l2; have y97 : Rg 2 3 y35_l3 := g35_l3; have y98 : Rg 0 4095 y35_l4 := g35_l4; have y99 : Rg (-1) 11 y35_l5 := g35_l5; have y910 : Rg (-1) 11 y35_l6 := g35_l6; have y911 : Rg (-1) (-1) r24720 := g24726; have y912 : Rg 0 12 l_m := p_m; have y913 : Rg 0 120 l_tp := p_tp; have y914 : Rg 0 120 r24721 := hr24720.2.2.1; have y9c15 : ((-1) : Int32).toInt = -1 := (by decide); have y9c16 : (0 : Int32).toInt = 0 := (by decide); have y9c17 : (1 : Int32).toInt = 1 := (by decide); omega)⟩, by rw [ht]; exact hP, hD⟩, hS.F ht⟩) hS.2.2 dX12_bracketsRead_67
  have ct11 : ∀ (y11_s0 : Int32) (v : SU) (H : Heap) (locs : List Loc) (ls : Array Slot), Rg 0 1 x0 → Rg 41 93 y11_s0 → Rg 0 120 l_to → TyV v → va_P D cls (wM cI b (mkM l_m l_z l_tp l_hs l_to l_tk l_wo l_so l_sz l_kp) v) H → va_D A (wM cI b (mkM l_m l_z l_tp l_hs l_to l_tk l_wo l_so l_sz l_kp) v) → va_S A s.heap H locs → lv_has ls 9 [(0, .ref (b 0)), (1, .int x0)] → W p l e (headSpec wsX12_bracketsRead ({ frames := 4, cells := 0, slots := 0, locals := 160 })).room s m ([.ref (b 0), .int x0]).toArray below meth c H locs 0 0 (MQ below (QF (S := Int32 × Int32 × Int32 × SU) D (wM cI b (mkM l_m l_z l_tp l_hs l_to l_tk l_wo l_so l_sz l_kp) v0) (fun q => wM cI b (mkM l_m l_z l_tp l_hs q.1 q.2.1 q.2.2.1 l_so l_sz l_kp) q.2.2.2) s.heap.size (fun r q => TyV q.2.2.2 ∧ Rg 0 1 r ∧ Rg 0 120 q.1 ∧ (l_to.toInt ≤ q.1.toInt ∧ q.1.toInt ≤ l_tp.toInt ∧ (¬ q.2.1.toInt = 0 → l_to.toInt < q.1.toInt ∨ ¬ l_tk.toInt = 0)))) ([.ref (b 0), .int x0]).toArray s 0 0 (va_A (wM cI b (mkM l_m l_z l_tp l_hs l_to l_tk l_wo l_so l_sz l_kp) v0) s.heap.size)) (F0 m 11 ls [.int y11_s0]) := by
    intro y11_s0 v H locs ls g11_l1 g11_s0 g11_kto hV hP hD hS hl
    refine lv_istore_n (lv' := [(2, .int y11_s0), (0, .ref (b 0)), (1, .int x0)]) hx hb dX12_bracketsRead_11 rfl hl (by decide) rfl (fun ls hl => ?_)
    refine lv_iload_n hx hb dX12_bracketsRead_12 rfl (lv_at hl 2 rfl) ?_
    refine lv_if_eq (tgt := 20) hx hb dX12_bracketsRead_13 (by decide) (fun c24727 => ?_) (fun c24727 => ?_)
    · have g24728 : Rg 0 0 x0 := wk_eql g11_l1 (by decide : Rg 0 0 (0 : Int32)) c24727 (by decide)
      refine lv_iconst (v := 2) hx hb dX12_bracketsRead_20 (by decide) ?_
      refine lv_istore_n (lv' := [(3, .int 2), (2, .int y11_s0), (0, .ref (b 0)), (1, .int x0)]) hx hb dX12_bracketsRead_21 rfl hl (by decide) rfl (fun ls hl => ?_)
      refine lv_iconst (v := 0) hx hb dX12_bracketsRead_22 (by decide) ?_
      refine lv_istore (lv' := [(4, .int 0), (3, .int 2), (2, .int y11_s0), (0, .ref (b 0)), (1, .int x0)]) hx hb dX12_bracketsRead_23 hl (by decide) rfl (fun ls hl => ?_)
      refine lv_iconst (v := (-1)) hx hb dX12_bracketsRead_25 (by decide) ?_
      refine lv_istore (lv' := [(5, .int (-1)), (4, .int 0), (3, .int 2), (2, .int y11_s0), (0, .ref (b 0)), (1, .int x0)]) hx hb dX12_bracketsRead_26 hl (by decide) rfl (fun ls hl => ?_)
      refine lv_iconst (v := (-1)) hx hb dX12_bracketsRead_28 (by decide) ?_
      refine lv_istore (lv' := [(6, .int (-1)), (5, .int (-1)), (4, .int 0), (3, .int 2), (2, .int y11_s0), (0, .ref (b 0)), (1, .int x0)]) hx hb dX12_bracketsRead_29 hl (by decide) rfl (fun ls hl => ?_)
      refine lv_aload_n hx hb dX12_bracketsRead_31 rfl (lv_at hl 5 rfl) ?_
      refine wk_qv (S := Int32 × Int32 × Int32 × SU) (fun q => wM cI b (mkM l_m l_z l_tp l_hs q.1 q.2.1 q.2.2.1 l_so l_sz l_kp) q.2.2.2) (l_to, l_tk, l_wo, v) (As := []) (rest := []) ⟨hx, hb, hml, hown, hts⟩ (w_X12_goesOn l D cI cS _ b l_m l_z l_tp l_hs l_to l_tk l_wo l_so l_sz l_kp v (show TyL (mkM l_m l_z l_tp l_hs l_to l_tk l_wo l_so l_sz l_kp) from ⟨p_m, p_tp, p_so, p_sz, p_kp, g11_kto⟩) hV (by have y90 : x0.toInt = (0 : Int32).toInt := congrArg Int32.toInt c24727; have y91 : Rg 0 0 x0 := g24728; have y92 : Rg 0 0 x0 := g24728; have y93 : Rg 41 93 y11_s0 := g11_s0; have y94 : Rg 0 12 l_m := p_m; have y95 : Rg 0 120 l_tp := p_tp; have y96 : Rg 0 120 l_to := g11_kto; have y9c7 : ((-1) : Int32).toInt = -1 := (by decide); have y9c8 : (0 : Int32).toInt = 0 := (by decide); have y9c9 : (1 : Int32).toInt = 1 := (by decide); have y9c10 : (2 : Int32).toInt = 2 := (by decide); omega)) hKK hP hD hS hA 0 (ci := 12) rfl rfl (cwV 0 hts gX12_bracketsRead_X12_goesOn rfl rfl rfl (by decide +kernel) ⟨Nat.le_of_ble_eq_true rfl, Nat.le_of_ble_eq_true rfl⟩) rfl hl.1 rfl (Nat.le_of_ble_eq_true rfl) dX12_bracketsRead_32 ⟨Nat.le_of_ble_eq_true rfl, Nat.le_of_ble_eq_true rfl⟩ (fun q9 H locs hr24729 hP hD hS => ?_)
      obtain ⟨r24730, r24731, r24732, v⟩ := q9
      have hr24729 : TyV v ∧ Rg 0 120 r24730 ∧ (l_to.toInt ≤ r24730.toInt ∧ r24730.toInt ≤ l_tp.toInt ∧ (¬ r24731.toInt = 0 → l_to.toInt < r24730.toInt)) := hr24729
      have hV := hr24729.1
      have hP : va_P D cls (wM cI b (mkM l_m l_z l_tp l_hs r24730 r24731 r24732 l_so l_sz l_kp) v) H := hP
      have hD : va_D A (wM cI b (mkM l_m l_z l_tp l_hs r24730 r24731 r24732 l_so l_sz l_kp) v) := hD
      have kr24729_0 := hr24729.2.2
      exact lp35 242 y11_s0 (2 : Int32) (0 : Int32) (((-1) : Int32)) (((-1) : Int32)) r24730 r24731 r24732 v _ _ ls (show Rg 0 1 x0 from rg_w g24728 (by decide) (by decide)) g11_s0 (by decide : Rg 2 3 (2 : Int32)) (by decide : Rg 0 4095 (0 : Int32)) (by decide : Rg (-1) 11 ((-1) : Int32)) (by decide : Rg (-1) 11 ((-1) : Int32)) hr24729.2.1 (show (l_to.toInt ≤ r24730.toInt ∧ r24730.toInt ≤ l_tp.toInt ∧ (¬ r24731.toInt = 0 → l_to.toInt < r24730.toInt ∨ ¬ l_tk.toInt = 0)) from by have y90 : x0.toInt = (0 : Int32).toInt := congrArg Int32.toInt c24727; have y91 : Rg 0 0 x0 := g24728; have y92 : Rg 0 0 x0 := g24728; have y93 : Rg 41 93 y11_s0 := g11_s0; have y94 : Rg 0 12 l_m := p_m; have y95 : Rg 0 120 l_tp := p_tp; have y96 : Rg 0 120 r24730 := hr24729.2.1; have y9c7 : ((-1) : Int32).toInt = -1 := (by decide); have y9c8 : (0 : Int32).toInt = 0 := (by decide); have y9c9 : (1 : Int32).toInt = 1 := (by decide); have y9c10 : (2 : Int32).toInt = 2 := (by decide); omega) (by exact Or.inl rfl) hV hP hD hS (lv_sub (l' := [(0, .ref (b 0)), (1, .int x0), (2, .int y11_s0), (3, .int 2), (4, .int 0), (5, .int (-1)), (6, .int (-1))]) hl [5, 6, 4, 3, 2, 1, 0] rfl) (show (2 * (l_tp.toInt - r24730.toInt) + (if r24731.toInt = 0 then 0 else 1)) < _ from by have y90 : x0.toInt = (0 : Int32).toInt := congrArg Int32.toInt c24727; have y91 : Rg 0 0 x0 := g24728; have y92 : Rg 0 0 x0 := g24728; have y93 : Rg 41 93 y11_s0 := g11_s0; have y94 : Rg 0 12 l_m := p_m; have y95 : Rg 0 120 l_tp := p_tp; have y96 : Rg 0 120 r24730 := hr24729.2.1; have y9c7 : ((-1) : Int32).toInt = -1 := (by decide); have y9c8 : (0 : Int32).toInt = 0 := (by decide); have y9c9 : (1 : Int32).toInt = 1 := (by decide); have y9c10 : (2 : Int32).toInt = 2 := (by decide); split <;> omega)
    · have g24733 : Rg 1 1 x0 := rg_ne_lo (k := 0) g11_l1 (by decide) c24727 (by decide)
      refine lv_iconst (v := 3) hx hb dX12_bracketsRead_16 (by decide) ?_
      refine lv_goto (tgt := 21) hx hb dX12_bracketsRead_17 (by decide) ?_
      refine lv_istore_n (lv' := [(3, .int 3), (2, .int y11_s0), (0, .ref (b 0)), (1, .int x0)]) hx hb dX12_bracketsRead_21 rfl hl (by decide) rfl (fun ls hl => ?_)
      refine lv_iconst (v := 0) hx hb dX12_bracketsRead_22 (by decide) ?_
      refine lv_istore (lv' := [(4, .int 0), (3, .int 3), (2, .int y11_s0), (0, .ref (b 0)), (1, .int x0)]) hx hb dX12_bracketsRead_23 hl (by decide) rfl (fun ls hl => ?_)
      refine lv_iconst (v := (-1)) hx hb dX12_bracketsRead_25 (by decide) ?_
      refine lv_istore (lv' := [(5, .int (-1)), (4, .int 0), (3, .int 3), (2, .int y11_s0), (0, .ref (b 0)), (1, .int x0)]) hx hb dX12_bracketsRead_26 hl (by decide) rfl (fun ls hl => ?_)
      refine lv_iconst (v := (-1)) hx hb dX12_bracketsRead_28 (by decide) ?_
      refine lv_istore (lv' := [(6, .int (-1)), (5, .int (-1)), (4, .int 0), (3, .int 3), (2, .int y11_s0), (0, .ref (b 0)), (1, .int x0)]) hx hb dX12_bracketsRead_29 hl (by decide) rfl (fun ls hl => ?_)
      refine lv_aload_n hx hb dX12_bracketsRead_31 rfl (lv_at hl 5 rfl) ?_
      refine wk_qv (S := Int32 × Int32 × Int32 × SU) (fun q => wM cI b (mkM l_m l_z l_tp l_hs q.1 q.2.1 q.2.2.1 l_so l_sz l_kp) q.2.2.2) (l_to, l_tk, l_wo, v) (As := []) (rest := []) ⟨hx, hb, hml, hown, hts⟩ (w_X12_goesOn l D cI cS _ b l_m l_z l_tp l_hs l_to l_tk l_wo l_so l_sz l_kp v (show TyL (mkM l_m l_z l_tp l_hs l_to l_tk l_wo l_so l_sz l_kp) from ⟨p_m, p_tp, p_so, p_sz, p_kp, g11_kto⟩) hV (by have y90 : ¬ x0.toInt = (0 : Int32).toInt := fun z => c24727 (Int32.toInt_inj.mp z); have y91 : Rg 1 1 x0 := g24733; have y92 : Rg 1 1 x0 := g24733; have y93 : Rg 41 93 y11_s0 := g11_s0; have y94 : Rg 0 12 l_m := p_m; have y95 : Rg 0 120 l_tp := p_tp; have y96 : Rg 0 120 l_to := g11_kto; have y9c7 : ((-1) : Int32).toInt = -1 := (by decide); have y9c8 : (0 : Int32).toInt = 0 := (by decide); have y9c9 : (1 : Int32).toInt = 1 := (by decide); have y9c10 : (3 : Int32).toInt = 3 := (by decide); omega)) hKK hP hD hS hA 0 (ci := 12) rfl rfl (cwV 0 hts gX12_bracketsRead_X12_goesOn rfl rfl rfl (by decide +kernel) ⟨Nat.le_of_ble_eq_true rfl, Nat.le_of_ble_eq_true rfl⟩) rfl hl.1 rfl (Nat.le_of_ble_eq_true rfl) dX12_bracketsRead_32 ⟨Nat.le_of_ble_eq_true rfl, Nat.le_of_ble_eq_true rfl⟩ (fun q9 H locs hr24734 hP hD hS => ?_)
      obtain ⟨r24735, r24736, r24737, v⟩ := q9
      have hr24734 : TyV v ∧ Rg 0 120 r24735 ∧ (l_to.toInt ≤ r24735.toInt ∧ r24735.toInt ≤ l_tp.toInt ∧ (¬ r24736.toInt = 0 → l_to.toInt < r24735.toInt)) := hr24734
      have hV := hr24734.1
      have hP : va_P D cls (wM cI b (mkM l_m l_z l_tp l_hs r24735 r24736 r24737 l_so l_sz l_kp) v) H := hP
      have hD : va_D A (wM cI b (mkM l_m l_z l_tp l_hs r24735 r24736 r24737 l_so l_sz l_kp) v) := hD
      have kr24734_0 := hr24734.2.2
      exact lp35 242 y11_s0 (3 : Int32) (0 : Int32) (((-1) : Int32)) (((-1) : Int32)) r24735 r24736 r24737 v _ _ ls (show Rg 0 1 x0 from rg_w g24733 (by decide) (by decide)) g11_s0 (by decide : Rg 2 3 (3 : Int32)) (by decide : Rg 0 4095 (0 : Int32)) (by decide : Rg (-1) 11 ((-1) : Int32)) (by decide : Rg (-1) 11 ((-1) : Int32)) hr24734.2.1 (show (l_to.toInt ≤ r24735.toInt ∧ r24735.toInt ≤ l_tp.toInt ∧ (¬ r24736.toInt = 0 → l_to.toInt < r24735.toInt ∨ ¬ l_tk.toInt = 0)) from by have y90 : ¬ x0.toInt = (0 : Int32).toInt := fun z => c24727 (Int32.toInt_inj.mp z); have y91 : Rg 1 1 x0 := g24733; have y92 : Rg 1 1 x0 := g24733; have y93 : Rg 41 93 y11_s0 := g11_s0; have y94 : Rg 0 12 l_m := p_m; have y95 : Rg 0 120 l_tp := p_tp; have y96 : Rg 0 120 r24735 := hr24734.2.1; have y9c7 : ((-1) : Int32).toInt = -1 := (by decide); have y9c8 : (0 : Int32).toInt = 0 := (by decide); have y9c9 : (1 : Int32).toInt = 1 := (by decide); have y9c10 : (3 : Int32).toInt = 3 := (by decide); omega) (by exact Or.inl rfl) hV hP hD hS (lv_sub (l' := [(0, .ref (b 0)), (1, .int x0), (2, .int y11_s0), (3, .int 3), (4, .int 0), (5, .int (-1)), (6, .int (-1))]) hl [5, 6, 4, 3, 2, 1, 0] rfl) (show (2 * (l_tp.toInt - r24735.toInt) + (if r24736.toInt = 0 then 0 else 1)) < _ from by have y90 : ¬ x0.toInt = (0 : Int32).toInt := fun z => c24727 (Int32.toInt_inj.mp z); have y91 : Rg 1 1 x0 := g24733; have y92 : Rg 1 1 x0 := g24733; have y93 : Rg 41 93 y11_s0 := g11_s0; have y94 : Rg 0 12 l_m := p_m; have y95 : Rg 0 120 l_tp := p_tp; have y96 : Rg 0 120 r24735 := hr24734.2.1; have y9c7 : ((-1) : Int32).toInt = -1 := (by decide); have y9c8 : (0 : Int32).toInt = 0 := (by decide); have y9c9 : (1 : Int32).toInt = 1 := (by decide); have y9c10 : (3 : Int32).toInt = 3 := (by decide); split <;> omega)
  refine lv_iload_n hx hb dX12_bracketsRead_0 rfl (lv_at hl 1 rfl) ?_
  refine lv_if_eq (tgt := 9) hx hb dX12_bracketsRead_1 (by decide) (fun c24738 => ?_) (fun c24738 => ?_)
  · have g24739 : Rg 0 0 x0 := wk_eql px0 (by decide : Rg 0 0 (0 : Int32)) c24738 (by decide)
    refine lv_bipush (v := 93) hx hb dX12_bracketsRead_9 (by decide) ?_
    exact ct11 (93 : Int32) v _ _ ls (show Rg 0 1 x0 from rg_w g24739 (by decide) (by decide)) (by decide : Rg 41 93 (93 : Int32)) p_to hV hP hD hS (lv_sub (l' := [(0, .ref (b 0)), (1, .int x0)]) hl [0, 1] rfl)
  · have g24740 : Rg 1 1 x0 := rg_ne_lo (k := 0) px0 (by decide) c24738 (by decide)
    refine lv_bipush (v := 41) hx hb dX12_bracketsRead_4 (by decide) ?_
    refine lv_goto (tgt := 11) hx hb dX12_bracketsRead_6 (by decide) ?_
    exact ct11 (41 : Int32) v _ _ ls (show Rg 0 1 x0 from rg_w g24740 (by decide) (by decide)) (by decide : Rg 41 93 (41 : Int32)) p_to hV hP hD hS (lv_sub (l' := [(0, .ref (b 0)), (1, .int x0)]) hl [0, 1] rfl)
set_option maxRecDepth 20000 in
theorem ggX12_isText_X12_bracketsRead : GoodIn wsX12_isText wsX12_bracketsRead := goodIn_r _ [22, 2, 23, 3, 4, 5, 6, 7, 1, 8, 9, 10, 11, 12, 13, 14, 15, 16, 17, 18, 24, 25, 26, 27, 28, 29, 30, 31, 32, 33, 34, 35, 36, 37, 38, 39, 40, 41, 42, 43, 44, 45, 46, 47, 52, 53, 54, 55, 56, 57, 58, 59, 60, 61, 62, 63, 64, 65, 66, 67, 68, 69, 70, 71, 72, 73, 74, 75] (by decide +kernel) (by decide +kernel)
set_option maxRecDepth 20000 in
theorem gX12_isText_X12_bracketsRead : GoodIn wsX12_isText (wsV RX12 197 RX12 yX12_bracketsRead wsX12_bracketsRead) := goodIn_app (goodIn_of _ (by decide +kernel)) ggX12_isText_X12_bracketsRead
theorem dX12_isText_18 : decode cX12_isText 18 = .ok (.aload_n 0, 1) := by decide +kernel
theorem dX12_isText_19 : decode cX12_isText 19 = .ok (.iconst 1, 1) := by decide +kernel
theorem dX12_isText_20 : decode cX12_isText 20 = .ok (.invokevirtual 197, 3) := by decide +kernel
theorem dX12_isText_23 : decode cX12_isText 23 = .ok (.ifCond .eq 33, 3) := by decide +kernel
theorem dX12_isText_26 : decode cX12_isText 26 = .ok (.goto 32, 3) := by decide +kernel
theorem dX12_isText_38 : decode cX12_isText 38 = .ok (.aload_n 0, 1) := by decide +kernel
theorem dX12_isText_39 : decode cX12_isText 39 = .ok (.iconst 0, 1) := by decide +kernel
theorem dX12_isText_40 : decode cX12_isText 40 = .ok (.invokevirtual 197, 3) := by decide +kernel
theorem dX12_isText_43 : decode cX12_isText 43 = .ok (.ifCond .eq 13, 3) := by decide +kernel
theorem dX12_isText_46 : decode cX12_isText 46 = .ok (.goto 12, 3) := by decide +kernel
theorem dX12_isText_58 : decode cX12_isText 58 = .ok (.aload_n 0, 1) := by decide +kernel
theorem dX12_isText_59 : decode cX12_isText 59 = .ok (.getfield 181, 3) := by decide +kernel
theorem dX12_isText_62 : decode cX12_isText 62 = .ok (.ifCond .ne 5, 3) := by decide +kernel
theorem dX12_isText_65 : decode cX12_isText 65 = .ok (.iconst 1, 1) := by decide +kernel
theorem dX12_isText_66 : decode cX12_isText 66 = .ok (.ireturn, 1) := by decide +kernel
theorem dX12_isText_67 : decode cX12_isText 67 = .ok (.aload_n 0, 1) := by decide +kernel
theorem dX12_isText_68 : decode cX12_isText 68 = .ok (.getfield 181, 3) := by decide +kernel
theorem dX12_isText_71 : decode cX12_isText 71 = .ok (.bipush 44, 2) := by decide +kernel
theorem dX12_isText_73 : decode cX12_isText 73 = .ok (.if_icmp .eq 5, 3) := by decide +kernel
theorem dX12_isText_76 : decode cX12_isText 76 = .ok (.iconst 0, 1) := by decide +kernel
theorem dX12_isText_77 : decode cX12_isText 77 = .ok (.ireturn, 1) := by decide +kernel
theorem dX12_isText_78 : decode cX12_isText 78 = .ok (.aload_n 0, 1) := by decide +kernel
theorem dX12_isText_79 : decode cX12_isText 79 = .ok (.invokevirtual 187, 3) := by decide +kernel
theorem dX12_isText_82 : decode cX12_isText 82 = .ok (.goto (-73), 3) := by decide +kernel
set_option maxHeartbeats 4000000 in
set_option maxRecDepth 100000 in
theorem w_X12_isText (l : Launch) (D : va_G) (cI cS : ClassId) (sz : Nat) (b : Nat → Nat) (l_m l_z l_tp l_hs l_to l_tk l_wo : Int32) (l_so l_sz l_kp : Nat → Int32) (v0 : SU) (hL : TyL (mkM l_m l_z l_tp l_hs l_to l_tk l_wo l_so l_sz l_kp)) (hV : TyV v0) : Met l yX12_isText wsX12_isText ({ frames := 5, cells := 0, slots := 0, locals := 200 }) (PQ D cI cS (wM cI b (mkM l_m l_z l_tp l_hs l_to l_tk l_wo l_so l_sz l_kp) v0) sz [.ref (b 0)]) (QF (S := Int32 × Int32 × Int32 × SU) D (wM cI b (mkM l_m l_z l_tp l_hs l_to l_tk l_wo l_so l_sz l_kp) v0) (fun q => wM cI b (mkM l_m l_z l_tp l_hs q.1 q.2.1 q.2.2.1 l_so l_sz l_kp) q.2.2.2) sz (fun r q => TyV q.2.2.2 ∧ Rg 0 1 r ∧ Rg 0 120 q.1 ∧ (True))) 0 0 (va_A (wM cI b (mkM l_m l_z l_tp l_hs l_to l_tk l_wo l_so l_sz l_kp) v0) sz) := by
  refine Met.ofW (cc := cX12_isText) (maxL := 1) (ret := (some .boolean)) (by decide) rfl ?_
  intro p e s m args below meth c s₁ B hml hv
  obtain ⟨rfl, hsz, hP, hKK, hD0⟩ := hv
  have hx := B.exec
  have hb := B.bytes
  have hr := B.returns
  have hts := atoms_spec (ws := wsX12_isText) B.pre
  have hown : s.vm.findClass RX12 = some m.cls := findClass_of_methodNamed B.named
  have hlocks := B.notSynchronized
  have hK := hKK.1
  have hin12 : ∀ w ∈ wsX120, w ∈ wsX12_isText := by decide +kernel
  subst hsz
  have hD := hD0.self (sz := s.heap.size)
  obtain ⟨A, hAe⟩ : ∃ A, A = va_A (wM cI b (mkM l_m l_z l_tp l_hs l_to l_tk l_wo l_so l_sz l_kp) v0) s.heap.size := ⟨_, rfl⟩
  rw [← hAe] at hD
  have hA : ∀ q : Nat, s.heap.size ≤ q → A q := fun q h => by rw [hAe]; exact Or.inr h
  have hS : va_S A s.heap s.heap [] := va_S.rf
  have hl := lv_entry ([.ref (b 0)]) (n := 1) (Nat.le_of_ble_eq_true rfl)
  rw [lg_entry_eq]
  generalize (lg_sl ([.ref (b 0)]) ++ List.replicate (1 - (lg_sl ([.ref (b 0)])).length) Slot.unset).toArray = ls at hl ⊢
  have hl : lv_has ls 1 [(0, .ref (b 0))] := hl
  obtain ⟨v, hv9⟩ : ∃ v : SU, v = v0 := ⟨_, rfl⟩
  rw [← hv9] at hP hD hV
  have p_m : Rg 0 12 l_m := hL.1
  have p_tp : Rg 0 120 l_tp := hL.2.1
  have p_so : Ar (-1) 1 l_so := hL.2.2.1
  have p_sz : Ar 0 40 l_sz := hL.2.2.2.1
  have p_kp : Kp l_kp := hL.2.2.2.2.1
  have p_to : Rg 0 120 l_to := hL.2.2.2.2.2
  have lp9 : ∀ (n9 : Nat) (y9_kto : Int32) (y9_ktk : Int32) (y9_kwo : Int32) (v : SU) (H : Heap) (locs : List Loc) (ls : Array Slot), Rg 0 120 y9_kto → (0 ≤ y9_kto.toInt ∧ y9_kto.toInt ≤ l_tp.toInt) → TyV v → va_P D cls (wM cI b (mkM l_m l_z l_tp l_hs y9_kto y9_ktk y9_kwo l_so l_sz l_kp) v) H → va_D A (wM cI b (mkM l_m l_z l_tp l_hs y9_kto y9_ktk y9_kwo l_so l_sz l_kp) v) → va_S A s.heap H locs → lv_has ls 1 [(0, .ref (b 0))] → (2 * (l_tp.toInt - y9_kto.toInt) + (if y9_ktk.toInt = 0 then 0 else 1)) < (n9 : Int) → W p l e (headSpec wsX12_isText ({ frames := 5, cells := 0, slots := 0, locals := 200 })).room s m ([.ref (b 0)]).toArray below meth c H locs 0 0 (MQ below (QF (S := Int32 × Int32 × Int32 × SU) D (wM cI b (mkM l_m l_z l_tp l_hs l_to l_tk l_wo l_so l_sz l_kp) v0) (fun q => wM cI b (mkM l_m l_z l_tp l_hs q.1 q.2.1 q.2.2.1 l_so l_sz l_kp) q.2.2.2) s.heap.size (fun r q => TyV q.2.2.2 ∧ Rg 0 1 r ∧ Rg 0 120 q.1 ∧ (True))) ([.ref (b 0)]).toArray s 0 0 (va_A (wM cI b (mkM l_m l_z l_tp l_hs l_to l_tk l_wo l_so l_sz l_kp) v0) s.heap.size)) (F0 m 9 ls []) := by
    intro n9
    induction n9 with
    | zero =>
      intro y9_kto y9_ktk y9_kwo v H locs ls g9_kto x9_0 hV hP hD hS hl hm9
      exact False.elim (by have z8 := hm9; have z7 := x9_0; revert z8; split <;> omega)
    | succ n9 ih9 =>
      intro y9_kto y9_ktk y9_kwo v H locs ls g9_kto x9_0 hV hP hD hS hl hm9
      have ct58 : ∀ (y58_kto : Int32) (y58_ktk : Int32) (y58_kwo : Int32) (v : SU) (H : Heap) (locs : List Loc) (ls : Array Slot), Rg 0 120 y58_kto → (0 ≤ y58_kto.toInt ∧ y58_kto.toInt ≤ l_tp.toInt) → TyV v → va_P D cls (wM cI b (mkM l_m l_z l_tp l_hs y58_kto y58_ktk y58_kwo l_so l_sz l_kp) v) H → va_D A (wM cI b (mkM l_m l_z l_tp l_hs y58_kto y58_ktk y58_kwo l_so l_sz l_kp) v) → va_S A s.heap H locs → lv_has ls 1 [(0, .ref (b 0))] → W p l e (headSpec wsX12_isText ({ frames := 5, cells := 0, slots := 0, locals := 200 })).room s m ([.ref (b 0)]).toArray below meth c H locs 0 0 (MQ below (QF (S := Int32 × Int32 × Int32 × SU) D (wM cI b (mkM l_m l_z l_tp l_hs l_to l_tk l_wo l_so l_sz l_kp) v0) (fun q => wM cI b (mkM l_m l_z l_tp l_hs q.1 q.2.1 q.2.2.1 l_so l_sz l_kp) q.2.2.2) s.heap.size (fun r q => TyV q.2.2.2 ∧ Rg 0 1 r ∧ Rg 0 120 q.1 ∧ (True))) ([.ref (b 0)]).toArray s 0 0 (va_A (wM cI b (mkM l_m l_z l_tp l_hs l_to l_tk l_wo l_so l_sz l_kp) v0) s.heap.size)) (F0 m 58 ls []) := by
        intro y58_kto y58_ktk y58_kwo v H locs ls g58_kto x58_0 hV hP hD hS hl
        refine lv_aload_n hx hb dX12_isText_58 rfl (lv_at hl 0 rfl) ?_
        refine va_get (D := D) (ci := 12) (v := .int y58_ktk) (C := RX12) (T := TX12) (N := 24) hx hb hts hin12 hown hK hP 0 rfl rfl 13 (by decide) (hts (.fieldLink RX12 181 "MissedPointsModel" "token" "I") (by decide +kernel)) (fun _ h9 => h9) rfl dX12_isText_59 ?_
        refine lv_if_ne (tgt := 67) hx hb dX12_isText_62 (by decide) (fun c24807 => ?_) (fun c24807 => ?_)
        · refine lv_aload_n hx hb dX12_isText_67 rfl (lv_at hl 0 rfl) ?_
          refine va_get (D := D) (ci := 12) (v := .int y58_ktk) (C := RX12) (T := TX12) (N := 24) hx hb hts hin12 hown hK hP 0 rfl rfl 13 (by decide) (hts (.fieldLink RX12 181 "MissedPointsModel" "token" "I") (by decide +kernel)) (fun _ h9 => h9) rfl dX12_isText_68 ?_
          refine lv_bipush (v := 44) hx hb dX12_isText_71 (by decide) ?_
          refine lv_icmp_eq (tgt := 78) hx hb dX12_isText_73 (by decide) (fun c24808 => ?_) (fun c24808 => ?_)
          · have g24809 : Rg 44 44 y58_ktk := wk_eql (rg_any y58_ktk) (by decide : Rg 44 44 (44 : Int32)) c24808 (by decide)
            refine lv_aload_n hx hb dX12_isText_78 rfl (lv_at hl 0 rfl) ?_
            refine wk_qv (S := Int32 × Int32 × Int32 × SU) (fun q => wM cI b (mkM l_m l_z l_tp l_hs q.1 q.2.1 q.2.2.1 l_so l_sz l_kp) q.2.2.2) (y58_kto, y58_ktk, y58_kwo, v) (As := []) (rest := []) ⟨hx, hb, hml, hown, hts⟩ (w_X12_goesOn l D cI cS _ b l_m l_z l_tp l_hs y58_kto y58_ktk y58_kwo l_so l_sz l_kp v (show TyL (mkM l_m l_z l_tp l_hs y58_kto y58_ktk y58_kwo l_so l_sz l_kp) from ⟨p_m, p_tp, p_so, p_sz, p_kp, g58_kto⟩) hV (by have y90 : ¬ y58_ktk.toInt = (0 : Int32).toInt := fun z => c24807 (Int32.toInt_inj.mp z); have y91 : y58_ktk.toInt = (44 : Int32).toInt := congrArg Int32.toInt c24808; have y92 : Rg 44 44 y58_ktk := g24809; have y93 : Rg 0 12 l_m := p_m; have y94 : Rg 0 120 l_tp := p_tp; have y95 : Rg 0 120 y58_kto := g58_kto; have y96 : Rg 44 44 y58_ktk := g24809; have y9c7 : (0 : Int32).toInt = 0 := (by decide); have y9c8 : (1 : Int32).toInt = 1 := (by decide); have y9c9 : (44 : Int32).toInt = 44 := (by decide); omega)) hKK hP hD hS hA 0 (ci := 12) rfl rfl (cwV 0 hts gX12_isText_X12_goesOn rfl rfl rfl (by decide +kernel) ⟨Nat.le_of_ble_eq_true rfl, Nat.le_of_ble_eq_true rfl⟩) rfl hl.1 rfl (Nat.le_of_ble_eq_true rfl) dX12_isText_79 ⟨Nat.le_of_ble_eq_true rfl, Nat.le_of_ble_eq_true rfl⟩ (fun q9 H locs hr24810 hP hD hS => ?_)
            obtain ⟨r24811, r24812, r24813, v⟩ := q9
            have hr24810 : TyV v ∧ Rg 0 120 r24811 ∧ (y58_kto.toInt ≤ r24811.toInt ∧ r24811.toInt ≤ l_tp.toInt ∧ (¬ r24812.toInt = 0 → y58_kto.toInt < r24811.toInt)) := hr24810
            have hV := hr24810.1
            have hP : va_P D cls (wM cI b (mkM l_m l_z l_tp l_hs r24811 r24812 r24813 l_so l_sz l_kp) v) H := hP
            have hD : va_D A (wM cI b (mkM l_m l_z l_tp l_hs r24811 r24812 r24813 l_so l_sz l_kp) v) := hD
            have kr24810_0 := hr24810.2.2
            refine lv_goto (tgt := 9) hx hb dX12_isText_82 (by decide) ?_
            exact ih9 r24811 r24812 r24813 v _ _ ls hr24810.2.1 (show (0 ≤ r24811.toInt ∧ r24811.toInt ≤ l_tp.toInt) from by have y90 : ¬ y58_ktk.toInt = (0 : Int32).toInt := fun z => c24807 (Int32.toInt_inj.mp z); have y91 : y58_ktk.toInt = (44 : Int32).toInt := congrArg Int32.toInt c24808; have y92 : Rg 44 44 y58_ktk := g24809; have y93 : Rg 0 12 l_m := p_m; have y94 : Rg 0 120 l_tp := p_tp; have y95 : Rg 0 120 r24811 := hr24810.2.1; have y9c6 : (0 : Int32).toInt = 0 := (by decide); have y9c7 : (1 : Int32).toInt = 1 := (by decide); have y9c8 : (44 : Int32).toInt = 44 := (by decide); omega) hV hP hD hS (lv_sub (l' := [(0, .ref (b 0))]) hl [0] rfl) (show (2 * (l_tp.toInt - r24811.toInt) + (if r24812.toInt = 0 then 0 else 1)) < _ from by have z8 := hm9; have y90 : ¬ y58_ktk.toInt = (0 : Int32).toInt := fun z => c24807 (Int32.toInt_inj.mp z); have y91 : y58_ktk.toInt = (44 : Int32).toInt := congrArg Int32.toInt c24808; have y92 : Rg 44 44 y58_ktk := g24809; have y93 : Rg 0 12 l_m := p_m; have y94 : Rg 0 120 l_tp := p_tp; have y95 : Rg 0 120 r24811 := hr24810.2.1; have y9c6 : (0 : Int32).toInt = 0 := (by decide); have y9c7 : (1 : Int32).toInt = 1 := (by decide); have y9c8 : (44 : Int32).toInt = 44 := (by decide); revert z8; split <;> split <;> omega)
          · refine lv_iconst (v := 0) hx hb dX12_isText_76 (by decide) ?_
            subst hAe
            exact W.zret (v := 0) hx hb hr (by decide) (fun t ht hW => ⟨⟨_, (y58_kto, y58_ktk, y58_kwo, v), rfl, ⟨hV, (by decide : Rg 0 1 (0 : Int32)), g58_kto, (show True from by have y90 : ¬ y58_ktk.toInt = (0 : Int32).toInt := fun z => c24807 (Int32.toInt_inj.mp z); have y91 : ¬ y58_ktk.toInt = (44 : Int32).toInt := fun z => c24808 (Int32.toInt_inj.mp z); have y92 : Rg 0 12 l_m := p_m; have y93 : Rg 0 120 l_tp := p_tp; have y94 : Rg 0 120 y58_kto := g58_kto; have y9c5 : (0 : Int32).toInt = 0 := (by decide); have y9c6 : (1 : Int32).toInt = 1 := (by decide); have y9c7 : (44 : Int32).toInt = 44 := (by decide); omega)⟩, by rw [ht]; exact hP, hD⟩, hS.F ht⟩) hS.2.2 dX12_isText_77
        · have g24814 : Rg 0 0 y58_ktk := wk_eql (rg_any y58_ktk) (by decide : Rg 0 0 (0 : Int32)) c24807 (by decide)
          refine lv_iconst (v := 1) hx hb dX12_isText_65 (by decide) ?_
          subst hAe
          exact W.zret (v := 1) hx hb hr (by decide) (fun t ht hW => ⟨⟨_, (y58_kto, y58_ktk, y58_kwo, v), rfl, ⟨hV, (by decide : Rg 0 1 (1 : Int32)), g58_kto, (show True from by have y90 : y58_ktk.toInt = (0 : Int32).toInt := congrArg Int32.toInt c24807; have y91 : Rg 0 0 y58_ktk := g24814; have y92 : Rg 0 12 l_m := p_m; have y93 : Rg 0 120 l_tp := p_tp; have y94 : Rg 0 120 y58_kto := g58_kto; have y95 : Rg 0 0 y58_ktk := g24814; have y9c6 : (0 : Int32).toInt = 0 := (by decide); have y9c7 : (1 : Int32).toInt = 1 := (by decide); omega)⟩, by rw [ht]; exact hP, hD⟩, hS.F ht⟩) hS.2.2 dX12_isText_66
      refine lv_aload_n hx hb dX12_isText_9 rfl (lv_at hl 0 rfl) ?_
      refine va_get (D := D) (ci := 12) (v := .int y9_ktk) (C := RX12) (T := TX12) (N := 24) hx hb hts hin12 hown hK hP 0 rfl rfl 13 (by decide) (hts (.fieldLink RX12 181 "MissedPointsModel" "token" "I") (by decide +kernel)) (fun _ h9 => h9) rfl dX12_isText_10 ?_
      refine lv_bipush (v := 40) hx hb dX12_isText_13 (by decide) ?_
      refine lv_icmp_ne (tgt := 29) hx hb dX12_isText_15 (by decide) (fun c24815 => ?_) (fun c24815 => ?_)
      · refine lv_aload_n hx hb dX12_isText_29 rfl (lv_at hl 0 rfl) ?_
        refine va_get (D := D) (ci := 12) (v := .int y9_ktk) (C := RX12) (T := TX12) (N := 24) hx hb hts hin12 hown hK hP 0 rfl rfl 13 (by decide) (hts (.fieldLink RX12 181 "MissedPointsModel" "token" "I") (by decide +kernel)) (fun _ h9 => h9) rfl dX12_isText_30 ?_
        refine lv_bipush (v := 91) hx hb dX12_isText_33 (by decide) ?_
        refine lv_icmp_ne (tgt := 49) hx hb dX12_isText_35 (by decide) (fun c24816 => ?_) (fun c24816 => ?_)
        · refine lv_aload_n hx hb dX12_isText_49 rfl (lv_at hl 0 rfl) ?_
          refine wk_qi (S := Int32 × Int32 × Int32 × SU) (fun q => wM cI b (mkM l_m l_z l_tp l_hs q.1 q.2.1 q.2.2.1 l_so l_sz l_kp) q.2.2.2) (y9_kto, y9_ktk, y9_kwo, v) (As := []) (rest := []) ⟨hx, hb, hml, hown, hts⟩ (w_X12_rowRead l D cI cS _ b l_m l_z l_tp l_hs y9_kto y9_ktk y9_kwo l_so l_sz l_kp v (show TyL (mkM l_m l_z l_tp l_hs y9_kto y9_ktk y9_kwo l_so l_sz l_kp) from ⟨p_m, p_tp, p_so, p_sz, p_kp, g9_kto⟩) hV (by have y90 : ¬ y9_ktk.toInt = (40 : Int32).toInt := fun z => c24815 (Int32.toInt_inj.mp z); have y91 : ¬ y9_ktk.toInt = (91 : Int32).toInt := fun z => c24816 (Int32.toInt_inj.mp z); have y92 : Rg 0 12 l_m := p_m; have y93 : Rg 0 120 l_tp := p_tp; have y94 : Rg 0 120 y9_kto := g9_kto; have y9c5 : (0 : Int32).toInt = 0 := (by decide); have y9c6 : (1 : Int32).toInt = 1 := (by decide); have y9c7 : (40 : Int32).toInt = 40 := (by decide); have y9c8 : (91 : Int32).toInt = 91 := (by decide); omega)) hKK hP hD hS hA 0 (ci := 12) rfl rfl (cwV 0 hts gX12_isText_X12_rowRead rfl rfl rfl (by decide +kernel) ⟨Nat.le_of_ble_eq_true rfl, Nat.le_of_ble_eq_true rfl⟩) rfl hl.1 rfl (Nat.le_of_ble_eq_true rfl) dX12_isText_50 ⟨Nat.le_of_ble_eq_true rfl, Nat.le_of_ble_eq_true rfl⟩ (fun r24817 q9 H locs hr24817 hP hD hS => ?_)
          obtain ⟨r24818, r24819, r24820, v⟩ := q9
          have hr24817 : TyV v ∧ Rg 0 1 r24817 ∧ Rg 0 120 r24818 ∧ (y9_kto.toInt ≤ r24818.toInt ∧ r24818.toInt ≤ l_tp.toInt ∧ (¬ r24819.toInt = 0 → y9_kto.toInt < r24818.toInt ∨ ¬ y9_ktk.toInt = 0)) := hr24817
          have hV := hr24817.1
          have hP : va_P D cls (wM cI b (mkM l_m l_z l_tp l_hs r24818 r24819 r24820 l_so l_sz l_kp) v) H := hP
          have hD : va_D A (wM cI b (mkM l_m l_z l_tp l_hs r24818 r24819 r24820 l_so l_sz l_kp) v) := hD
          have kr24817_0 := hr24817.2.2.2
          refine lv_if_ne (tgt := 58) hx hb dX12_isText_53 (by decide) (fun c24821 => ?_) (fun c24821 => ?_)
          · have g24822 : Rg 1 1 r24817 := rg_ne_lo (k := 0) hr24817.2.1 (by decide) c24821 (by decide)
            exact ct58 r24818 r24819 r24820 v _ _ ls hr24817.2.2.1 (show (0 ≤ r24818.toInt ∧ r24818.toInt ≤ l_tp.toInt) from by have y90 : ¬ y9_ktk.toInt = (40 : Int32).toInt := fun z => c24815 (Int32.toInt_inj.mp z); have y91 : ¬ y9_ktk.toInt = (91 : Int32).toInt := fun z => c24816 (Int32.toInt_inj.mp z); have y92 : ¬ r24817.toInt = (0 : Int32).toInt := fun z => c24821 (Int32.toInt_inj.mp z); have y93 : Rg 1 1 r24817 := g24822; have y94 : Rg 0 12 l_m := p_m; have y95 : Rg 0 120 l_tp := p_tp; have y96 : Rg 0 120 r24818 := hr24817.2.2.1; have y9c7 : (0 : Int32).toInt = 0 := (by decide); have y9c8 : (1 : Int32).toInt = 1 := (by decide); have y9c9 : (40 : Int32).toInt = 40 := (by decide); have y9c10 : (91 : Int32).toInt = 91 := (by decide); omega) hV hP hD hS (lv_sub (l' := [(0, .ref (b 0))]) hl [0] rfl)
          · have g24823 : Rg 0 0 r24817 := wk_eql hr24817.2.1 (by decide : Rg 0 0 (0 : Int32)) c24821 (by decide)
            refine lv_iconst (v := 0) hx hb dX12_isText_56 (by decide) ?_
            subst hAe
            exact W.zret (v := 0) hx hb hr (by decide) (fun t ht hW => ⟨⟨_, (r24818, r24819, r24820, v), rfl, ⟨hV, (by decide : Rg 0 1 (0 : Int32)), hr24817.2.2.1, (show True from by have y90 : ¬ y9_ktk.toInt = (40 : Int32).toInt := fun z => c24815 (Int32.toInt_inj.mp z); have y91 : ¬ y9_ktk.toInt = (91 : Int32).toInt := fun z => c24816 (Int32.toInt_inj.mp z); have y92 : r24817.toInt = (0 : Int32).toInt := congrArg Int32.toInt c24821; have y93 : Rg 0 0 r24817 := g24823; have y94 : Rg 0 12 l_m := p_m; have y95 : Rg 0 120 l_tp := p_tp; have y96 : Rg 0 120 r24818 := hr24817.2.2.1; have y9c7 : (0 : Int32).toInt = 0 := (by decide); have y9c8 : (1 : Int32).toInt = 1 := (by decide); have y9c9 : (40 : Int32).toInt = 40 := (by decide); have y9c10 : (91 : Int32).toInt = 91 := (by decide); omega)⟩, by rw [ht]; exact hP, hD⟩, hS.F ht⟩) hS.2.2 dX12_isText_57
        · have g24824 : Rg 91 91 y9_ktk := wk_eql (rg_any y9_ktk) (by decide : Rg 91 91 (91 : Int32)) c24816 (by decide)
          refine lv_aload_n hx hb dX12_isText_38 rfl (lv_at hl 0 rfl) ?_
          refine lv_iconst (v := 0) hx hb dX12_isText_39 (by decide) ?_
          refine wk_qi (S := Int32 × Int32 × Int32 × SU) (fun q => wM cI b (mkM l_m l_z l_tp l_hs q.1 q.2.1 q.2.2.1 l_so l_sz l_kp) q.2.2.2) (y9_kto, y9_ktk, y9_kwo, v) (As := [.int 0]) (rest := []) ⟨hx, hb, hml, hown, hts⟩ (w_X12_bracketsRead l D cI cS _ b l_m l_z l_tp l_hs y9_kto y9_ktk y9_kwo l_so l_sz l_kp v (show TyL (mkM l_m l_z l_tp l_hs y9_kto y9_ktk y9_kwo l_so l_sz l_kp) from ⟨p_m, p_tp, p_so, p_sz, p_kp, g9_kto⟩) hV (0 : Int32) (by decide : Rg 0 1 (0 : Int32)) (by have y90 : ¬ y9_ktk.toInt = (40 : Int32).toInt := fun z => c24815 (Int32.toInt_inj.mp z); have y91 : y9_ktk.toInt = (91 : Int32).toInt := congrArg Int32.toInt c24816; have y92 : Rg 91 91 y9_ktk := g24824; have y93 : Rg 0 12 l_m := p_m; have y94 : Rg 0 120 l_tp := p_tp; have y95 : Rg 0 120 y9_kto := g9_kto; have y96 : Rg 91 91 y9_ktk := g24824; have y9c7 : (0 : Int32).toInt = 0 := (by decide); have y9c8 : (1 : Int32).toInt = 1 := (by decide); have y9c9 : (40 : Int32).toInt = 40 := (by decide); have y9c10 : (91 : Int32).toInt = 91 := (by decide); omega)) hKK hP hD hS hA 0 (ci := 12) rfl rfl (cwV 1 hts gX12_isText_X12_bracketsRead rfl rfl rfl (by decide +kernel) ⟨Nat.le_of_ble_eq_true rfl, Nat.le_of_ble_eq_true rfl⟩) rfl hl.1 rfl (Nat.le_of_ble_eq_true rfl) dX12_isText_40 ⟨Nat.le_of_ble_eq_true rfl, Nat.le_of_ble_eq_true rfl⟩ (fun r24825 q9 H locs hr24825 hP hD hS => ?_)
          obtain ⟨r24826, r24827, r24828, v⟩ := q9
          have hr24825 : TyV v ∧ Rg 0 1 r24825 ∧ Rg 0 120 r24826 ∧ (y9_kto.toInt ≤ r24826.toInt ∧ r24826.toInt ≤ l_tp.toInt ∧ (¬ r24827.toInt = 0 → y9_kto.toInt < r24826.toInt ∨ ¬ y9_ktk.toInt = 0)) := hr24825
          have hV := hr24825.1
          have hP : va_P D cls (wM cI b (mkM l_m l_z l_tp l_hs r24826 r24827 r24828 l_so l_sz l_kp) v) H := hP
          have hD : va_D A (wM cI b (mkM l_m l_z l_tp l_hs r24826 r24827 r24828 l_so l_sz l_kp) v) := hD
          have kr24825_0 := hr24825.2.2.2
          refine lv_if_eq (tgt := 56) hx hb dX12_isText_43 (by decide) (fun c24829 => ?_) (fun c24829 => ?_)
          · have g24830 : Rg 0 0 r24825 := wk_eql hr24825.2.1 (by decide : Rg 0 0 (0 : Int32)) c24829 (by decide)
            refine lv_iconst (v := 0) hx hb dX12_isText_56 (by decide) ?_
            subst hAe
            exact W.zret (v := 0) hx hb hr (by decide) (fun t ht hW => ⟨⟨_, (r24826, r24827, r24828, v), rfl, ⟨hV, (by decide : Rg 0 1 (0 : Int32)), hr24825.2.2.1, (show True from by have y90 : ¬ y9_ktk.toInt = (40 : Int32).toInt := fun z => c24815 (Int32.toInt_inj.mp z); have y91 : y9_ktk.toInt = (91 : Int32).toInt := congrArg Int32.toInt c24816; have y92 : r24825.toInt = (0 : Int32).toInt := congrArg Int32.toInt c24829; have y93 : Rg 91 91 y9_ktk := g24824; have y94 : Rg 0 0 r24825 := g24830; have y95 : Rg 0 12 l_m := p_m; have y96 : Rg 0 120 l_tp := p_tp; have y97 : Rg 0 120 r24826 := hr24825.2.2.1; have y9c8 : (0 : Int32).toInt = 0 := (by decide); have y9c9 : (1 : Int32).toInt = 1 := (by decide); have y9c10 : (40 : Int32).toInt = 40 := (by decide); have y9c11 : (91 : Int32).toInt = 91 := (by decide); omega)⟩, by rw [ht]; exact hP, hD⟩, hS.F ht⟩) hS.2.2 dX12_isText_57
          · have g24831 : Rg 1 1 r24825 := rg_ne_lo (k := 0) hr24825.2.1 (by decide) c24829 (by decide)
            refine lv_goto (tgt := 58) hx hb dX12_isText_46 (by decide) ?_
            exact ct58 r24826 r24827 r24828 v _ _ ls hr24825.2.2.1 (show (0 ≤ r24826.toInt ∧ r24826.toInt ≤ l_tp.toInt) from by have y90 : ¬ y9_ktk.toInt = (40 : Int32).toInt := fun z => c24815 (Int32.toInt_inj.mp z); have y91 : y9_ktk.toInt = (91 : Int32).toInt := congrArg Int32.toInt c24816; have y92 : ¬ r24825.toInt = (0 : Int32).toInt := fun z => c24829 (Int32.toInt_inj.mp z); have y93 : Rg 91 91 y9_ktk := g24824; have y94 : Rg 1 1 r24825 := g24831; have y95 : Rg 0 12 l_m := p_m; have y96 : Rg 0 120 l_tp := p_tp; have y97 : Rg 0 120 r24826 := hr24825.2.2.1; have y9c8 : (0 : Int32).toInt = 0 := (by decide); have y9c9 : (1 : Int32).toInt = 1 := (by decide); have y9c10 : (40 : Int32).toInt = 40 := (by decide); have y9c11 : (91 : Int32).toInt = 91 := (by decide); omega) hV hP hD hS (lv_sub (l' := [(0, .ref (b 0))]) hl [0] rfl)
      · have g24832 : Rg 40 40 y9_ktk := wk_eql (rg_any y9_ktk) (by decide : Rg 40 40 (40 : Int32)) c24815 (by decide)
        refine lv_aload_n hx hb dX12_isText_18 rfl (lv_at hl 0 rfl) ?_
        refine lv_iconst (v := 1) hx hb dX12_isText_19 (by decide) ?_
        refine wk_qi (S := Int32 × Int32 × Int32 × SU) (fun q => wM cI b (mkM l_m l_z l_tp l_hs q.1 q.2.1 q.2.2.1 l_so l_sz l_kp) q.2.2.2) (y9_kto, y9_ktk, y9_kwo, v) (As := [.int 1]) (rest := []) ⟨hx, hb, hml, hown, hts⟩ (w_X12_bracketsRead l D cI cS _ b l_m l_z l_tp l_hs y9_kto y9_ktk y9_kwo l_so l_sz l_kp v (show TyL (mkM l_m l_z l_tp l_hs y9_kto y9_ktk y9_kwo l_so l_sz l_kp) from ⟨p_m, p_tp, p_so, p_sz, p_kp, g9_kto⟩) hV (1 : Int32) (by decide : Rg 0 1 (1 : Int32)) (by have y90 : y9_ktk.toInt = (40 : Int32).toInt := congrArg Int32.toInt c24815; have y91 : Rg 40 40 y9_ktk := g24832; have y92 : Rg 0 12 l_m := p_m; have y93 : Rg 0 120 l_tp := p_tp; have y94 : Rg 0 120 y9_kto := g9_kto; have y95 : Rg 40 40 y9_ktk := g24832; have y9c6 : (0 : Int32).toInt = 0 := (by decide); have y9c7 : (1 : Int32).toInt = 1 := (by decide); have y9c8 : (40 : Int32).toInt = 40 := (by decide); omega)) hKK hP hD hS hA 0 (ci := 12) rfl rfl (cwV 1 hts gX12_isText_X12_bracketsRead rfl rfl rfl (by decide +kernel) ⟨Nat.le_of_ble_eq_true rfl, Nat.le_of_ble_eq_true rfl⟩) rfl hl.1 rfl (Nat.le_of_ble_eq_true rfl) dX12_isText_20 ⟨Nat.le_of_ble_eq_true rfl, Nat.le_of_ble_eq_true rfl⟩ (fun r24833 q9 H locs hr24833 hP hD hS => ?_)
        obtain ⟨r24834, r24835, r24836, v⟩ := q9
        have hr24833 : TyV v ∧ Rg 0 1 r24833 ∧ Rg 0 120 r24834 ∧ (y9_kto.toInt ≤ r24834.toInt ∧ r24834.toInt ≤ l_tp.toInt ∧ (¬ r24835.toInt = 0 → y9_kto.toInt < r24834.toInt ∨ ¬ y9_ktk.toInt = 0)) := hr24833
        have hV := hr24833.1
        have hP : va_P D cls (wM cI b (mkM l_m l_z l_tp l_hs r24834 r24835 r24836 l_so l_sz l_kp) v) H := hP
        have hD : va_D A (wM cI b (mkM l_m l_z l_tp l_hs r24834 r24835 r24836 l_so l_sz l_kp) v) := hD
        have kr24833_0 := hr24833.2.2.2
        refine lv_if_eq (tgt := 56) hx hb dX12_isText_23 (by decide) (fun c24837 => ?_) (fun c24837 => ?_)
        · have g24838 : Rg 0 0 r24833 := wk_eql hr24833.2.1 (by decide : Rg 0 0 (0 : Int32)) c24837 (by decide)
          refine lv_iconst (v := 0) hx hb dX12_isText_56 (by decide) ?_
          subst hAe
          exact W.zret (v := 0) hx hb hr (by decide) (fun t ht hW => ⟨⟨_, (r24834, r24835, r24836, v), rfl, ⟨hV, (by decide : Rg 0 1 (0 : Int32)), hr24833.2.2.1, (show True from by have y90 : y9_ktk.toInt = (40 : Int32).toInt := congrArg Int32.toInt c24815; have y91 : r24833.toInt = (0 : Int32).toInt := congrArg Int32.toInt c24837; have y92 : Rg 40 40 y9_ktk := g24832; have y93 : Rg 0 0 r24833 := g24838; have y94 : Rg 0 12 l_m := p_m; have y95 : Rg 0 120 l_tp := p_tp; have y96 : Rg 0 120 r24834 := hr24833.2.2.1; have y9c7 : (0 : Int32).toInt = 0 := (by decide); have y9c8 : (1 : Int32).toInt = 1 := (by decide); have y9c9 : (40 : Int32).toInt = 40 := (by decide); omega)⟩, by rw [ht]; exact hP, hD⟩, hS.F ht⟩) hS.2.2 dX12_isText_57
        · have g24839 : Rg 1 1 r24833 := rg_ne_lo (k := 0) hr24833.2.1 (by decide) c24837 (by decide)
          refine lv_goto (tgt := 58) hx hb dX12_isText_26 (by decide) ?_
          exact ct58 r24834 r24835 r24836 v _ _ ls hr24833.2.2.1 (show (0 ≤ r24834.toInt ∧ r24834.toInt ≤ l_tp.toInt) from by have y90 : y9_ktk.toInt = (40 : Int32).toInt := congrArg Int32.toInt c24815; have y91 : ¬ r24833.toInt = (0 : Int32).toInt := fun z => c24837 (Int32.toInt_inj.mp z); have y92 : Rg 40 40 y9_ktk := g24832; have y93 : Rg 1 1 r24833 := g24839; have y94 : Rg 0 12 l_m := p_m; have y95 : Rg 0 120 l_tp := p_tp; have y96 : Rg 0 120 r24834 := hr24833.2.2.1; have y9c7 : (0 : Int32).toInt = 0 := (by decide); have y9c8 : (1 : Int32).toInt = 1 := (by decide); have y9c9 : (40 : Int32).toInt = 40 := (by decide); omega) hV hP hD hS (lv_sub (l' := [(0, .ref (b 0))]) hl [0] rfl)
  refine lv_aload_n hx hb dX12_isText_0 rfl (lv_at hl 0 rfl) ?_
  refine lv_iconst (v := 0) hx hb dX12_isText_1 (by decide) ?_
  refine va_put (D := D) (ci := 12) (v := .int 0) (ty := .int) (C := RX12) (T := TX12) (N := 24) hx hb hts hin12 tyX12 tyX12_ok nmX12 hown hK hP hD hS 0 rfl rfl 12 (by decide) (hts (.fieldLink RX12 169 "MissedPointsModel" "to" "I") (by decide +kernel)) (fun _ h9 => h9) rfl (by decide +kernel) rfl rfl (Nat.le_of_ble_eq_true rfl) dX12_isText_2 (fun H locs hP hD hS => ?_)
  have hP : va_P D cls (wM cI b (mkM l_m l_z l_tp l_hs (0 : Int32) l_tk l_wo l_so l_sz l_kp) v) H := hP
  have hD : va_D A (wM cI b (mkM l_m l_z l_tp l_hs (0 : Int32) l_tk l_wo l_so l_sz l_kp) v) := hD
  refine lv_aload_n hx hb dX12_isText_5 rfl (lv_at hl 0 rfl) ?_
  refine wk_qv (S := Int32 × Int32 × Int32 × SU) (fun q => wM cI b (mkM l_m l_z l_tp l_hs q.1 q.2.1 q.2.2.1 l_so l_sz l_kp) q.2.2.2) ((0 : Int32), l_tk, l_wo, v) (As := []) (rest := []) ⟨hx, hb, hml, hown, hts⟩ (w_X12_goesOn l D cI cS _ b l_m l_z l_tp l_hs (0 : Int32) l_tk l_wo l_so l_sz l_kp v (show TyL (mkM l_m l_z l_tp l_hs (0 : Int32) l_tk l_wo l_so l_sz l_kp) from ⟨p_m, p_tp, p_so, p_sz, p_kp, (by decide : Rg 0 120 (0 : Int32))⟩) hV (by have y90 : Rg 0 12 l_m := p_m; have y91 : Rg 0 120 l_tp := p_tp; have y9c2 : (0 : Int32).toInt = 0 := (by decide); have y9c3 : (1 : Int32).toInt = 1 := (by decide); omega)) hKK hP hD hS hA 0 (ci := 12) rfl rfl (cwV 0 hts gX12_isText_X12_goesOn rfl rfl rfl (by decide +kernel) ⟨Nat.le_of_ble_eq_true rfl, Nat.le_of_ble_eq_true rfl⟩) rfl hl.1 rfl (Nat.le_of_ble_eq_true rfl) dX12_isText_6 ⟨Nat.le_of_ble_eq_true rfl, Nat.le_of_ble_eq_true rfl⟩ (fun q9 H locs hr24840 hP hD hS => ?_)
  obtain ⟨r24841, r24842, r24843, v⟩ := q9
  have hr24840 : TyV v ∧ Rg 0 120 r24841 ∧ ((0 : Int32).toInt ≤ r24841.toInt ∧ r24841.toInt ≤ l_tp.toInt ∧ (¬ r24842.toInt = 0 → (0 : Int32).toInt < r24841.toInt)) := hr24840
  have hV := hr24840.1
  have hP : va_P D cls (wM cI b (mkM l_m l_z l_tp l_hs r24841 r24842 r24843 l_so l_sz l_kp) v) H := hP
  have hD : va_D A (wM cI b (mkM l_m l_z l_tp l_hs r24841 r24842 r24843 l_so l_sz l_kp) v) := hD
  have kr24840_0 := hr24840.2.2
  exact lp9 242 r24841 r24842 r24843 v _ _ ls hr24840.2.1 (show (0 ≤ r24841.toInt ∧ r24841.toInt ≤ l_tp.toInt) from by have y90 : Rg 0 12 l_m := p_m; have y91 : Rg 0 120 l_tp := p_tp; have y92 : Rg 0 120 r24841 := hr24840.2.1; have y9c3 : (0 : Int32).toInt = 0 := (by decide); have y9c4 : (1 : Int32).toInt = 1 := (by decide); omega) hV hP hD hS (lv_sub (l' := [(0, .ref (b 0))]) hl [0] rfl) (show (2 * (l_tp.toInt - r24841.toInt) + (if r24842.toInt = 0 then 0 else 1)) < _ from by have y90 : Rg 0 12 l_m := p_m; have y91 : Rg 0 120 l_tp := p_tp; have y92 : Rg 0 120 r24841 := hr24840.2.1; have y9c3 : (0 : Int32).toInt = 0 := (by decide); have y9c4 : (1 : Int32).toInt = 1 := (by decide); split <;> omega)
theorem dX12_text_24 : decode cX12_text 24 = .ok (.aload_n 0, 1) := by decide +kernel
theorem dX12_text_25 : decode cX12_text 25 = .ok (.getfield 184, 3) := by decide +kernel
theorem dX12_text_28 : decode cX12_text 28 = .ok (.ireturn, 1) := by decide +kernel
set_option maxHeartbeats 4000000 in
set_option maxRecDepth 100000 in
theorem w_X12_text (l : Launch) (D : va_G) (cI cS : ClassId) (sz : Nat) (b : Nat → Nat) (l_m l_z l_tp l_hs l_to l_tk l_wo : Int32) (l_so l_sz l_kp : Nat → Int32) (v0 : SU) (hL : TyL (mkM l_m l_z l_tp l_hs l_to l_tk l_wo l_so l_sz l_kp)) (hV : TyV v0) : Met l yX12_text wsX12_text ({ frames := 6, cells := 0, slots := 0, locals := 240 }) (PQ D cI cS (wM cI b (mkM l_m l_z l_tp l_hs l_to l_tk l_wo l_so l_sz l_kp) v0) sz [.ref (b 0)]) (QF (S := Int32 × Int32 × Int32 × Int32 × Int32 × Int32 × (Nat → Int32) × SU) D (wM cI b (mkM l_m l_z l_tp l_hs l_to l_tk l_wo l_so l_sz l_kp) v0) (fun q => wM cI b (mkM q.1 q.2.1 q.2.2.1 l_hs q.2.2.2.1 q.2.2.2.2.1 q.2.2.2.2.2.1 l_so l_sz q.2.2.2.2.2.2.1) q.2.2.2.2.2.2.2) sz (fun r q => TyV q.2.2.2.2.2.2.2 ∧ Rg (-2147483648) 2147483647 r ∧ Rg 0 12 q.1 ∧ Rg 0 0 q.2.2.1 ∧ Rg 0 120 q.2.2.2.1 ∧ Kp q.2.2.2.2.2.2.1 ∧ (q.1.toInt = l_m.toInt ∧ q.2.1.toInt = l_z.toInt ∧ (q.2.2.2.2.2.2.1 0).toInt = (l_kp 0).toInt ∧ (q.2.2.2.2.2.2.1 1).toInt = (l_kp 1).toInt ∧ q.2.2.1.toInt = 0))) 0 0 (va_A (wM cI b (mkM l_m l_z l_tp l_hs l_to l_tk l_wo l_so l_sz l_kp) v0) sz) := by
  refine Met.ofW (cc := cX12_text) (maxL := 2) (ret := (some .int)) (by decide) rfl ?_
  intro p e s m args below meth c s₁ B hml hv
  obtain ⟨rfl, hsz, hP, hKK, hD0⟩ := hv
  have hx := B.exec
  have hb := B.bytes
  have hr := B.returns
  have hts := atoms_spec (ws := wsX12_text) B.pre
  have hown : s.vm.findClass RX12 = some m.cls := findClass_of_methodNamed B.named
  have hlocks := B.notSynchronized
  have hK := hKK.1
  have hin12 : ∀ w ∈ wsX120, w ∈ wsX12_text := by decide +kernel
  subst hsz
  have hD := hD0.self (sz := s.heap.size)
  obtain ⟨A, hAe⟩ : ∃ A, A = va_A (wM cI b (mkM l_m l_z l_tp l_hs l_to l_tk l_wo l_so l_sz l_kp) v0) s.heap.size := ⟨_, rfl⟩
  rw [← hAe] at hD
  have hA : ∀ q : Nat, s.heap.size ≤ q → A q := fun q h => by rw [hAe]; exact Or.inr h
  have hS : va_S A s.heap s.heap [] := va_S.rf
  have hl := lv_entry ([.ref (b 0)]) (n := 2) (Nat.le_of_ble_eq_true rfl)
  rw [lg_entry_eq]
  generalize (lg_sl ([.ref (b 0)]) ++ List.replicate (2 - (lg_sl ([.ref (b 0)])).length) Slot.unset).toArray = ls at hl ⊢
  have hl : lv_has ls 2 [(0, .ref (b 0))] := hl
  obtain ⟨v, hv9⟩ : ∃ v : SU, v = v0 := ⟨_, rfl⟩
  rw [← hv9] at hP hD hV
  have p_m : Rg 0 12 l_m := hL.1
  have p_tp : Rg 0 120 l_tp := hL.2.1
  have p_so : Ar (-1) 1 l_so := hL.2.2.1
  have p_sz : Ar 0 40 l_sz := hL.2.2.2.1
  have p_kp : Kp l_kp := hL.2.2.2.2.1
  have p_to : Rg 0 120 l_to := hL.2.2.2.2.2
  refine lv_aload_n hx hb dX12_text_0 rfl (lv_at hl 0 rfl) ?_
  refine lv_iconst (v := 1) hx hb dX12_text_1 (by decide) ?_
  refine wk_qv (S := (Nat → Int32) × SU) (fun q => wM cI b (mkM l_m l_z l_tp l_hs l_to l_tk l_wo l_so l_sz q.1) q.2) (l_kp, v) (As := [.int 1]) (rest := []) ⟨hx, hb, hml, hown, hts⟩ (w_X12_keeps_1 l D cI cS _ b l_m l_z l_tp l_hs l_to l_tk l_wo l_so l_sz l_kp v (show TyL (mkM l_m l_z l_tp l_hs l_to l_tk l_wo l_so l_sz l_kp) from ⟨p_m, p_tp, p_so, p_sz, p_kp, p_to⟩) hV) hKK hP hD hS hA 0 (ci := 12) rfl rfl (cwV 1 hts gX12_text_X12_keeps rfl rfl rfl (by decide +kernel) ⟨Nat.le_of_ble_eq_true rfl, Nat.le_of_ble_eq_true rfl⟩) rfl hl.1 rfl (Nat.le_of_ble_eq_true rfl) dX12_text_2 ⟨Nat.le_of_ble_eq_true rfl, Nat.le_of_ble_eq_true rfl⟩ (fun q9 H locs hr24860 hP hD hS => ?_)
  obtain ⟨f24861, v⟩ := q9
  have hr24860 : TyV v ∧ Kp f24861 ∧ ((f24861 14).toInt = l_m.toInt ∧ (f24861 15).toInt = l_z.toInt ∧ (f24861 0).toInt = (l_kp 0).toInt ∧ (f24861 1).toInt = (l_kp 1).toInt) := hr24860
  have hV := hr24860.1
  have hP : va_P D cls (wM cI b (mkM l_m l_z l_tp l_hs l_to l_tk l_wo l_so l_sz f24861) v) H := hP
  have hD : va_D A (wM cI b (mkM l_m l_z l_tp l_hs l_to l_tk l_wo l_so l_sz f24861) v) := hD
  have kr24860_0 := hr24860.2.2
  refine lv_aload_n hx hb dX12_text_5 rfl (lv_at hl 0 rfl) ?_
  refine lv_iconst (v := 0) hx hb dX12_text_6 (by decide) ?_
  refine mp_15 hx hb hts hin12 hown hK hP hD hS hV (hts (.fieldLink RX12 184 "MissedPointsModel" "news" "I") (by decide +kernel)) dX12_text_7 (fun v H locs hV ev24862 hP hD hS => ?_)
  refine lv_aload_n hx hb dX12_text_10 rfl (lv_at hl 0 rfl) ?_
  refine wk_qi (S := Int32 × Int32 × Int32 × SU) (fun q => wM cI b (mkM l_m l_z l_tp l_hs q.1 q.2.1 q.2.2.1 l_so l_sz f24861) q.2.2.2) (l_to, l_tk, l_wo, v) (As := []) (rest := []) ⟨hx, hb, hml, hown, hts⟩ (w_X12_isText l D cI cS _ b l_m l_z l_tp l_hs l_to l_tk l_wo l_so l_sz f24861 v (show TyL (mkM l_m l_z l_tp l_hs l_to l_tk l_wo l_so l_sz f24861) from ⟨p_m, p_tp, p_so, p_sz, hr24860.2.1, p_to⟩) hV) hKK hP hD hS hA 0 (ci := 12) rfl rfl (cwV 0 hts gX12_text_X12_isText rfl rfl rfl (by decide +kernel) ⟨Nat.le_of_ble_eq_true rfl, Nat.le_of_ble_eq_true rfl⟩) rfl hl.1 rfl (Nat.le_of_ble_eq_true rfl) dX12_text_11 ⟨Nat.le_of_ble_eq_true rfl, Nat.le_of_ble_eq_true rfl⟩ (fun r24863 q9 H locs hr24863 hP hD hS => ?_)
  obtain ⟨r24864, r24865, r24866, v⟩ := q9
  have hr24863 : TyV v ∧ Rg 0 1 r24863 ∧ Rg 0 120 r24864 ∧ (True) := hr24863
  have hV := hr24863.1
  have hP : va_P D cls (wM cI b (mkM l_m l_z l_tp l_hs r24864 r24865 r24866 l_so l_sz f24861) v) H := hP
  have hD : va_D A (wM cI b (mkM l_m l_z l_tp l_hs r24864 r24865 r24866 l_so l_sz f24861) v) := hD
  have kr24863_0 := hr24863.2.2.2
  refine lv_istore_n (lv' := [(1, .int r24863), (0, .ref (b 0))]) hx hb dX12_text_14 rfl hl (by decide) rfl (fun ls hl => ?_)
  refine lv_aload_n hx hb dX12_text_15 rfl (lv_at hl 1 rfl) ?_
  refine lv_iconst (v := 0) hx hb dX12_text_16 (by decide) ?_
  refine va_put (D := D) (ci := 12) (v := .int 0) (ty := .int) (C := RX12) (T := TX12) (N := 24) hx hb hts hin12 tyX12 tyX12_ok nmX12 hown hK hP hD hS 0 rfl rfl 10 (by decide) (hts (.fieldLink RX12 101 "MissedPointsModel" "taped" "I") (by decide +kernel)) (fun _ h9 => h9) rfl (by decide +kernel) rfl rfl (Nat.le_of_ble_eq_true rfl) dX12_text_17 (fun H locs hP hD hS => ?_)
  have hP : va_P D cls (wM cI b (mkM l_m l_z (0 : Int32) l_hs r24864 r24865 r24866 l_so l_sz f24861) v) H := hP
  have hD : va_D A (wM cI b (mkM l_m l_z (0 : Int32) l_hs r24864 r24865 r24866 l_so l_sz f24861) v) := hD
  refine lv_iload_n hx hb dX12_text_20 rfl (lv_at hl 0 rfl) ?_
  refine lv_if_eq (tgt := 29) hx hb dX12_text_21 (by decide) (fun c24867 => ?_) (fun c24867 => ?_)
  · have g24868 : Rg 0 0 r24863 := wk_eql hr24863.2.1 (by decide : Rg 0 0 (0 : Int32)) c24867 (by decide)
    refine lv_aload_n hx hb dX12_text_29 rfl (lv_at hl 1 rfl) ?_
    refine lv_iconst (v := 1) hx hb dX12_text_30 (by decide) ?_
    refine wk_qv (S := Int32 × Int32 × SU) (fun q => wM cI b (mkM q.1 q.2.1 (0 : Int32) l_hs r24864 r24865 r24866 l_so l_sz f24861) q.2.2) (l_m, l_z, v) (As := [.int 1]) (rest := []) ⟨hx, hb, hml, hown, hts⟩ (w_X12_putsBack_1 l D cI cS _ b l_m l_z (0 : Int32) l_hs r24864 r24865 r24866 l_so l_sz f24861 v (show TyL (mkM l_m l_z (0 : Int32) l_hs r24864 r24865 r24866 l_so l_sz f24861) from ⟨p_m, (by decide : Rg 0 120 (0 : Int32)), p_so, p_sz, hr24860.2.1, hr24863.2.2.1⟩) hV) hKK hP hD hS hA 0 (ci := 12) rfl rfl (cwV 1 hts gX12_text_X12_putsBack rfl rfl rfl (by decide +kernel) ⟨Nat.le_of_ble_eq_true rfl, Nat.le_of_ble_eq_true rfl⟩) rfl hl.1 rfl (Nat.le_of_ble_eq_true rfl) dX12_text_31 ⟨Nat.le_of_ble_eq_true rfl, Nat.le_of_ble_eq_true rfl⟩ (fun q9 H locs hr24869 hP hD hS => ?_)
    obtain ⟨r24870, r24871, v⟩ := q9
    have hr24869 : TyV v ∧ Rg 0 12 r24870 ∧ (r24870.toInt = (f24861 14).toInt ∧ r24871.toInt = (f24861 15).toInt) := hr24869
    have hV := hr24869.1
    have hP : va_P D cls (wM cI b (mkM r24870 r24871 (0 : Int32) l_hs r24864 r24865 r24866 l_so l_sz f24861) v) H := hP
    have hD : va_D A (wM cI b (mkM r24870 r24871 (0 : Int32) l_hs r24864 r24865 r24866 l_so l_sz f24861) v) := hD
    have kr24869_0 := hr24869.2.2
    refine lv_bipush (v := (-100)) hx hb dX12_text_34 (by decide) ?_
    refine lv_aload_n hx hb dX12_text_36 rfl (lv_at hl 1 rfl) ?_
    refine va_get (D := D) (ci := 12) (v := .int (v 0 11)) (C := RX12) (T := TX12) (N := 24) hx hb hts hin12 hown hK hP 0 rfl rfl 11 (by decide) (hts (.fieldLink RX12 175 "MissedPointsModel" "from" "I") (by decide +kernel)) (fun _ h9 => h9) rfl dX12_text_37 ?_
    refine wk_topP (P := fun r => r = v 0 11) rfl (fun r24872 hr24872 => ?_)
    refine lv_isub hx hb dX12_text_40 ?_
    refine wk_topP (P := fun r => r = ((-100) : Int32) - r24872) rfl (fun r24873 qr24873 => ?_)
    subst hAe
    exact W.iret (v := r24873) hx hb hr (fun t ht hW => ⟨⟨_, (r24870, r24871, (0 : Int32), r24864, r24865, r24866, f24861, v), rfl, ⟨hV, (rg_any r24873), hr24869.2.1, (by decide : Rg 0 0 (0 : Int32)), hr24863.2.2.1, hr24860.2.1, (show r24870.toInt = l_m.toInt ∧ r24871.toInt = l_z.toInt ∧ (f24861 0).toInt = (l_kp 0).toInt ∧ (f24861 1).toInt = (l_kp 1).toInt ∧ (0 : Int32).toInt = 0 from by have y90 : r24863.toInt = (0 : Int32).toInt := congrArg Int32.toInt c24867; have y91 : Rg 0 0 r24863 := g24868; have y92 : Rg 0 0 r24863 := g24868; have y93 : Rg 0 12 r24870 := hr24869.2.1; have y94 : Rg 0 120 r24864 := hr24863.2.2.1; have y9c5 : ((-100) : Int32).toInt = -100 := (by decide); have y9c6 : (0 : Int32).toInt = 0 := (by decide); have y9c7 : (1 : Int32).toInt = 1 := (by decide); omega)⟩, by rw [ht]; exact hP, hD⟩, hS.F ht⟩) hS.2.2 dX12_text_41
  · have g24874 : Rg 1 1 r24863 := rg_ne_lo (k := 0) hr24863.2.1 (by decide) c24867 (by decide)
    refine lv_aload_n hx hb dX12_text_24 rfl (lv_at hl 1 rfl) ?_
    refine va_get (D := D) (ci := 12) (v := .int (v 0 15)) (C := RX12) (T := TX12) (N := 24) hx hb hts hin12 hown hK hP 0 rfl rfl 15 (by decide) (hts (.fieldLink RX12 184 "MissedPointsModel" "news" "I") (by decide +kernel)) (fun _ h9 => h9) rfl dX12_text_25 ?_
    refine wk_topP (P := fun r => r = v 0 15) rfl (fun r24875 hr24875 => ?_)
    subst hAe
    exact W.iret (v := r24875) hx hb hr (fun t ht hW => ⟨⟨_, (l_m, l_z, (0 : Int32), r24864, r24865, r24866, f24861, v), rfl, ⟨hV, (rg_any r24875), p_m, (by decide : Rg 0 0 (0 : Int32)), hr24863.2.2.1, hr24860.2.1, (show l_m.toInt = l_m.toInt ∧ l_z.toInt = l_z.toInt ∧ (f24861 0).toInt = (l_kp 0).toInt ∧ (f24861 1).toInt = (l_kp 1).toInt ∧ (0 : Int32).toInt = 0 from by have y90 : ¬ r24863.toInt = (0 : Int32).toInt := fun z => c24867 (Int32.toInt_inj.mp z); have y91 : Rg 1 1 r24863 := g24874; have y92 : Rg 1 1 r24863 := g24874; have y93 : Rg 0 12 l_m := p_m; have y94 : Rg 0 120 r24864 := hr24863.2.2.1; have y9c5 : (0 : Int32).toInt = 0 := (by decide); have y9c6 : (1 : Int32).toInt = 1 := (by decide); omega)⟩, by rw [ht]; exact hP, hD⟩, hS.F ht⟩) hS.2.2 dX12_text_28
set_option maxRecDepth 20000 in
theorem ggX12_goes_X12_has : GoodIn wsX12_goes wsX12_has := goodIn_r _ [8] (by decide +kernel) (by decide +kernel)
set_option maxRecDepth 20000 in
theorem gX12_goes_X12_has : GoodIn wsX12_goes (va_wsS RX12 59 yX12_has wsX12_has) := goodIn_app (goodIn_of _ (by decide +kernel)) ggX12_goes_X12_has
set_option maxRecDepth 20000 in
theorem ggX12_goes_X12_goes : GoodIn wsX12_goes wsX12_goes := goodIn_r _ [0, 1, 2, 3, 4, 5, 6, 7, 8, 9, 10, 11, 12, 13, 14, 15, 16, 17, 18, 19, 20, 21, 22, 23, 24, 25, 26, 27, 28, 29, 30, 31, 32, 33, 34, 35] (by decide +kernel) (by decide +kernel)
set_option maxRecDepth 20000 in
theorem gX12_goes_X12_goes : GoodIn wsX12_goes (wsV RX12 163 RX12 yX12_goes wsX12_goes) := goodIn_app (goodIn_of _ (by decide +kernel)) ggX12_goes_X12_goes
theorem dX12_goes_0 : decode cX12_goes 0 = .ok (.aload_n 0, 1) := by decide +kernel
theorem dX12_goes_1 : decode cX12_goes 1 = .ok (.getfield 29, 3) := by decide +kernel
theorem dX12_goes_11 : decode cX12_goes 11 = .ok (.iload 5, 2) := by decide +kernel
theorem dX12_goes_13 : decode cX12_goes 13 = .ok (.aload_n 0, 1) := by decide +kernel
theorem dX12_goes_14 : decode cX12_goes 14 = .ok (.getfield 63, 3) := by decide +kernel
theorem dX12_goes_153 : decode cX12_goes 153 = .ok (.iinc 5 1, 3) := by decide +kernel
theorem dX12_goes_156 : decode cX12_goes 156 = .ok (.goto (-145), 3) := by decide +kernel
theorem dX12_goes_159 : decode cX12_goes 159 = .ok (.iconst 0, 1) := by decide +kernel
theorem dX12_goes_160 : decode cX12_goes 160 = .ok (.ireturn, 1) := by decide +kernel
theorem dX12_goes_17 : decode cX12_goes 17 = .ok (.if_icmp .ge 142, 3) := by decide +kernel
theorem dX12_goes_20 : decode cX12_goes 20 = .ok (.aload_n 0, 1) := by decide +kernel
theorem dX12_goes_21 : decode cX12_goes 21 = .ok (.getfield 13, 3) := by decide +kernel
theorem dX12_goes_24 : decode cX12_goes 24 = .ok (.iload 4, 2) := by decide +kernel
theorem dX12_goes_26 : decode cX12_goes 26 = .ok (.iaload, 1) := by decide +kernel
theorem dX12_goes_27 : decode cX12_goes 27 = .ok (.iload_n 2, 1) := by decide +kernel
theorem dX12_goes_28 : decode cX12_goes 28 = .ok (.iconst (-1), 1) := by decide +kernel
theorem dX12_goes_29 : decode cX12_goes 29 = .ok (.ixor, 1) := by decide +kernel
theorem dX12_goes_30 : decode cX12_goes 30 = .ok (.iand, 1) := by decide +kernel
theorem dX12_goes_31 : decode cX12_goes 31 = .ok (.iload 5, 2) := by decide +kernel
theorem dX12_goes_33 : decode cX12_goes 33 = .ok (.invokestatic 59, 3) := by decide +kernel
theorem dX12_goes_36 : decode cX12_goes 36 = .ok (.ifCond .eq 117, 3) := by decide +kernel
theorem dX12_goes_39 : decode cX12_goes 39 = .ok (.aload_n 0, 1) := by decide +kernel
theorem dX12_goes_4 : decode cX12_goes 4 = .ok (.iload_n 1, 1) := by decide +kernel
theorem dX12_goes_40 : decode cX12_goes 40 = .ok (.getfield 26, 3) := by decide +kernel
theorem dX12_goes_43 : decode cX12_goes 43 = .ok (.iload 4, 2) := by decide +kernel
theorem dX12_goes_45 : decode cX12_goes 45 = .ok (.iaload, 1) := by decide +kernel
theorem dX12_goes_46 : decode cX12_goes 46 = .ok (.iload 5, 2) := by decide +kernel
theorem dX12_goes_48 : decode cX12_goes 48 = .ok (.if_icmp .ne 6, 3) := by decide +kernel
theorem dX12_goes_5 : decode cX12_goes 5 = .ok (.iaload, 1) := by decide +kernel
theorem dX12_goes_51 : decode cX12_goes 51 = .ok (.goto 102, 3) := by decide +kernel
theorem dX12_goes_54 : decode cX12_goes 54 = .ok (.aload_n 0, 1) := by decide +kernel
theorem dX12_goes_55 : decode cX12_goes 55 = .ok (.getfield 29, 3) := by decide +kernel
theorem dX12_goes_58 : decode cX12_goes 58 = .ok (.iload_n 1, 1) := by decide +kernel
theorem dX12_goes_59 : decode cX12_goes 59 = .ok (.iconst 1, 1) := by decide +kernel
theorem dX12_goes_6 : decode cX12_goes 6 = .ok (.istore 4, 2) := by decide +kernel
theorem dX12_goes_60 : decode cX12_goes 60 = .ok (.iadd, 1) := by decide +kernel
theorem dX12_goes_61 : decode cX12_goes 61 = .ok (.iload 5, 2) := by decide +kernel
theorem dX12_goes_63 : decode cX12_goes 63 = .ok (.iastore, 1) := by decide +kernel
theorem dX12_goes_64 : decode cX12_goes 64 = .ok (.iload_n 1, 1) := by decide +kernel
theorem dX12_goes_65 : decode cX12_goes 65 = .ok (.iconst 2, 1) := by decide +kernel
theorem dX12_goes_66 : decode cX12_goes 66 = .ok (.iadd, 1) := by decide +kernel
theorem dX12_goes_67 : decode cX12_goes 67 = .ok (.iload_n 3, 1) := by decide +kernel
theorem dX12_goes_68 : decode cX12_goes 68 = .ok (.if_icmp .ne 16, 3) := by decide +kernel
theorem dX12_goes_71 : decode cX12_goes 71 = .ok (.aload_n 0, 1) := by decide +kernel
theorem dX12_goes_72 : decode cX12_goes 72 = .ok (.getfield 26, 3) := by decide +kernel
theorem dX12_goes_75 : decode cX12_goes 75 = .ok (.iload 5, 2) := by decide +kernel
theorem dX12_goes_77 : decode cX12_goes 77 = .ok (.iaload, 1) := by decide +kernel
theorem dX12_goes_78 : decode cX12_goes 78 = .ok (.iconst (-1), 1) := by decide +kernel
theorem dX12_goes_79 : decode cX12_goes 79 = .ok (.if_icmp .ne 74, 3) := by decide +kernel
theorem dX12_goes_8 : decode cX12_goes 8 = .ok (.iconst 0, 1) := by decide +kernel
theorem dX12_goes_82 : decode cX12_goes 82 = .ok (.iconst 1, 1) := by decide +kernel
theorem dX12_goes_83 : decode cX12_goes 83 = .ok (.ireturn, 1) := by decide +kernel
theorem dX12_goes_84 : decode cX12_goes 84 = .ok (.aload_n 0, 1) := by decide +kernel
theorem dX12_goes_9 : decode cX12_goes 9 = .ok (.istore 5, 2) := by decide +kernel
theorem dX12_goes_100 : decode cX12_goes 100 = .ok (.iload 5, 2) := by decide +kernel
theorem dX12_goes_102 : decode cX12_goes 102 = .ok (.iaload, 1) := by decide +kernel
theorem dX12_goes_103 : decode cX12_goes 103 = .ok (.invokestatic 59, 3) := by decide +kernel
theorem dX12_goes_106 : decode cX12_goes 106 = .ok (.ifCond .ne 47, 3) := by decide +kernel
theorem dX12_goes_109 : decode cX12_goes 109 = .ok (.aload_n 0, 1) := by decide +kernel
theorem dX12_goes_110 : decode cX12_goes 110 = .ok (.getfield 29, 3) := by decide +kernel
theorem dX12_goes_113 : decode cX12_goes 113 = .ok (.iload_n 1, 1) := by decide +kernel
theorem dX12_goes_114 : decode cX12_goes 114 = .ok (.iconst 2, 1) := by decide +kernel
theorem dX12_goes_115 : decode cX12_goes 115 = .ok (.iadd, 1) := by decide +kernel
theorem dX12_goes_116 : decode cX12_goes 116 = .ok (.aload_n 0, 1) := by decide +kernel
theorem dX12_goes_117 : decode cX12_goes 117 = .ok (.getfield 26, 3) := by decide +kernel
theorem dX12_goes_120 : decode cX12_goes 120 = .ok (.iload 5, 2) := by decide +kernel
theorem dX12_goes_122 : decode cX12_goes 122 = .ok (.iaload, 1) := by decide +kernel
theorem dX12_goes_123 : decode cX12_goes 123 = .ok (.iastore, 1) := by decide +kernel
theorem dX12_goes_124 : decode cX12_goes 124 = .ok (.aload_n 0, 1) := by decide +kernel
theorem dX12_goes_125 : decode cX12_goes 125 = .ok (.iload_n 1, 1) := by decide +kernel
theorem dX12_goes_126 : decode cX12_goes 126 = .ok (.iconst 2, 1) := by decide +kernel
theorem dX12_goes_127 : decode cX12_goes 127 = .ok (.iadd, 1) := by decide +kernel
theorem dX12_goes_128 : decode cX12_goes 128 = .ok (.iload_n 2, 1) := by decide +kernel
theorem dX12_goes_129 : decode cX12_goes 129 = .ok (.iconst 1, 1) := by decide +kernel
theorem dX12_goes_130 : decode cX12_goes 130 = .ok (.iload 5, 2) := by decide +kernel
theorem dX12_goes_132 : decode cX12_goes 132 = .ok (.ishl, 1) := by decide +kernel
theorem dX12_goes_133 : decode cX12_goes 133 = .ok (.ior, 1) := by decide +kernel
theorem dX12_goes_134 : decode cX12_goes 134 = .ok (.iconst 1, 1) := by decide +kernel
theorem dX12_goes_135 : decode cX12_goes 135 = .ok (.aload_n 0, 1) := by decide +kernel
theorem dX12_goes_136 : decode cX12_goes 136 = .ok (.getfield 26, 3) := by decide +kernel
theorem dX12_goes_139 : decode cX12_goes 139 = .ok (.iload 5, 2) := by decide +kernel
theorem dX12_goes_141 : decode cX12_goes 141 = .ok (.iaload, 1) := by decide +kernel
theorem dX12_goes_142 : decode cX12_goes 142 = .ok (.ishl, 1) := by decide +kernel
theorem dX12_goes_143 : decode cX12_goes 143 = .ok (.ior, 1) := by decide +kernel
theorem dX12_goes_144 : decode cX12_goes 144 = .ok (.iload_n 3, 1) := by decide +kernel
theorem dX12_goes_145 : decode cX12_goes 145 = .ok (.invokevirtual 163, 3) := by decide +kernel
theorem dX12_goes_148 : decode cX12_goes 148 = .ok (.ifCond .eq 5, 3) := by decide +kernel
theorem dX12_goes_151 : decode cX12_goes 151 = .ok (.iconst 1, 1) := by decide +kernel
theorem dX12_goes_152 : decode cX12_goes 152 = .ok (.ireturn, 1) := by decide +kernel
theorem dX12_goes_85 : decode cX12_goes 85 = .ok (.getfield 26, 3) := by decide +kernel
theorem dX12_goes_88 : decode cX12_goes 88 = .ok (.iload 5, 2) := by decide +kernel
theorem dX12_goes_90 : decode cX12_goes 90 = .ok (.iaload, 1) := by decide +kernel
theorem dX12_goes_91 : decode cX12_goes 91 = .ok (.iconst (-1), 1) := by decide +kernel
theorem dX12_goes_92 : decode cX12_goes 92 = .ok (.if_icmp .eq 61, 3) := by decide +kernel
theorem dX12_goes_95 : decode cX12_goes 95 = .ok (.iload_n 2, 1) := by decide +kernel
theorem dX12_goes_96 : decode cX12_goes 96 = .ok (.aload_n 0, 1) := by decide +kernel
theorem dX12_goes_97 : decode cX12_goes 97 = .ok (.getfield 26, 3) := by decide +kernel
set_option maxHeartbeats 8000000 in
set_option maxRecDepth 100000 in
theorem w_X12_goes_r (l : Launch) (D : va_G) (cI cS : ClassId) (b : Nat → Nat) (L : SU) (hL : TyL L) : ∀ (n sz : Nat) (v0 : SU) (hV : TyV v0) (x0 x1 x2 : Int32), Rg 0 10 x0 → Rg 2 12 x2 → (x2.toInt - x0.toInt) % 2 = 0 → x0.toInt + 2 ≤ x2.toInt → x2.toInt - x0.toInt ≤ 2 * (n : Int) + 2 → Met l yX12_goes wsX12_goes ({ frames := n + 1, cells := 0, slots := 0, locals := 40 * (n + 1) }) (PQ D cI cS (wM cI b L v0) sz [.ref (b 0), .int x0, .int x1, .int x2]) (QF (S := SU) D (wM cI b L v0) (wM cI b L) sz (fun r u => TyV u ∧ Rg 0 1 r ∧ True)) 0 0 (va_A (wM cI b L v0) sz) := by
  intro n
  induction n with
  | zero =>
    intro sz v0 hV x0 x1 x2 px0 px2 hpar hle hrk
    refine Met.ofW (cc := cX12_goes) (maxL := 6) (ret := (some .boolean)) (by decide) rfl ?_
    intro p e s m args below meth c s₁ B hml hv
    obtain ⟨rfl, hsz, hP, hKK, hD0⟩ := hv
    have hx := B.exec
    have hb := B.bytes
    have hr := B.returns
    have hts := atoms_spec (ws := wsX12_goes) B.pre
    have hown : s.vm.findClass RX12 = some m.cls := findClass_of_methodNamed B.named
    have hlocks := B.notSynchronized
    have hK := hKK.1
    have hin12 : ∀ w ∈ wsX120, w ∈ wsX12_goes := by decide +kernel
    subst hsz
    have hD := hD0.self (sz := s.heap.size)
    obtain ⟨A, hAe⟩ : ∃ A, A = va_A (wM cI b L v0) s.heap.size := ⟨_, rfl⟩
    rw [← hAe] at hD
    have hA : ∀ q : Nat, s.heap.size ≤ q → A q := fun q h => by rw [hAe]; exact Or.inr h
    have hS : va_S A s.heap s.heap [] := va_S.rf
    have hl := lv_entry ([.ref (b 0), .int x0, .int x1, .int x2]) (n := 6) (Nat.le_of_ble_eq_true rfl)
    rw [lg_entry_eq]
    generalize (lg_sl ([.ref (b 0), .int x0, .int x1, .int x2]) ++ List.replicate (6 - (lg_sl ([.ref (b 0), .int x0, .int x1, .int x2])).length) Slot.unset).toArray = ls at hl ⊢
    have hl : lv_has ls 6 [(0, .ref (b 0)), (1, .int x0), (2, .int x1), (3, .int x2)] := hl
    obtain ⟨v, hv9⟩ : ∃ v : SU, v = v0 := ⟨_, rfl⟩
    rw [← hv9] at hP hD hV
    have lp11 : ∀ (n11 : Nat) (y11_l4 : Int32) (y11_l5 : Int32) (v : SU) (H : Heap) (locs : List Loc) (ls : Array Slot), Rg 0 10 x0 → Rg 2 12 x2 → Rg 0 11 y11_l4 → Rg 0 12 y11_l5 → TyV v → va_P D cls (wM cI b L v) H → va_D A (wM cI b L v) → va_S A s.heap H locs → lv_has ls 6 [(0, .ref (b 0)), (1, .int x0), (2, .int x1), (3, .int x2), (4, .int y11_l4), (5, .int y11_l5)] → 12 - y11_l5.toInt < (n11 : Int) → W p l e (headSpec wsX12_goes ({ frames := 0 + 1, cells := 0, slots := 0, locals := 40 * (0 + 1) })).room s m ([.ref (b 0), .int x0, .int x1, .int x2]).toArray below meth c H locs 0 0 (MQ below (QF (S := SU) D (wM cI b L v0) (wM cI b L) s.heap.size (fun r u => TyV u ∧ Rg 0 1 r ∧ True)) ([.ref (b 0), .int x0, .int x1, .int x2]).toArray s 0 0 (va_A (wM cI b L v0) s.heap.size)) (F0 m 11 ls []) := by
      intro n11
      induction n11 with
      | zero =>
        intro y11_l4 y11_l5 v H locs ls g11_l1 g11_l3 g11_l4 g11_l5 hV hP hD hS hl hm11
        exact absurd rfl (me_z g11_l5 hm11)
      | succ n11 ih11 =>
        intro y11_l4 y11_l5 v H locs ls g11_l1 g11_l3 g11_l4 g11_l5 hV hP hD hS hl hm11
        refine lv_iload hx hb dX12_goes_11 (lv_at hl 5 rfl) ?_
        refine lv_aload_n hx hb dX12_goes_13 rfl (lv_at hl 0 rfl) ?_
        refine va_get (D := D) (ci := 12) (v := .int (L 0 0)) (C := RX12) (T := TX12) (N := 24) hx hb hts hin12 hown hK hP 0 rfl rfl 0 (by decide) (hts (.fieldLink RX12 63 "MissedPointsModel" "many" "I") (by decide +kernel)) (fun _ h9 => h9) rfl dX12_goes_14 ?_
        refine lv_icmp_ge (tgt := 159) hx hb dX12_goes_17 (by decide) (fun c25087 => ?_) (fun c25087 => ?_)
        · refine lv_iconst (v := 0) hx hb dX12_goes_159 (by decide) ?_
          subst hAe
          exact W.zret (v := 0) hx hb hr (by decide) (fun t ht hW => ⟨⟨_, v, rfl, ⟨hV, (by decide : Rg 0 1 (0 : Int32)), trivial⟩, by rw [ht]; exact hP, hD⟩, hS.F ht⟩) hS.2.2 dX12_goes_160
        · have g25088 : Rg 1 12 (L 0 0) := rg_ltr g11_l5 hL.1 (rg_nle c25087) (by decide)
          have g25089 : Rg 0 11 y11_l5 := rg_ltl g11_l5 hL.1 (rg_nle c25087) (by decide)
          refine lv_aload_n hx hb dX12_goes_20 rfl (lv_at hl 0 rfl) ?_
          refine va_get (D := D) (ci := 12) (v := .ref (b 1)) (C := RX12) (T := TX12) (N := 24) hx hb hts hin12 hown hK hP 0 rfl rfl 2 (by decide) (hts (.fieldLink RX12 13 "MissedPointsModel" "near" "[I") (by decide +kernel)) (fun _ h9 => h9) rfl dX12_goes_21 ?_
          refine lv_iload hx hb dX12_goes_24 (lv_at hl 4 rfl) ?_
          refine wk_ald hx hb hK hP 1 0 rfl rfl (rg_in g11_l4 (by decide) (by decide)) dX12_goes_26 hV.1 (fun r25090 hr25090 => ?_)
          refine lv_iload_n hx hb dX12_goes_27 rfl (lv_at hl 2 rfl) ?_
          refine lv_iconst (v := (-1)) hx hb dX12_goes_28 (by decide) ?_
          refine lv_ixor hx hb dX12_goes_29 ?_
          refine wk_topP (P := fun r => r = x1 ^^^ ((-1) : Int32)) rfl (fun r25091 qr25091 => ?_)
          refine wk_iandl hx hb dX12_goes_30 hr25090 (by decide) (fun r25092 hr25092 qr25092 => ?_)
          refine lv_iload hx hb dX12_goes_31 (lv_at hl 5 rfl) ?_
          refine lz_ss (As := [.int r25092, .int y11_l5]) (rest := []) ⟨hx, hb, hml, hown, hts⟩ (w_X12_has l D cI cS r25092 y11_l5) hKK (hP.sub (ws' := []) [] rfl) (va_cwS 2 hts gX12_goes_X12_has rfl rfl rfl (by decide +kernel) ⟨by show 0 + 1 ≤ 0 + 1; omega, by show 8 + (2 + 11) + 0 ≤ 40 * (0 + 1); omega⟩) rfl hl.1 rfl (Nat.le_of_ble_eq_true rfl) dX12_goes_33 ⟨Nat.le_of_ble_eq_true rfl, Nat.le_of_ble_eq_true rfl⟩ (fun r25093 hr25093 => ?_)
          refine lv_if_eq (tgt := 153) hx hb dX12_goes_36 (by decide) (fun c25094 => ?_) (fun c25094 => ?_)
          · have g25095 : Rg 0 0 r25093 := wk_eql hr25093.1 (by decide : Rg 0 0 (0 : Int32)) c25094 (by decide)
            refine wk_iinc (lv' := fun r => [(5, .int r), (0, .ref (b 0)), (1, .int x0), (2, .int x1), (3, .int x2), (4, .int y11_l4)]) (e1 := 1) (f := 12) hx hb dX12_goes_153 hl (k := 5) rfl (by decide) g25089 (by decide) (fun _ => rfl) (fun r25096 ls hr25096 er25096 hl => ?_)
            refine lv_goto (tgt := 11) hx hb dX12_goes_156 (by decide) ?_
            exact ih11 y11_l4 r25096 v _ _ ls g11_l1 g11_l3 g11_l4 (show Rg 0 12 r25096 from rg_w hr25096 (by decide) (by decide)) hV hP hD hS (lv_sub (l' := [(0, .ref (b 0)), (1, .int x0), (2, .int x1), (3, .int x2), (4, .int y11_l4), (5, .int r25096)]) hl [1, 2, 3, 4, 5, 0] rfl) (me_up hm11 er25096 (by decide))
          · have g25097 : Rg 1 1 r25093 := rg_ne_lo (k := 0) hr25093.1 (by decide) c25094 (by decide)
            refine lv_aload_n hx hb dX12_goes_39 rfl (lv_at hl 0 rfl) ?_
            refine va_get (D := D) (ci := 12) (v := .ref (b 5)) (C := RX12) (T := TX12) (N := 24) hx hb hts hin12 hown hK hP 0 rfl rfl 6 (by decide) (hts (.fieldLink RX12 26 "MissedPointsModel" "mates" "[I") (by decide +kernel)) (fun _ h9 => h9) rfl dX12_goes_40 ?_
            refine lv_iload hx hb dX12_goes_43 (lv_at hl 4 rfl) ?_
            refine va_iald hx hb hK hP 5 0 rfl rfl (rg_in g11_l4 (by decide) (by decide)) dX12_goes_45 ?_
            refine lz_top (y := (v 5 y11_l4.toNatClampNeg)) rfl ?_
            refine lv_iload hx hb dX12_goes_46 (lv_at hl 5 rfl) ?_
            refine lv_icmp_ne (tgt := 54) hx hb dX12_goes_48 (by decide) (fun c25099 => ?_) (fun c25099 => ?_)
            · refine lv_aload_n hx hb dX12_goes_54 rfl (lv_at hl 0 rfl) ?_
              refine va_get (D := D) (ci := 12) (v := .ref (b 6)) (C := RX12) (T := TX12) (N := 24) hx hb hts hin12 hown hK hP 0 rfl rfl 7 (by decide) (hts (.fieldLink RX12 29 "MissedPointsModel" "way" "[I") (by decide +kernel)) (fun _ h9 => h9) rfl dX12_goes_55 ?_
              refine lv_iload_n hx hb dX12_goes_58 rfl (lv_at hl 1 rfl) ?_
              refine lv_iconst (v := 1) hx hb dX12_goes_59 (by decide) ?_
              refine wk_iadd (e1 := 1) (f := 11) hx hb dX12_goes_60 g11_l1 (by decide : Rg 1 1 (1 : Int32)) (by decide) (fun r25100 hr25100 er25100 qr25100 => ?_)
              refine lv_iload hx hb dX12_goes_61 (lv_at hl 5 rfl) ?_
              refine ms_6 hx hb hK hP hD hS hV rfl (rg_in hr25100 (by decide) (by decide)) g25089 dX12_goes_63 (fun v H locs hV ev25101 hP hD hS => ?_)
              refine lv_iload_n hx hb dX12_goes_64 rfl (lv_at hl 1 rfl) ?_
              refine lv_iconst (v := 2) hx hb dX12_goes_65 (by decide) ?_
              refine wk_iadd (e1 := 2) (f := 12) hx hb dX12_goes_66 g11_l1 (by decide : Rg 2 2 (2 : Int32)) (by decide) (fun r25102 hr25102 er25102 qr25102 => ?_)
              refine lv_iload_n hx hb dX12_goes_67 rfl (lv_at hl 3 rfl) ?_
              refine lv_icmp_ne (tgt := 84) hx hb dX12_goes_68 (by decide) (fun c25103 => ?_) (fun c25103 => ?_)
              · exact False.elim (by have y90 : y11_l5.toInt < (L 0 0).toInt := (lz_lt _ _).mp (rg_nle c25087); have y91 : ¬ r25093.toInt = (0 : Int32).toInt := fun z => c25094 (Int32.toInt_inj.mp z); have y92 : ¬ (v 5 y11_l4.toNatClampNeg).toInt = y11_l5.toInt := fun z => c25099 (Int32.toInt_inj.mp z); have y93 : ¬ r25102.toInt = x2.toInt := fun z => c25103 (Int32.toInt_inj.mp z); have y94 : Rg 1 12 (L 0 0) := g25088; have y95 : Rg 0 11 y11_l5 := g25089; have y96 : Rg 1 1 r25093 := g25097; have y97 : Rg 0 10 x0 := g11_l1; have y98 : Rg 2 12 x2 := g11_l3; have y99 : Rg 0 11 y11_l4 := g11_l4; have y910 : Rg 0 11 y11_l5 := g25089; have y9c11 : (0 : Int32).toInt = 0 := (by decide); have y9c12 : (1 : Int32).toInt = 1 := (by decide); have y9c13 : (2 : Int32).toInt = 2 := (by decide); omega)
              · refine lv_aload_n hx hb dX12_goes_71 rfl (lv_at hl 0 rfl) ?_
                refine va_get (D := D) (ci := 12) (v := .ref (b 5)) (C := RX12) (T := TX12) (N := 24) hx hb hts hin12 hown hK hP 0 rfl rfl 6 (by decide) (hts (.fieldLink RX12 26 "MissedPointsModel" "mates" "[I") (by decide +kernel)) (fun _ h9 => h9) rfl dX12_goes_72 ?_
                refine lv_iload hx hb dX12_goes_75 (lv_at hl 5 rfl) ?_
                refine va_iald hx hb hK hP 5 0 rfl rfl (rg_in g25089 (by decide) (by decide)) dX12_goes_77 ?_
                refine lz_top (y := (v 5 y11_l5.toNatClampNeg)) rfl ?_
                refine lv_iconst (v := (-1)) hx hb dX12_goes_78 (by decide) ?_
                refine lv_icmp_ne (tgt := 153) hx hb dX12_goes_79 (by decide) (fun c25105 => ?_) (fun c25105 => ?_)
                · have g25106 : Rg 0 11 (v 5 y11_l5.toNatClampNeg) := rg_ne_lo (k := (-1)) (hV.2.2.1 y11_l5.toNatClampNeg) (by decide) c25105 (by decide)
                  refine wk_iinc (lv' := fun r => [(5, .int r), (0, .ref (b 0)), (1, .int x0), (2, .int x1), (3, .int x2), (4, .int y11_l4)]) (e1 := 1) (f := 12) hx hb dX12_goes_153 hl (k := 5) rfl (by decide) g25089 (by decide) (fun _ => rfl) (fun r25107 ls hr25107 er25107 hl => ?_)
                  refine lv_goto (tgt := 11) hx hb dX12_goes_156 (by decide) ?_
                  exact ih11 y11_l4 r25107 v _ _ ls g11_l1 g11_l3 g11_l4 (show Rg 0 12 r25107 from rg_w hr25107 (by decide) (by decide)) hV hP hD hS (lv_sub (l' := [(0, .ref (b 0)), (1, .int x0), (2, .int x1), (3, .int x2), (4, .int y11_l4), (5, .int r25107)]) hl [1, 2, 3, 4, 5, 0] rfl) (me_up hm11 er25107 (by decide))
                · have g25108 : Rg (-1) (-1) (v 5 y11_l5.toNatClampNeg) := wk_eql (hV.2.2.1 y11_l5.toNatClampNeg) (by decide : Rg (-1) (-1) ((-1) : Int32)) c25105 (by decide)
                  refine lv_iconst (v := 1) hx hb dX12_goes_82 (by decide) ?_
                  subst hAe
                  exact W.zret (v := 1) hx hb hr (by decide) (fun t ht hW => ⟨⟨_, v, rfl, ⟨hV, (by decide : Rg 0 1 (1 : Int32)), trivial⟩, by rw [ht]; exact hP, hD⟩, hS.F ht⟩) hS.2.2 dX12_goes_83
            · have g25109 : Rg 0 11 (v 5 y11_l4.toNatClampNeg) := wk_eql (hV.2.2.1 y11_l4.toNatClampNeg) g25089 c25099 (by decide)
              refine lv_goto (tgt := 153) hx hb dX12_goes_51 (by decide) ?_
              refine wk_iinc (lv' := fun r => [(5, .int r), (0, .ref (b 0)), (1, .int x0), (2, .int x1), (3, .int x2), (4, .int y11_l4)]) (e1 := 1) (f := 12) hx hb dX12_goes_153 hl (k := 5) rfl (by decide) g25089 (by decide) (fun _ => rfl) (fun r25110 ls hr25110 er25110 hl => ?_)
              refine lv_goto (tgt := 11) hx hb dX12_goes_156 (by decide) ?_
              exact ih11 y11_l4 r25110 v _ _ ls g11_l1 g11_l3 g11_l4 (show Rg 0 12 r25110 from rg_w hr25110 (by decide) (by decide)) hV hP hD hS (lv_sub (l' := [(0, .ref (b 0)), (1, .int x0), (2, .int x1), (3, .int x2), (4, .int y11_l4), (5, .int r25110)]) hl [1, 2, 3, 4, 5, 0] rfl) (me_up hm11 er25110 (by decide))
    refine lv_aload_n hx hb dX12_goes_0 rfl (lv_at hl 0 rfl) ?_
    refine va_get (D := D) (ci := 12) (v := .ref (b 6)) (C := RX12) (T := TX12) (N := 24) hx hb hts hin12 hown hK hP 0 rfl rfl 7 (by decide) (hts (.fieldLink RX12 29 "MissedPointsModel" "way" "[I") (by decide +kernel)) (fun _ h9 => h9) rfl dX12_goes_1 ?_
    refine lv_iload_n hx hb dX12_goes_4 rfl (lv_at hl 1 rfl) ?_
    refine wk_ald hx hb hK hP 6 0 rfl rfl (rg_in px0 (by decide) (by decide)) dX12_goes_5 hV.2.2.2.1 (fun r25111 hr25111 => ?_)
    refine lv_istore (lv' := [(4, .int r25111), (0, .ref (b 0)), (1, .int x0), (2, .int x1), (3, .int x2)]) hx hb dX12_goes_6 hl (by decide) rfl (fun ls hl => ?_)
    refine lv_iconst (v := 0) hx hb dX12_goes_8 (by decide) ?_
    refine lv_istore (lv' := [(5, .int 0), (4, .int r25111), (0, .ref (b 0)), (1, .int x0), (2, .int x1), (3, .int x2)]) hx hb dX12_goes_9 hl (by decide) rfl (fun ls hl => ?_)
    exact lp11 13 r25111 (0 : Int32) v _ _ ls px0 px2 hr25111 (by decide : Rg 0 12 (0 : Int32)) hV hP hD hS (lv_sub (l' := [(0, .ref (b 0)), (1, .int x0), (2, .int x1), (3, .int x2), (4, .int r25111), (5, .int 0)]) hl [2, 3, 4, 5, 1, 0] rfl) (me_i (by decide : Rg 0 12 (0 : Int32)) (by decide))
  | succ n ih =>
    intro sz v0 hV x0 x1 x2 px0 px2 hpar hle hrk
    refine Met.ofW (cc := cX12_goes) (maxL := 6) (ret := (some .boolean)) (by decide) rfl ?_
    intro p e s m args below meth c s₁ B hml hv
    obtain ⟨rfl, hsz, hP, hKK, hD0⟩ := hv
    have hx := B.exec
    have hb := B.bytes
    have hr := B.returns
    have hts := atoms_spec (ws := wsX12_goes) B.pre
    have hown : s.vm.findClass RX12 = some m.cls := findClass_of_methodNamed B.named
    have hlocks := B.notSynchronized
    have hK := hKK.1
    have hin12 : ∀ w ∈ wsX120, w ∈ wsX12_goes := by decide +kernel
    subst hsz
    have hD := hD0.self (sz := s.heap.size)
    obtain ⟨A, hAe⟩ : ∃ A, A = va_A (wM cI b L v0) s.heap.size := ⟨_, rfl⟩
    rw [← hAe] at hD
    have hA : ∀ q : Nat, s.heap.size ≤ q → A q := fun q h => by rw [hAe]; exact Or.inr h
    have hS : va_S A s.heap s.heap [] := va_S.rf
    have hl := lv_entry ([.ref (b 0), .int x0, .int x1, .int x2]) (n := 6) (Nat.le_of_ble_eq_true rfl)
    rw [lg_entry_eq]
    generalize (lg_sl ([.ref (b 0), .int x0, .int x1, .int x2]) ++ List.replicate (6 - (lg_sl ([.ref (b 0), .int x0, .int x1, .int x2])).length) Slot.unset).toArray = ls at hl ⊢
    have hl : lv_has ls 6 [(0, .ref (b 0)), (1, .int x0), (2, .int x1), (3, .int x2)] := hl
    obtain ⟨v, hv9⟩ : ∃ v : SU, v = v0 := ⟨_, rfl⟩
    rw [← hv9] at hP hD hV
    have lp11 : ∀ (n11 : Nat) (y11_l4 : Int32) (y11_l5 : Int32) (v : SU) (H : Heap) (locs : List Loc) (ls : Array Slot), Rg 0 10 x0 → Rg 2 12 x2 → Rg 0 11 y11_l4 → Rg 0 12 y11_l5 → TyV v → va_P D cls (wM cI b L v) H → va_D A (wM cI b L v) → va_S A s.heap H locs → lv_has ls 6 [(0, .ref (b 0)), (1, .int x0), (2, .int x1), (3, .int x2), (4, .int y11_l4), (5, .int y11_l5)] → 12 - y11_l5.toInt < (n11 : Int) → W p l e (headSpec wsX12_goes ({ frames := n + 1 + 1, cells := 0, slots := 0, locals := 40 * (n + 1 + 1) })).room s m ([.ref (b 0), .int x0, .int x1, .int x2]).toArray below meth c H locs 0 0 (MQ below (QF (S := SU) D (wM cI b L v0) (wM cI b L) s.heap.size (fun r u => TyV u ∧ Rg 0 1 r ∧ True)) ([.ref (b 0), .int x0, .int x1, .int x2]).toArray s 0 0 (va_A (wM cI b L v0) s.heap.size)) (F0 m 11 ls []) := by
      intro n11
      induction n11 with
      | zero =>
        intro y11_l4 y11_l5 v H locs ls g11_l1 g11_l3 g11_l4 g11_l5 hV hP hD hS hl hm11
        exact absurd rfl (me_z g11_l5 hm11)
      | succ n11 ih11 =>
        intro y11_l4 y11_l5 v H locs ls g11_l1 g11_l3 g11_l4 g11_l5 hV hP hD hS hl hm11
        refine lv_iload hx hb dX12_goes_11 (lv_at hl 5 rfl) ?_
        refine lv_aload_n hx hb dX12_goes_13 rfl (lv_at hl 0 rfl) ?_
        refine va_get (D := D) (ci := 12) (v := .int (L 0 0)) (C := RX12) (T := TX12) (N := 24) hx hb hts hin12 hown hK hP 0 rfl rfl 0 (by decide) (hts (.fieldLink RX12 63 "MissedPointsModel" "many" "I") (by decide +kernel)) (fun _ h9 => h9) rfl dX12_goes_14 ?_
        refine lv_icmp_ge (tgt := 159) hx hb dX12_goes_17 (by decide) (fun c25539 => ?_) (fun c25539 => ?_)
        · refine lv_iconst (v := 0) hx hb dX12_goes_159 (by decide) ?_
          subst hAe
          exact W.zret (v := 0) hx hb hr (by decide) (fun t ht hW => ⟨⟨_, v, rfl, ⟨hV, (by decide : Rg 0 1 (0 : Int32)), trivial⟩, by rw [ht]; exact hP, hD⟩, hS.F ht⟩) hS.2.2 dX12_goes_160
        · have g25540 : Rg 1 12 (L 0 0) := rg_ltr g11_l5 hL.1 (rg_nle c25539) (by decide)
          have g25541 : Rg 0 11 y11_l5 := rg_ltl g11_l5 hL.1 (rg_nle c25539) (by decide)
          refine lv_aload_n hx hb dX12_goes_20 rfl (lv_at hl 0 rfl) ?_
          refine va_get (D := D) (ci := 12) (v := .ref (b 1)) (C := RX12) (T := TX12) (N := 24) hx hb hts hin12 hown hK hP 0 rfl rfl 2 (by decide) (hts (.fieldLink RX12 13 "MissedPointsModel" "near" "[I") (by decide +kernel)) (fun _ h9 => h9) rfl dX12_goes_21 ?_
          refine lv_iload hx hb dX12_goes_24 (lv_at hl 4 rfl) ?_
          refine wk_ald hx hb hK hP 1 0 rfl rfl (rg_in g11_l4 (by decide) (by decide)) dX12_goes_26 hV.1 (fun r25542 hr25542 => ?_)
          refine lv_iload_n hx hb dX12_goes_27 rfl (lv_at hl 2 rfl) ?_
          refine lv_iconst (v := (-1)) hx hb dX12_goes_28 (by decide) ?_
          refine lv_ixor hx hb dX12_goes_29 ?_
          refine wk_topP (P := fun r => r = x1 ^^^ ((-1) : Int32)) rfl (fun r25543 qr25543 => ?_)
          refine wk_iandl hx hb dX12_goes_30 hr25542 (by decide) (fun r25544 hr25544 qr25544 => ?_)
          refine lv_iload hx hb dX12_goes_31 (lv_at hl 5 rfl) ?_
          refine lz_ss (As := [.int r25544, .int y11_l5]) (rest := []) ⟨hx, hb, hml, hown, hts⟩ (w_X12_has l D cI cS r25544 y11_l5) hKK (hP.sub (ws' := []) [] rfl) (va_cwS 2 hts gX12_goes_X12_has rfl rfl rfl (by decide +kernel) ⟨by show 0 + 1 ≤ n + 1 + 1; omega, by show 8 + (2 + 11) + 0 ≤ 40 * (n + 1 + 1); omega⟩) rfl hl.1 rfl (Nat.le_of_ble_eq_true rfl) dX12_goes_33 ⟨Nat.le_of_ble_eq_true rfl, Nat.le_of_ble_eq_true rfl⟩ (fun r25545 hr25545 => ?_)
          refine lv_if_eq (tgt := 153) hx hb dX12_goes_36 (by decide) (fun c25546 => ?_) (fun c25546 => ?_)
          · have g25547 : Rg 0 0 r25545 := wk_eql hr25545.1 (by decide : Rg 0 0 (0 : Int32)) c25546 (by decide)
            refine wk_iinc (lv' := fun r => [(5, .int r), (0, .ref (b 0)), (1, .int x0), (2, .int x1), (3, .int x2), (4, .int y11_l4)]) (e1 := 1) (f := 12) hx hb dX12_goes_153 hl (k := 5) rfl (by decide) g25541 (by decide) (fun _ => rfl) (fun r25548 ls hr25548 er25548 hl => ?_)
            refine lv_goto (tgt := 11) hx hb dX12_goes_156 (by decide) ?_
            exact ih11 y11_l4 r25548 v _ _ ls g11_l1 g11_l3 g11_l4 (show Rg 0 12 r25548 from rg_w hr25548 (by decide) (by decide)) hV hP hD hS (lv_sub (l' := [(0, .ref (b 0)), (1, .int x0), (2, .int x1), (3, .int x2), (4, .int y11_l4), (5, .int r25548)]) hl [1, 2, 3, 4, 5, 0] rfl) (me_up hm11 er25548 (by decide))
          · have g25549 : Rg 1 1 r25545 := rg_ne_lo (k := 0) hr25545.1 (by decide) c25546 (by decide)
            refine lv_aload_n hx hb dX12_goes_39 rfl (lv_at hl 0 rfl) ?_
            refine va_get (D := D) (ci := 12) (v := .ref (b 5)) (C := RX12) (T := TX12) (N := 24) hx hb hts hin12 hown hK hP 0 rfl rfl 6 (by decide) (hts (.fieldLink RX12 26 "MissedPointsModel" "mates" "[I") (by decide +kernel)) (fun _ h9 => h9) rfl dX12_goes_40 ?_
            refine lv_iload hx hb dX12_goes_43 (lv_at hl 4 rfl) ?_
            refine va_iald hx hb hK hP 5 0 rfl rfl (rg_in g11_l4 (by decide) (by decide)) dX12_goes_45 ?_
            refine lz_top (y := (v 5 y11_l4.toNatClampNeg)) rfl ?_
            refine lv_iload hx hb dX12_goes_46 (lv_at hl 5 rfl) ?_
            refine lv_icmp_ne (tgt := 54) hx hb dX12_goes_48 (by decide) (fun c25551 => ?_) (fun c25551 => ?_)
            · refine lv_aload_n hx hb dX12_goes_54 rfl (lv_at hl 0 rfl) ?_
              refine va_get (D := D) (ci := 12) (v := .ref (b 6)) (C := RX12) (T := TX12) (N := 24) hx hb hts hin12 hown hK hP 0 rfl rfl 7 (by decide) (hts (.fieldLink RX12 29 "MissedPointsModel" "way" "[I") (by decide +kernel)) (fun _ h9 => h9) rfl dX12_goes_55 ?_
              refine lv_iload_n hx hb dX12_goes_58 rfl (lv_at hl 1 rfl) ?_
              refine lv_iconst (v := 1) hx hb dX12_goes_59 (by decide) ?_
              refine wk_iadd (e1 := 1) (f := 11) hx hb dX12_goes_60 g11_l1 (by decide : Rg 1 1 (1 : Int32)) (by decide) (fun r25552 hr25552 er25552 qr25552 => ?_)
              refine lv_iload hx hb dX12_goes_61 (lv_at hl 5 rfl) ?_
              refine ms_6 hx hb hK hP hD hS hV rfl (rg_in hr25552 (by decide) (by decide)) g25541 dX12_goes_63 (fun v H locs hV ev25553 hP hD hS => ?_)
              refine lv_iload_n hx hb dX12_goes_64 rfl (lv_at hl 1 rfl) ?_
              refine lv_iconst (v := 2) hx hb dX12_goes_65 (by decide) ?_
              refine wk_iadd (e1 := 2) (f := 12) hx hb dX12_goes_66 g11_l1 (by decide : Rg 2 2 (2 : Int32)) (by decide) (fun r25554 hr25554 er25554 qr25554 => ?_)
              refine lv_iload_n hx hb dX12_goes_67 rfl (lv_at hl 3 rfl) ?_
              refine lv_icmp_ne (tgt := 84) hx hb dX12_goes_68 (by decide) (fun c25555 => ?_) (fun c25555 => ?_)
              · have g25556 : Rg 0 8 x0 := by have y90 : y11_l5.toInt < (L 0 0).toInt := (lz_lt _ _).mp (rg_nle c25539); have y91 : ¬ r25545.toInt = (0 : Int32).toInt := fun z => c25546 (Int32.toInt_inj.mp z); have y92 : ¬ (v 5 y11_l4.toNatClampNeg).toInt = y11_l5.toInt := fun z => c25551 (Int32.toInt_inj.mp z); have y93 : ¬ r25554.toInt = x2.toInt := fun z => c25555 (Int32.toInt_inj.mp z); have y94 : Rg 1 12 (L 0 0) := g25540; have y95 : Rg 0 11 y11_l5 := g25541; have y96 : Rg 1 1 r25545 := g25549; have y97 : Rg 0 10 x0 := g11_l1; have y98 : Rg 2 12 x2 := g11_l3; have y99 : Rg 0 11 y11_l4 := g11_l4; have y910 : Rg 0 11 y11_l5 := g25541; have y9c11 : (0 : Int32).toInt = 0 := (by decide); have y9c12 : (1 : Int32).toInt = 1 := (by decide); have y9c13 : (2 : Int32).toInt = 2 := (by decide); exact ⟨by omega, by omega⟩
                refine lv_aload_n hx hb dX12_goes_84 rfl (lv_at hl 0 rfl) ?_
                refine va_get (D := D) (ci := 12) (v := .ref (b 5)) (C := RX12) (T := TX12) (N := 24) hx hb hts hin12 hown hK hP 0 rfl rfl 6 (by decide) (hts (.fieldLink RX12 26 "MissedPointsModel" "mates" "[I") (by decide +kernel)) (fun _ h9 => h9) rfl dX12_goes_85 ?_
                refine lv_iload hx hb dX12_goes_88 (lv_at hl 5 rfl) ?_
                refine va_iald hx hb hK hP 5 0 rfl rfl (rg_in g25541 (by decide) (by decide)) dX12_goes_90 ?_
                refine lz_top (y := (v 5 y11_l5.toNatClampNeg)) rfl ?_
                refine lv_iconst (v := (-1)) hx hb dX12_goes_91 (by decide) ?_
                refine lv_icmp_eq (tgt := 153) hx hb dX12_goes_92 (by decide) (fun c25558 => ?_) (fun c25558 => ?_)
                · have g25559 : Rg (-1) (-1) (v 5 y11_l5.toNatClampNeg) := wk_eql (hV.2.2.1 y11_l5.toNatClampNeg) (by decide : Rg (-1) (-1) ((-1) : Int32)) c25558 (by decide)
                  refine wk_iinc (lv' := fun r => [(5, .int r), (0, .ref (b 0)), (1, .int x0), (2, .int x1), (3, .int x2), (4, .int y11_l4)]) (e1 := 1) (f := 12) hx hb dX12_goes_153 hl (k := 5) rfl (by decide) g25541 (by decide) (fun _ => rfl) (fun r25560 ls hr25560 er25560 hl => ?_)
                  refine lv_goto (tgt := 11) hx hb dX12_goes_156 (by decide) ?_
                  exact ih11 y11_l4 r25560 v _ _ ls (show Rg 0 10 x0 from rg_w g25556 (by decide) (by decide)) g11_l3 g11_l4 (show Rg 0 12 r25560 from rg_w hr25560 (by decide) (by decide)) hV hP hD hS (lv_sub (l' := [(0, .ref (b 0)), (1, .int x0), (2, .int x1), (3, .int x2), (4, .int y11_l4), (5, .int r25560)]) hl [1, 2, 3, 4, 5, 0] rfl) (me_up hm11 er25560 (by decide))
                · have g25561 : Rg 0 11 (v 5 y11_l5.toNatClampNeg) := rg_ne_lo (k := (-1)) (hV.2.2.1 y11_l5.toNatClampNeg) (by decide) c25558 (by decide)
                  refine lv_iload_n hx hb dX12_goes_95 rfl (lv_at hl 2 rfl) ?_
                  refine lv_aload_n hx hb dX12_goes_96 rfl (lv_at hl 0 rfl) ?_
                  refine va_get (D := D) (ci := 12) (v := .ref (b 5)) (C := RX12) (T := TX12) (N := 24) hx hb hts hin12 hown hK hP 0 rfl rfl 6 (by decide) (hts (.fieldLink RX12 26 "MissedPointsModel" "mates" "[I") (by decide +kernel)) (fun _ h9 => h9) rfl dX12_goes_97 ?_
                  refine lv_iload hx hb dX12_goes_100 (lv_at hl 5 rfl) ?_
                  refine va_iald hx hb hK hP 5 0 rfl rfl (rg_in g25541 (by decide) (by decide)) dX12_goes_102 ?_
                  refine lz_top (y := (v 5 y11_l5.toNatClampNeg)) rfl ?_
                  refine lz_ss (As := [.int x1, .int (v 5 y11_l5.toNatClampNeg)]) (rest := []) ⟨hx, hb, hml, hown, hts⟩ (w_X12_has l D cI cS x1 (v 5 y11_l5.toNatClampNeg)) hKK (hP.sub (ws' := []) [] rfl) (va_cwS 2 hts gX12_goes_X12_has rfl rfl rfl (by decide +kernel) ⟨by show 0 + 1 ≤ n + 1 + 1; omega, by show 8 + (2 + 11) + 0 ≤ 40 * (n + 1 + 1); omega⟩) rfl hl.1 rfl (Nat.le_of_ble_eq_true rfl) dX12_goes_103 ⟨Nat.le_of_ble_eq_true rfl, Nat.le_of_ble_eq_true rfl⟩ (fun r25563 hr25563 => ?_)
                  refine lv_if_ne (tgt := 153) hx hb dX12_goes_106 (by decide) (fun c25564 => ?_) (fun c25564 => ?_)
                  · have g25565 : Rg 1 1 r25563 := rg_ne_lo (k := 0) hr25563.1 (by decide) c25564 (by decide)
                    refine wk_iinc (lv' := fun r => [(5, .int r), (0, .ref (b 0)), (1, .int x0), (2, .int x1), (3, .int x2), (4, .int y11_l4)]) (e1 := 1) (f := 12) hx hb dX12_goes_153 hl (k := 5) rfl (by decide) g25541 (by decide) (fun _ => rfl) (fun r25566 ls hr25566 er25566 hl => ?_)
                    refine lv_goto (tgt := 11) hx hb dX12_goes_156 (by decide) ?_
                    exact ih11 y11_l4 r25566 v _ _ ls (show Rg 0 10 x0 from rg_w g25556 (by decide) (by decide)) g11_l3 g11_l4 (show Rg 0 12 r25566 from rg_w hr25566 (by decide) (by decide)) hV hP hD hS (lv_sub (l' := [(0, .ref (b 0)), (1, .int x0), (2, .int x1), (3, .int x2), (4, .int y11_l4), (5, .int r25566)]) hl [1, 2, 3, 4, 5, 0] rfl) (me_up hm11 er25566 (by decide))
                  · have g25567 : Rg 0 0 r25563 := wk_eql hr25563.1 (by decide : Rg 0 0 (0 : Int32)) c25564 (by decide)
                    refine lv_aload_n hx hb dX12_goes_109 rfl (lv_at hl 0 rfl) ?_
                    refine va_get (D := D) (ci := 12) (v := .ref (b 6)) (C := RX12) (T := TX12) (N := 24) hx hb hts hin12 hown hK hP 0 rfl rfl 7 (by decide) (hts (.fieldLink RX12 29 "MissedPointsModel" "way" "[I") (by decide +kernel)) (fun _ h9 => h9) rfl dX12_goes_110 ?_
                    refine lv_iload_n hx hb dX12_goes_113 rfl (lv_at hl 1 rfl) ?_
                    refine lv_iconst (v := 2) hx hb dX12_goes_114 (by decide) ?_
                    refine wk_iadd (e1 := 2) (f := 10) hx hb dX12_goes_115 g25556 (by decide : Rg 2 2 (2 : Int32)) (by decide) (fun r25568 hr25568 er25568 qr25568 => ?_)
                    refine lv_aload_n hx hb dX12_goes_116 rfl (lv_at hl 0 rfl) ?_
                    refine va_get (D := D) (ci := 12) (v := .ref (b 5)) (C := RX12) (T := TX12) (N := 24) hx hb hts hin12 hown hK hP 0 rfl rfl 6 (by decide) (hts (.fieldLink RX12 26 "MissedPointsModel" "mates" "[I") (by decide +kernel)) (fun _ h9 => h9) rfl dX12_goes_117 ?_
                    refine lv_iload hx hb dX12_goes_120 (lv_at hl 5 rfl) ?_
                    refine va_iald hx hb hK hP 5 0 rfl rfl (rg_in g25541 (by decide) (by decide)) dX12_goes_122 ?_
                    refine lz_top (y := (v 5 y11_l5.toNatClampNeg)) rfl ?_
                    refine ms_6 hx hb hK hP hD hS hV rfl (rg_in hr25568 (by decide) (by decide)) g25561 dX12_goes_123 (fun v H locs hV ev25570 hP hD hS => ?_)
                    have g25571 : Rg 0 11 (v 5 y11_l5.toNatClampNeg) := by rw [ev25570]; exact g25561
                    refine lv_aload_n hx hb dX12_goes_124 rfl (lv_at hl 0 rfl) ?_
                    refine lv_iload_n hx hb dX12_goes_125 rfl (lv_at hl 1 rfl) ?_
                    refine lv_iconst (v := 2) hx hb dX12_goes_126 (by decide) ?_
                    refine wk_iadd (e1 := 2) (f := 10) hx hb dX12_goes_127 g25556 (by decide : Rg 2 2 (2 : Int32)) (by decide) (fun r25572 hr25572 er25572 qr25572 => ?_)
                    refine lv_iload_n hx hb dX12_goes_128 rfl (lv_at hl 2 rfl) ?_
                    refine lv_iconst (v := 1) hx hb dX12_goes_129 (by decide) ?_
                    refine lv_iload hx hb dX12_goes_130 (lv_at hl 5 rfl) ?_
                    refine wk_ishl1 (f := 2048) hx hb dX12_goes_132 g25541 (by decide) (fun r25573 hr25573 qr25573 => ?_)
                    refine lv_ior hx hb dX12_goes_133 ?_
                    refine wk_topP (P := fun r => r = x1 ||| r25573) rfl (fun r25574 qr25574 => ?_)
                    refine lv_iconst (v := 1) hx hb dX12_goes_134 (by decide) ?_
                    refine lv_aload_n hx hb dX12_goes_135 rfl (lv_at hl 0 rfl) ?_
                    refine va_get (D := D) (ci := 12) (v := .ref (b 5)) (C := RX12) (T := TX12) (N := 24) hx hb hts hin12 hown hK hP 0 rfl rfl 6 (by decide) (hts (.fieldLink RX12 26 "MissedPointsModel" "mates" "[I") (by decide +kernel)) (fun _ h9 => h9) rfl dX12_goes_136 ?_
                    refine lv_iload hx hb dX12_goes_139 (lv_at hl 5 rfl) ?_
                    refine va_iald hx hb hK hP 5 0 rfl rfl (rg_in g25541 (by decide) (by decide)) dX12_goes_141 ?_
                    refine lz_top (y := (v 5 y11_l5.toNatClampNeg)) rfl ?_
                    refine wk_ishl1 (f := 2048) hx hb dX12_goes_142 g25571 (by decide) (fun r25576 hr25576 qr25576 => ?_)
                    refine lv_ior hx hb dX12_goes_143 ?_
                    refine wk_topP (P := fun r => r = r25574 ||| r25576) rfl (fun r25577 qr25577 => ?_)
                    refine lv_iload_n hx hb dX12_goes_144 rfl (lv_at hl 3 rfl) ?_
                    refine wk_qi (wM cI b L) v (As := [.int r25572, .int r25577, .int x2]) (rest := []) ⟨hx, hb, hml, hown, hts⟩ (ih _ v hV r25572 r25577 x2 ((show Rg 0 10 r25572 from rg_w hr25572 (by decide) (by decide))) (g11_l3) (by have y90 : y11_l5.toInt < (L 0 0).toInt := (lz_lt _ _).mp (rg_nle c25539); have y91 : ¬ r25545.toInt = (0 : Int32).toInt := fun z => c25546 (Int32.toInt_inj.mp z); have y92 : ¬ (v 5 y11_l4.toNatClampNeg).toInt = y11_l5.toInt := fun z => c25551 (Int32.toInt_inj.mp z); have y93 : ¬ r25554.toInt = x2.toInt := fun z => c25555 (Int32.toInt_inj.mp z); have y94 : ¬ (v 5 y11_l5.toNatClampNeg).toInt = ((-1) : Int32).toInt := fun z => c25558 (Int32.toInt_inj.mp z); have y95 : r25563.toInt = (0 : Int32).toInt := congrArg Int32.toInt c25564; have y96 : Rg 1 12 (L 0 0) := g25540; have y97 : Rg 0 11 y11_l5 := g25541; have y98 : Rg 1 1 r25545 := g25549; have y99 : Rg 0 8 x0 := g25556; have y910 : Rg 0 11 (v 5 y11_l5.toNatClampNeg) := g25571; have y911 : Rg 0 0 r25563 := g25567; have y912 : Rg 0 8 x0 := g25556; have y913 : Rg 2 12 x2 := g11_l3; have y914 : Rg 0 11 y11_l4 := g11_l4; have y915 : Rg 0 11 y11_l5 := g25541; have y916 : Rg 2 12 x2 := g11_l3; have y917 : Rg 2 10 r25572 := hr25572; have y918 : Rg 2 10 r25572 := hr25572; have y9c19 : ((-1) : Int32).toInt = -1 := (by decide); have y9c20 : (0 : Int32).toInt = 0 := (by decide); have y9c21 : (1 : Int32).toInt = 1 := (by decide); have y9c22 : (2 : Int32).toInt = 2 := (by decide); omega) (by have y90 : y11_l5.toInt < (L 0 0).toInt := (lz_lt _ _).mp (rg_nle c25539); have y91 : ¬ r25545.toInt = (0 : Int32).toInt := fun z => c25546 (Int32.toInt_inj.mp z); have y92 : ¬ (v 5 y11_l4.toNatClampNeg).toInt = y11_l5.toInt := fun z => c25551 (Int32.toInt_inj.mp z); have y93 : ¬ r25554.toInt = x2.toInt := fun z => c25555 (Int32.toInt_inj.mp z); have y94 : ¬ (v 5 y11_l5.toNatClampNeg).toInt = ((-1) : Int32).toInt := fun z => c25558 (Int32.toInt_inj.mp z); have y95 : r25563.toInt = (0 : Int32).toInt := congrArg Int32.toInt c25564; have y96 : Rg 1 12 (L 0 0) := g25540; have y97 : Rg 0 11 y11_l5 := g25541; have y98 : Rg 1 1 r25545 := g25549; have y99 : Rg 0 8 x0 := g25556; have y910 : Rg 0 11 (v 5 y11_l5.toNatClampNeg) := g25571; have y911 : Rg 0 0 r25563 := g25567; have y912 : Rg 0 8 x0 := g25556; have y913 : Rg 2 12 x2 := g11_l3; have y914 : Rg 0 11 y11_l4 := g11_l4; have y915 : Rg 0 11 y11_l5 := g25541; have y916 : Rg 2 12 x2 := g11_l3; have y917 : Rg 2 10 r25572 := hr25572; have y918 : Rg 2 10 r25572 := hr25572; have y9c19 : ((-1) : Int32).toInt = -1 := (by decide); have y9c20 : (0 : Int32).toInt = 0 := (by decide); have y9c21 : (1 : Int32).toInt = 1 := (by decide); have y9c22 : (2 : Int32).toInt = 2 := (by decide); omega) (by have y90 : y11_l5.toInt < (L 0 0).toInt := (lz_lt _ _).mp (rg_nle c25539); have y91 : ¬ r25545.toInt = (0 : Int32).toInt := fun z => c25546 (Int32.toInt_inj.mp z); have y92 : ¬ (v 5 y11_l4.toNatClampNeg).toInt = y11_l5.toInt := fun z => c25551 (Int32.toInt_inj.mp z); have y93 : ¬ r25554.toInt = x2.toInt := fun z => c25555 (Int32.toInt_inj.mp z); have y94 : ¬ (v 5 y11_l5.toNatClampNeg).toInt = ((-1) : Int32).toInt := fun z => c25558 (Int32.toInt_inj.mp z); have y95 : r25563.toInt = (0 : Int32).toInt := congrArg Int32.toInt c25564; have y96 : Rg 1 12 (L 0 0) := g25540; have y97 : Rg 0 11 y11_l5 := g25541; have y98 : Rg 1 1 r25545 := g25549; have y99 : Rg 0 8 x0 := g25556; have y910 : Rg 0 11 (v 5 y11_l5.toNatClampNeg) := g25571; have y911 : Rg 0 0 r25563 := g25567; have y912 : Rg 0 8 x0 := g25556; have y913 : Rg 2 12 x2 := g11_l3; have y914 : Rg 0 11 y11_l4 := g11_l4; have y915 : Rg 0 11 y11_l5 := g25541; have y916 : Rg 2 12 x2 := g11_l3; have y917 : Rg 2 10 r25572 := hr25572; have y918 : Rg 2 10 r25572 := hr25572; have y9c19 : ((-1) : Int32).toInt = -1 := (by decide); have y9c20 : (0 : Int32).toInt = 0 := (by decide); have y9c21 : (1 : Int32).toInt = 1 := (by decide); have y9c22 : (2 : Int32).toInt = 2 := (by decide); omega)) hKK hP hD hS hA 0 (ci := 12) rfl rfl (cwV 3 hts gX12_goes_X12_goes rfl rfl rfl (by decide +kernel) ⟨by show n + 1 + 1 ≤ n + 1 + 1; omega, by show 8 + (6 + 11) + 40 * (n + 1) ≤ 40 * (n + 1 + 1); omega⟩) rfl hl.1 rfl (Nat.le_of_ble_eq_true rfl) dX12_goes_145 ⟨Nat.le_of_ble_eq_true rfl, Nat.le_of_ble_eq_true rfl⟩ (fun r25578 v H locs hr25578 hP hD hS => ?_)
                    have hV := hr25578.1
                    refine lv_if_eq (tgt := 153) hx hb dX12_goes_148 (by decide) (fun c25579 => ?_) (fun c25579 => ?_)
                    · have g25580 : Rg 0 0 r25578 := wk_eql hr25578.2.1 (by decide : Rg 0 0 (0 : Int32)) c25579 (by decide)
                      refine wk_iinc (lv' := fun r => [(5, .int r), (0, .ref (b 0)), (1, .int x0), (2, .int x1), (3, .int x2), (4, .int y11_l4)]) (e1 := 1) (f := 12) hx hb dX12_goes_153 hl (k := 5) rfl (by decide) g25541 (by decide) (fun _ => rfl) (fun r25581 ls hr25581 er25581 hl => ?_)
                      refine lv_goto (tgt := 11) hx hb dX12_goes_156 (by decide) ?_
                      exact ih11 y11_l4 r25581 v _ _ ls (show Rg 0 10 x0 from rg_w g25556 (by decide) (by decide)) g11_l3 g11_l4 (show Rg 0 12 r25581 from rg_w hr25581 (by decide) (by decide)) hV hP hD hS (lv_sub (l' := [(0, .ref (b 0)), (1, .int x0), (2, .int x1), (3, .int x2), (4, .int y11_l4), (5, .int r25581)]) hl [1, 2, 3, 4, 5, 0] rfl) (me_up hm11 er25581 (by decide))
                    · have g25582 : Rg 1 1 r25578 := rg_ne_lo (k := 0) hr25578.2.1 (by decide) c25579 (by decide)
                      refine lv_iconst (v := 1) hx hb dX12_goes_151 (by decide) ?_
                      subst hAe
                      exact W.zret (v := 1) hx hb hr (by decide) (fun t ht hW => ⟨⟨_, v, rfl, ⟨hV, (by decide : Rg 0 1 (1 : Int32)), trivial⟩, by rw [ht]; exact hP, hD⟩, hS.F ht⟩) hS.2.2 dX12_goes_152
              · refine lv_aload_n hx hb dX12_goes_71 rfl (lv_at hl 0 rfl) ?_
                refine va_get (D := D) (ci := 12) (v := .ref (b 5)) (C := RX12) (T := TX12) (N := 24) hx hb hts hin12 hown hK hP 0 rfl rfl 6 (by decide) (hts (.fieldLink RX12 26 "MissedPointsModel" "mates" "[I") (by decide +kernel)) (fun _ h9 => h9) rfl dX12_goes_72 ?_
                refine lv_iload hx hb dX12_goes_75 (lv_at hl 5 rfl) ?_
                refine va_iald hx hb hK hP 5 0 rfl rfl (rg_in g25541 (by decide) (by decide)) dX12_goes_77 ?_
                refine lz_top (y := (v 5 y11_l5.toNatClampNeg)) rfl ?_
                refine lv_iconst (v := (-1)) hx hb dX12_goes_78 (by decide) ?_
                refine lv_icmp_ne (tgt := 153) hx hb dX12_goes_79 (by decide) (fun c25584 => ?_) (fun c25584 => ?_)
                · have g25585 : Rg 0 11 (v 5 y11_l5.toNatClampNeg) := rg_ne_lo (k := (-1)) (hV.2.2.1 y11_l5.toNatClampNeg) (by decide) c25584 (by decide)
                  refine wk_iinc (lv' := fun r => [(5, .int r), (0, .ref (b 0)), (1, .int x0), (2, .int x1), (3, .int x2), (4, .int y11_l4)]) (e1 := 1) (f := 12) hx hb dX12_goes_153 hl (k := 5) rfl (by decide) g25541 (by decide) (fun _ => rfl) (fun r25586 ls hr25586 er25586 hl => ?_)
                  refine lv_goto (tgt := 11) hx hb dX12_goes_156 (by decide) ?_
                  exact ih11 y11_l4 r25586 v _ _ ls g11_l1 g11_l3 g11_l4 (show Rg 0 12 r25586 from rg_w hr25586 (by decide) (by decide)) hV hP hD hS (lv_sub (l' := [(0, .ref (b 0)), (1, .int x0), (2, .int x1), (3, .int x2), (4, .int y11_l4), (5, .int r25586)]) hl [1, 2, 3, 4, 5, 0] rfl) (me_up hm11 er25586 (by decide))
                · have g25587 : Rg (-1) (-1) (v 5 y11_l5.toNatClampNeg) := wk_eql (hV.2.2.1 y11_l5.toNatClampNeg) (by decide : Rg (-1) (-1) ((-1) : Int32)) c25584 (by decide)
                  refine lv_iconst (v := 1) hx hb dX12_goes_82 (by decide) ?_
                  subst hAe
                  exact W.zret (v := 1) hx hb hr (by decide) (fun t ht hW => ⟨⟨_, v, rfl, ⟨hV, (by decide : Rg 0 1 (1 : Int32)), trivial⟩, by rw [ht]; exact hP, hD⟩, hS.F ht⟩) hS.2.2 dX12_goes_83
            · have g25588 : Rg 0 11 (v 5 y11_l4.toNatClampNeg) := wk_eql (hV.2.2.1 y11_l4.toNatClampNeg) g25541 c25551 (by decide)
              refine lv_goto (tgt := 153) hx hb dX12_goes_51 (by decide) ?_
              refine wk_iinc (lv' := fun r => [(5, .int r), (0, .ref (b 0)), (1, .int x0), (2, .int x1), (3, .int x2), (4, .int y11_l4)]) (e1 := 1) (f := 12) hx hb dX12_goes_153 hl (k := 5) rfl (by decide) g25541 (by decide) (fun _ => rfl) (fun r25589 ls hr25589 er25589 hl => ?_)
              refine lv_goto (tgt := 11) hx hb dX12_goes_156 (by decide) ?_
              exact ih11 y11_l4 r25589 v _ _ ls g11_l1 g11_l3 g11_l4 (show Rg 0 12 r25589 from rg_w hr25589 (by decide) (by decide)) hV hP hD hS (lv_sub (l' := [(0, .ref (b 0)), (1, .int x0), (2, .int x1), (3, .int x2), (4, .int y11_l4), (5, .int r25589)]) hl [1, 2, 3, 4, 5, 0] rfl) (me_up hm11 er25589 (by decide))
    refine lv_aload_n hx hb dX12_goes_0 rfl (lv_at hl 0 rfl) ?_
    refine va_get (D := D) (ci := 12) (v := .ref (b 6)) (C := RX12) (T := TX12) (N := 24) hx hb hts hin12 hown hK hP 0 rfl rfl 7 (by decide) (hts (.fieldLink RX12 29 "MissedPointsModel" "way" "[I") (by decide +kernel)) (fun _ h9 => h9) rfl dX12_goes_1 ?_
    refine lv_iload_n hx hb dX12_goes_4 rfl (lv_at hl 1 rfl) ?_
    refine wk_ald hx hb hK hP 6 0 rfl rfl (rg_in px0 (by decide) (by decide)) dX12_goes_5 hV.2.2.2.1 (fun r25590 hr25590 => ?_)
    refine lv_istore (lv' := [(4, .int r25590), (0, .ref (b 0)), (1, .int x0), (2, .int x1), (3, .int x2)]) hx hb dX12_goes_6 hl (by decide) rfl (fun ls hl => ?_)
    refine lv_iconst (v := 0) hx hb dX12_goes_8 (by decide) ?_
    refine lv_istore (lv' := [(5, .int 0), (4, .int r25590), (0, .ref (b 0)), (1, .int x0), (2, .int x1), (3, .int x2)]) hx hb dX12_goes_9 hl (by decide) rfl (fun ls hl => ?_)
    exact lp11 13 r25590 (0 : Int32) v _ _ ls px0 px2 hr25590 (by decide : Rg 0 12 (0 : Int32)) hV hP hD hS (lv_sub (l' := [(0, .ref (b 0)), (1, .int x0), (2, .int x1), (3, .int x2), (4, .int r25590), (5, .int 0)]) hl [2, 3, 4, 5, 1, 0] rfl) (me_i (by decide : Rg 0 12 (0 : Int32)) (by decide))
theorem w_X12_goes (l : Launch) (D : va_G) (cI cS : ClassId) (sz : Nat) (b : Nat → Nat) (L v0 : SU) (hL : TyL L) (hV : TyV v0) (x0 x1 x2 : Int32) (px0 : Rg 0 0 x0) (px2 : Rg 2 12 x2) (hpar : x2.toInt % 2 = 0) : Met l yX12_goes wsX12_goes ({ frames := 6 + 1, cells := 0, slots := 0, locals := 40 * (6 + 1) }) (PQ D cI cS (wM cI b L v0) sz [.ref (b 0), .int x0, .int x1, .int x2]) (QF (S := SU) D (wM cI b L v0) (wM cI b L) sz (fun r u => TyV u ∧ Rg 0 1 r ∧ True)) 0 0 (va_A (wM cI b L v0) sz) := w_X12_goes_r l D cI cS b L hL 6 sz v0 hV x0 x1 x2 (rg_w px0 (by decide) (by decide)) (px2) (by have z1 := px0; omega) (by have z1 := px0; have z2 := px2; omega) (by have z1 := px0; have z2 := px2; omega)
set_option maxRecDepth 20000 in
theorem ggX12_wayLaid_X12_goes : GoodIn wsX12_wayLaid wsX12_goes := goodIn_r _ [8, 2, 1, 9, 3, 10, 11, 7, 12, 4, 5, 6, 13, 14, 15, 16, 17, 18, 19, 20, 21, 22, 23, 24, 25, 26, 27, 28, 29, 30, 31, 32, 33, 34, 35, 36] (by decide +kernel) (by decide +kernel)
set_option maxRecDepth 20000 in
theorem gX12_wayLaid_X12_goes : GoodIn wsX12_wayLaid (wsV RX12 163 RX12 yX12_goes wsX12_goes) := goodIn_app (goodIn_of _ (by decide +kernel)) ggX12_wayLaid_X12_goes
theorem dX12_wayLaid_0 : decode cX12_wayLaid 0 = .ok (.iconst 2, 1) := by decide +kernel
theorem dX12_wayLaid_1 : decode cX12_wayLaid 1 = .ok (.istore_n 1, 1) := by decide +kernel
theorem dX12_wayLaid_10 : decode cX12_wayLaid 10 = .ok (.iconst 0, 1) := by decide +kernel
theorem dX12_wayLaid_11 : decode cX12_wayLaid 11 = .ok (.istore_n 2, 1) := by decide +kernel
theorem dX12_wayLaid_12 : decode cX12_wayLaid 12 = .ok (.iload_n 2, 1) := by decide +kernel
theorem dX12_wayLaid_13 : decode cX12_wayLaid 13 = .ok (.aload_n 0, 1) := by decide +kernel
theorem dX12_wayLaid_14 : decode cX12_wayLaid 14 = .ok (.getfield 63, 3) := by decide +kernel
theorem dX12_wayLaid_17 : decode cX12_wayLaid 17 = .ok (.if_icmp .ge 40, 3) := by decide +kernel
theorem dX12_wayLaid_2 : decode cX12_wayLaid 2 = .ok (.iload_n 1, 1) := by decide +kernel
theorem dX12_wayLaid_20 : decode cX12_wayLaid 20 = .ok (.aload_n 0, 1) := by decide +kernel
theorem dX12_wayLaid_21 : decode cX12_wayLaid 21 = .ok (.getfield 29, 3) := by decide +kernel
theorem dX12_wayLaid_24 : decode cX12_wayLaid 24 = .ok (.iconst 0, 1) := by decide +kernel
theorem dX12_wayLaid_25 : decode cX12_wayLaid 25 = .ok (.iload_n 2, 1) := by decide +kernel
theorem dX12_wayLaid_26 : decode cX12_wayLaid 26 = .ok (.iastore, 1) := by decide +kernel
theorem dX12_wayLaid_27 : decode cX12_wayLaid 27 = .ok (.aload_n 0, 1) := by decide +kernel
theorem dX12_wayLaid_28 : decode cX12_wayLaid 28 = .ok (.getfield 26, 3) := by decide +kernel
theorem dX12_wayLaid_3 : decode cX12_wayLaid 3 = .ok (.aload_n 0, 1) := by decide +kernel
theorem dX12_wayLaid_31 : decode cX12_wayLaid 31 = .ok (.iload_n 2, 1) := by decide +kernel
theorem dX12_wayLaid_32 : decode cX12_wayLaid 32 = .ok (.iaload, 1) := by decide +kernel
theorem dX12_wayLaid_33 : decode cX12_wayLaid 33 = .ok (.iconst (-1), 1) := by decide +kernel
theorem dX12_wayLaid_34 : decode cX12_wayLaid 34 = .ok (.if_icmp .ne 17, 3) := by decide +kernel
theorem dX12_wayLaid_37 : decode cX12_wayLaid 37 = .ok (.aload_n 0, 1) := by decide +kernel
theorem dX12_wayLaid_38 : decode cX12_wayLaid 38 = .ok (.iconst 0, 1) := by decide +kernel
theorem dX12_wayLaid_39 : decode cX12_wayLaid 39 = .ok (.iconst 1, 1) := by decide +kernel
theorem dX12_wayLaid_4 : decode cX12_wayLaid 4 = .ok (.getfield 63, 3) := by decide +kernel
theorem dX12_wayLaid_40 : decode cX12_wayLaid 40 = .ok (.iload_n 2, 1) := by decide +kernel
theorem dX12_wayLaid_41 : decode cX12_wayLaid 41 = .ok (.ishl, 1) := by decide +kernel
theorem dX12_wayLaid_42 : decode cX12_wayLaid 42 = .ok (.iload_n 1, 1) := by decide +kernel
theorem dX12_wayLaid_43 : decode cX12_wayLaid 43 = .ok (.invokevirtual 163, 3) := by decide +kernel
theorem dX12_wayLaid_46 : decode cX12_wayLaid 46 = .ok (.ifCond .eq 5, 3) := by decide +kernel
theorem dX12_wayLaid_49 : decode cX12_wayLaid 49 = .ok (.iload_n 1, 1) := by decide +kernel
theorem dX12_wayLaid_50 : decode cX12_wayLaid 50 = .ok (.ireturn, 1) := by decide +kernel
theorem dX12_wayLaid_51 : decode cX12_wayLaid 51 = .ok (.iinc 2 1, 3) := by decide +kernel
theorem dX12_wayLaid_54 : decode cX12_wayLaid 54 = .ok (.goto (-42), 3) := by decide +kernel
theorem dX12_wayLaid_57 : decode cX12_wayLaid 57 = .ok (.iinc 1 2, 3) := by decide +kernel
theorem dX12_wayLaid_60 : decode cX12_wayLaid 60 = .ok (.goto (-58), 3) := by decide +kernel
theorem dX12_wayLaid_63 : decode cX12_wayLaid 63 = .ok (.iconst 0, 1) := by decide +kernel
theorem dX12_wayLaid_64 : decode cX12_wayLaid 64 = .ok (.ireturn, 1) := by decide +kernel
theorem dX12_wayLaid_7 : decode cX12_wayLaid 7 = .ok (.if_icmp .gt 56, 3) := by decide +kernel
set_option maxHeartbeats 4000000 in
set_option maxRecDepth 100000 in
theorem w_X12_wayLaid (l : Launch) (D : va_G) (cI cS : ClassId) (sz : Nat) (b : Nat → Nat) (L v0 : SU) (hL : TyL L) (hV : TyV v0) : Met l yX12_wayLaid wsX12_wayLaid ({ frames := 8, cells := 0, slots := 0, locals := 320 }) (PQ D cI cS (wM cI b L v0) sz [.ref (b 0)]) (QF (S := SU) D (wM cI b L v0) (wM cI b L) sz (fun r u => TyV u ∧ Rg 0 12 r ∧ r.toInt % 2 = 0)) 0 0 (va_A (wM cI b L v0) sz) := by
  refine Met.ofW (cc := cX12_wayLaid) (maxL := 3) (ret := (some .int)) (by decide) rfl ?_
  intro p e s m args below meth c s₁ B hml hv
  obtain ⟨rfl, hsz, hP, hKK, hD0⟩ := hv
  have hx := B.exec
  have hb := B.bytes
  have hr := B.returns
  have hts := atoms_spec (ws := wsX12_wayLaid) B.pre
  have hown : s.vm.findClass RX12 = some m.cls := findClass_of_methodNamed B.named
  have hlocks := B.notSynchronized
  have hK := hKK.1
  have hin12 : ∀ w ∈ wsX120, w ∈ wsX12_wayLaid := by decide +kernel
  subst hsz
  have hD := hD0.self (sz := s.heap.size)
  obtain ⟨A, hAe⟩ : ∃ A, A = va_A (wM cI b L v0) s.heap.size := ⟨_, rfl⟩
  rw [← hAe] at hD
  have hA : ∀ q : Nat, s.heap.size ≤ q → A q := fun q h => by rw [hAe]; exact Or.inr h
  have hS : va_S A s.heap s.heap [] := va_S.rf
  have hl := lv_entry ([.ref (b 0)]) (n := 3) (Nat.le_of_ble_eq_true rfl)
  rw [lg_entry_eq]
  generalize (lg_sl ([.ref (b 0)]) ++ List.replicate (3 - (lg_sl ([.ref (b 0)])).length) Slot.unset).toArray = ls at hl ⊢
  have hl : lv_has ls 3 [(0, .ref (b 0))] := hl
  obtain ⟨v, hv9⟩ : ∃ v : SU, v = v0 := ⟨_, rfl⟩
  rw [← hv9] at hP hD hV
  have lp2 : ∀ (n2 : Nat) (y2_l1 : Int32) (v : SU) (H : Heap) (locs : List Loc) (ls : Array Slot), Rg 2 20 y2_l1 → (y2_l1.toInt % 2 = 0) → TyV v → va_P D cls (wM cI b L v) H → va_D A (wM cI b L v) → va_S A s.heap H locs → lv_has ls 3 [(0, .ref (b 0)), (1, .int y2_l1)] → 20 - y2_l1.toInt < (n2 : Int) → W p l e (headSpec wsX12_wayLaid ({ frames := 8, cells := 0, slots := 0, locals := 320 })).room s m ([.ref (b 0)]).toArray below meth c H locs 0 0 (MQ below (QF (S := SU) D (wM cI b L v0) (wM cI b L) s.heap.size (fun r u => TyV u ∧ Rg 0 12 r ∧ r.toInt % 2 = 0)) ([.ref (b 0)]).toArray s 0 0 (va_A (wM cI b L v0) s.heap.size)) (F0 m 2 ls []) := by
    intro n2
    induction n2 with
    | zero =>
      intro y2_l1 v H locs ls g2_l1 x2_0 hV hP hD hS hl hm2
      exact absurd rfl (me_z g2_l1 hm2)
    | succ n2 ih2 =>
      intro y2_l1 v H locs ls g2_l1 x2_0 hV hP hD hS hl hm2
      have lp12 : ∀ (n12 : Nat) (y12_l2 : Int32) (v : SU) (H : Heap) (locs : List Loc) (ls : Array Slot), Rg 2 12 y2_l1 → Rg 0 12 y12_l2 → TyV v → va_P D cls (wM cI b L v) H → va_D A (wM cI b L v) → va_S A s.heap H locs → lv_has ls 3 [(0, .ref (b 0)), (1, .int y2_l1), (2, .int y12_l2)] → 12 - y12_l2.toInt < (n12 : Int) → W p l e (headSpec wsX12_wayLaid ({ frames := 8, cells := 0, slots := 0, locals := 320 })).room s m ([.ref (b 0)]).toArray below meth c H locs 0 0 (MQ below (QF (S := SU) D (wM cI b L v0) (wM cI b L) s.heap.size (fun r u => TyV u ∧ Rg 0 12 r ∧ r.toInt % 2 = 0)) ([.ref (b 0)]).toArray s 0 0 (va_A (wM cI b L v0) s.heap.size)) (F0 m 12 ls []) := by
        intro n12
        induction n12 with
        | zero =>
          intro y12_l2 v H locs ls g12_l1 g12_l2 hV hP hD hS hl hm12
          exact absurd rfl (me_z g12_l2 hm12)
        | succ n12 ih12 =>
          intro y12_l2 v H locs ls g12_l1 g12_l2 hV hP hD hS hl hm12
          refine lv_iload_n hx hb dX12_wayLaid_12 rfl (lv_at hl 2 rfl) ?_
          refine lv_aload_n hx hb dX12_wayLaid_13 rfl (lv_at hl 0 rfl) ?_
          refine va_get (D := D) (ci := 12) (v := .int (L 0 0)) (C := RX12) (T := TX12) (N := 24) hx hb hts hin12 hown hK hP 0 rfl rfl 0 (by decide) (hts (.fieldLink RX12 63 "MissedPointsModel" "many" "I") (by decide +kernel)) (fun _ h9 => h9) rfl dX12_wayLaid_14 ?_
          refine lv_icmp_ge (tgt := 57) hx hb dX12_wayLaid_17 (by decide) (fun c25767 => ?_) (fun c25767 => ?_)
          · refine wk_iinc (lv' := fun r => [(1, .int r), (0, .ref (b 0)), (2, .int y12_l2)]) (e1 := 4) (f := 14) hx hb dX12_wayLaid_57 hl (k := 1) rfl (by decide) g12_l1 (by decide) (fun _ => rfl) (fun r25768 ls hr25768 er25768 hl => ?_)
            refine lv_goto (tgt := 2) hx hb dX12_wayLaid_60 (by decide) ?_
            exact ih2 r25768 v _ _ ls (show Rg 2 20 r25768 from rg_w hr25768 (by decide) (by decide)) (show (r25768.toInt % 2 = 0) from by have y90 : (L 0 0).toInt ≤ y12_l2.toInt := (lz_le _ _).mp c25767; have y91 : Rg 4 14 r25768 := hr25768; have y92 : Rg 0 12 y12_l2 := g12_l2; have y9c3 : (0 : Int32).toInt = 0 := (by decide); have y9c4 : (1 : Int32).toInt = 1 := (by decide); omega) hV hP hD hS (lv_sub (l' := [(0, .ref (b 0)), (1, .int r25768)]) hl [1, 0] rfl) (me_up hm2 er25768 (by decide))
          · have g25769 : Rg 1 12 (L 0 0) := rg_ltr g12_l2 hL.1 (rg_nle c25767) (by decide)
            have g25770 : Rg 0 11 y12_l2 := rg_ltl g12_l2 hL.1 (rg_nle c25767) (by decide)
            refine lv_aload_n hx hb dX12_wayLaid_20 rfl (lv_at hl 0 rfl) ?_
            refine va_get (D := D) (ci := 12) (v := .ref (b 6)) (C := RX12) (T := TX12) (N := 24) hx hb hts hin12 hown hK hP 0 rfl rfl 7 (by decide) (hts (.fieldLink RX12 29 "MissedPointsModel" "way" "[I") (by decide +kernel)) (fun _ h9 => h9) rfl dX12_wayLaid_21 ?_
            refine lv_iconst (v := 0) hx hb dX12_wayLaid_24 (by decide) ?_
            refine lv_iload_n hx hb dX12_wayLaid_25 rfl (lv_at hl 2 rfl) ?_
            refine ms_6 hx hb hK hP hD hS hV rfl (rg_in (by decide : Rg 0 0 (0 : Int32)) (by decide) (by decide)) g25770 dX12_wayLaid_26 (fun v H locs hV ev25771 hP hD hS => ?_)
            refine lv_aload_n hx hb dX12_wayLaid_27 rfl (lv_at hl 0 rfl) ?_
            refine va_get (D := D) (ci := 12) (v := .ref (b 5)) (C := RX12) (T := TX12) (N := 24) hx hb hts hin12 hown hK hP 0 rfl rfl 6 (by decide) (hts (.fieldLink RX12 26 "MissedPointsModel" "mates" "[I") (by decide +kernel)) (fun _ h9 => h9) rfl dX12_wayLaid_28 ?_
            refine lv_iload_n hx hb dX12_wayLaid_31 rfl (lv_at hl 2 rfl) ?_
            refine wk_ald hx hb hK hP 5 0 rfl rfl (rg_in g25770 (by decide) (by decide)) dX12_wayLaid_32 hV.2.2.1 (fun r25772 hr25772 => ?_)
            refine lv_iconst (v := (-1)) hx hb dX12_wayLaid_33 (by decide) ?_
            refine lv_icmp_ne (tgt := 51) hx hb dX12_wayLaid_34 (by decide) (fun c25773 => ?_) (fun c25773 => ?_)
            · have g25774 : Rg 0 11 r25772 := rg_ne_lo (k := (-1)) hr25772 (by decide) c25773 (by decide)
              refine wk_iinc (lv' := fun r => [(2, .int r), (0, .ref (b 0)), (1, .int y2_l1)]) (e1 := 1) (f := 12) hx hb dX12_wayLaid_51 hl (k := 2) rfl (by decide) g25770 (by decide) (fun _ => rfl) (fun r25775 ls hr25775 er25775 hl => ?_)
              refine lv_goto (tgt := 12) hx hb dX12_wayLaid_54 (by decide) ?_
              exact ih12 r25775 v _ _ ls g12_l1 (show Rg 0 12 r25775 from rg_w hr25775 (by decide) (by decide)) hV hP hD hS (lv_sub (l' := [(0, .ref (b 0)), (1, .int y2_l1), (2, .int r25775)]) hl [1, 2, 0] rfl) (me_up hm12 er25775 (by decide))
            · have g25776 : Rg (-1) (-1) r25772 := wk_eql hr25772 (by decide : Rg (-1) (-1) ((-1) : Int32)) c25773 (by decide)
              refine lv_aload_n hx hb dX12_wayLaid_37 rfl (lv_at hl 0 rfl) ?_
              refine lv_iconst (v := 0) hx hb dX12_wayLaid_38 (by decide) ?_
              refine lv_iconst (v := 1) hx hb dX12_wayLaid_39 (by decide) ?_
              refine lv_iload_n hx hb dX12_wayLaid_40 rfl (lv_at hl 2 rfl) ?_
              refine wk_ishl1 (f := 2048) hx hb dX12_wayLaid_41 g25770 (by decide) (fun r25777 hr25777 qr25777 => ?_)
              refine lv_iload_n hx hb dX12_wayLaid_42 rfl (lv_at hl 1 rfl) ?_
              refine wk_qi (wM cI b L) v (As := [.int 0, .int r25777, .int y2_l1]) (rest := []) ⟨hx, hb, hml, hown, hts⟩ (w_X12_goes l D cI cS _ b L v hL hV (0 : Int32) r25777 y2_l1 (by decide : Rg 0 0 (0 : Int32)) g12_l1 (by have y90 : y12_l2.toInt < (L 0 0).toInt := (lz_lt _ _).mp (rg_nle c25767); have y91 : r25772.toInt = ((-1) : Int32).toInt := congrArg Int32.toInt c25773; have y92 : Rg 1 12 (L 0 0) := g25769; have y93 : Rg 0 11 y12_l2 := g25770; have y94 : Rg (-1) (-1) r25772 := g25776; have y95 : Rg 2 12 y2_l1 := g12_l1; have y96 : Rg 0 11 y12_l2 := g25770; have y97 : Rg 2 12 y2_l1 := g12_l1; have y98 : Rg 1 2048 r25777 := hr25777; have y9c9 : ((-1) : Int32).toInt = -1 := (by decide); have y9c10 : (0 : Int32).toInt = 0 := (by decide); have y9c11 : (1 : Int32).toInt = 1 := (by decide); have z0 : (0 : Int32).toInt = 0 := (by decide); omega)) hKK hP hD hS hA 0 (ci := 12) rfl rfl (cwV 3 hts gX12_wayLaid_X12_goes rfl rfl rfl (by decide +kernel) ⟨Nat.le_of_ble_eq_true rfl, Nat.le_of_ble_eq_true rfl⟩) rfl hl.1 rfl (Nat.le_of_ble_eq_true rfl) dX12_wayLaid_43 ⟨Nat.le_of_ble_eq_true rfl, Nat.le_of_ble_eq_true rfl⟩ (fun r25778 v H locs hr25778 hP hD hS => ?_)
              have hV := hr25778.1
              refine lv_if_eq (tgt := 51) hx hb dX12_wayLaid_46 (by decide) (fun c25779 => ?_) (fun c25779 => ?_)
              · have g25780 : Rg 0 0 r25778 := wk_eql hr25778.2.1 (by decide : Rg 0 0 (0 : Int32)) c25779 (by decide)
                refine wk_iinc (lv' := fun r => [(2, .int r), (0, .ref (b 0)), (1, .int y2_l1)]) (e1 := 1) (f := 12) hx hb dX12_wayLaid_51 hl (k := 2) rfl (by decide) g25770 (by decide) (fun _ => rfl) (fun r25781 ls hr25781 er25781 hl => ?_)
                refine lv_goto (tgt := 12) hx hb dX12_wayLaid_54 (by decide) ?_
                exact ih12 r25781 v _ _ ls g12_l1 (show Rg 0 12 r25781 from rg_w hr25781 (by decide) (by decide)) hV hP hD hS (lv_sub (l' := [(0, .ref (b 0)), (1, .int y2_l1), (2, .int r25781)]) hl [1, 2, 0] rfl) (me_up hm12 er25781 (by decide))
              · have g25782 : Rg 1 1 r25778 := rg_ne_lo (k := 0) hr25778.2.1 (by decide) c25779 (by decide)
                refine lv_iload_n hx hb dX12_wayLaid_49 rfl (lv_at hl 1 rfl) ?_
                subst hAe
                exact W.iret (v := y2_l1) hx hb hr (fun t ht hW => ⟨⟨_, v, rfl, ⟨hV, (show Rg 0 12 y2_l1 from rg_w g12_l1 (by decide) (by decide)), (by have y90 : y12_l2.toInt < (L 0 0).toInt := (lz_lt _ _).mp (rg_nle c25767); have y91 : r25772.toInt = ((-1) : Int32).toInt := congrArg Int32.toInt c25773; have y92 : ¬ r25778.toInt = (0 : Int32).toInt := fun z => c25779 (Int32.toInt_inj.mp z); have y93 : Rg 1 12 (L 0 0) := g25769; have y94 : Rg 0 11 y12_l2 := g25770; have y95 : Rg (-1) (-1) r25772 := g25776; have y96 : Rg 1 1 r25778 := g25782; have y97 : Rg 2 12 y2_l1 := g12_l1; have y98 : Rg 0 11 y12_l2 := g25770; have y99 : Rg 2 12 y2_l1 := g12_l1; have y910 : Rg 2 12 y2_l1 := g12_l1; have y9c11 : ((-1) : Int32).toInt = -1 := (by decide); have y9c12 : (0 : Int32).toInt = 0 := (by decide); have y9c13 : (1 : Int32).toInt = 1 := (by decide); have z9 := x2_0; omega)⟩, by rw [ht]; exact hP, hD⟩, hS.F ht⟩) hS.2.2 dX12_wayLaid_50
      refine lv_iload_n hx hb dX12_wayLaid_2 rfl (lv_at hl 1 rfl) ?_
      refine lv_aload_n hx hb dX12_wayLaid_3 rfl (lv_at hl 0 rfl) ?_
      refine va_get (D := D) (ci := 12) (v := .int (L 0 0)) (C := RX12) (T := TX12) (N := 24) hx hb hts hin12 hown hK hP 0 rfl rfl 0 (by decide) (hts (.fieldLink RX12 63 "MissedPointsModel" "many" "I") (by decide +kernel)) (fun _ h9 => h9) rfl dX12_wayLaid_4 ?_
      refine lv_icmp_gt (tgt := 63) hx hb dX12_wayLaid_7 (by decide) (fun c25783 => ?_) (fun c25783 => ?_)
      · refine lv_iconst (v := 0) hx hb dX12_wayLaid_63 (by decide) ?_
        subst hAe
        exact W.iret (v := 0) hx hb hr (fun t ht hW => ⟨⟨_, v, rfl, ⟨hV, (by decide : Rg 0 12 (0 : Int32)), (by decide)⟩, by rw [ht]; exact hP, hD⟩, hS.F ht⟩) hS.2.2 dX12_wayLaid_64
      · have g25784 : Rg 2 12 (L 0 0) := rg_ler g2_l1 hL.1 (rg_nlt c25783) (by decide)
        have g25785 : Rg 2 12 y2_l1 := rg_lel g2_l1 hL.1 (rg_nlt c25783) (by decide)
        refine lv_iconst (v := 0) hx hb dX12_wayLaid_10 (by decide) ?_
        refine lv_istore_n (lv' := [(2, .int 0), (0, .ref (b 0)), (1, .int y2_l1)]) hx hb dX12_wayLaid_11 rfl hl (by decide) rfl (fun ls hl => ?_)
        exact lp12 13 (0 : Int32) v _ _ ls g25785 (by decide : Rg 0 12 (0 : Int32)) hV hP hD hS (lv_sub (l' := [(0, .ref (b 0)), (1, .int y2_l1), (2, .int 0)]) hl [1, 2, 0] rfl) (me_i (by decide : Rg 0 12 (0 : Int32)) (by decide))
  refine lv_iconst (v := 2) hx hb dX12_wayLaid_0 (by decide) ?_
  refine lv_istore_n (lv' := [(1, .int 2), (0, .ref (b 0))]) hx hb dX12_wayLaid_1 rfl hl (by decide) rfl (fun ls hl => ?_)
  exact lp2 19 (2 : Int32) v _ _ ls (by decide : Rg 2 20 (2 : Int32)) (show ((2 : Int32).toInt % 2 = 0) from by have y9c0 : (0 : Int32).toInt = 0 := (by decide); have y9c1 : (1 : Int32).toInt = 1 := (by decide); have y9c2 : (2 : Int32).toInt = 2 := (by decide); omega) hV hP hD hS (lv_sub (l' := [(0, .ref (b 0)), (1, .int 2)]) hl [1, 0] rfl) (me_i (by decide : Rg 2 20 (2 : Int32)) (by decide))
set_option maxRecDepth 20000 in
theorem ggX12_way_X12_in : GoodIn wsX12_way wsX12_in := goodIn_r _ [18] (by decide +kernel) (by decide +kernel)
set_option maxRecDepth 20000 in
theorem gX12_way_X12_in : GoodIn wsX12_way (va_wsS RX12 66 yX12_in wsX12_in) := goodIn_app (goodIn_of _ (by decide +kernel)) ggX12_way_X12_in
set_option maxRecDepth 20000 in
theorem ggX12_way_X12_wayLaid : GoodIn wsX12_way wsX12_wayLaid := goodIn_r _ [29, 9, 1, 12, 30, 31, 32, 5, 33, 11, 23, 24, 25, 34, 35, 36, 37, 38, 39, 40, 41, 42, 43, 44, 45, 46, 47, 48, 49, 50, 51, 52, 53, 54, 55, 56, 57] (by decide +kernel) (by decide +kernel)
set_option maxRecDepth 20000 in
theorem gX12_way_X12_wayLaid : GoodIn wsX12_way (wsV RX12 166 RX12 yX12_wayLaid wsX12_wayLaid) := goodIn_app (goodIn_of _ (by decide +kernel)) ggX12_way_X12_wayLaid
theorem dX12_way_12 : decode cX12_way 12 = .ok (.aload_n 0, 1) := by decide +kernel
theorem dX12_way_13 : decode cX12_way 13 = .ok (.invokevirtual 166, 3) := by decide +kernel
theorem dX12_way_16 : decode cX12_way 16 = .ok (.istore 4, 2) := by decide +kernel
theorem dX12_way_18 : decode cX12_way 18 = .ok (.iload 4, 2) := by decide +kernel
theorem dX12_way_20 : decode cX12_way 20 = .ok (.ifCond .ne 7, 3) := by decide +kernel
theorem dX12_way_23 : decode cX12_way 23 = .ok (.iconst (-1), 1) := by decide +kernel
theorem dX12_way_24 : decode cX12_way 24 = .ok (.goto 35, 3) := by decide +kernel
theorem dX12_way_27 : decode cX12_way 27 = .ok (.iload_n 2, 1) := by decide +kernel
theorem dX12_way_28 : decode cX12_way 28 = .ok (.iconst (-1), 1) := by decide +kernel
theorem dX12_way_29 : decode cX12_way 29 = .ok (.if_icmp .ne 8, 3) := by decide +kernel
theorem dX12_way_32 : decode cX12_way 32 = .ok (.iload 4, 2) := by decide +kernel
theorem dX12_way_34 : decode cX12_way 34 = .ok (.goto 25, 3) := by decide +kernel
theorem dX12_way_37 : decode cX12_way 37 = .ok (.iload_n 2, 1) := by decide +kernel
theorem dX12_way_38 : decode cX12_way 38 = .ok (.iconst 0, 1) := by decide +kernel
theorem dX12_way_39 : decode cX12_way 39 = .ok (.iload 4, 2) := by decide +kernel
theorem dX12_way_41 : decode cX12_way 41 = .ok (.iconst 1, 1) := by decide +kernel
theorem dX12_way_42 : decode cX12_way 42 = .ok (.isub, 1) := by decide +kernel
theorem dX12_way_43 : decode cX12_way 43 = .ok (.invokestatic 66, 3) := by decide +kernel
theorem dX12_way_46 : decode cX12_way 46 = .ok (.ifCond .eq 12, 3) := by decide +kernel
theorem dX12_way_49 : decode cX12_way 49 = .ok (.aload_n 0, 1) := by decide +kernel
theorem dX12_way_50 : decode cX12_way 50 = .ok (.getfield 29, 3) := by decide +kernel
theorem dX12_way_53 : decode cX12_way 53 = .ok (.iload_n 2, 1) := by decide +kernel
theorem dX12_way_54 : decode cX12_way 54 = .ok (.iaload, 1) := by decide +kernel
theorem dX12_way_55 : decode cX12_way 55 = .ok (.goto 4, 3) := by decide +kernel
theorem dX12_way_58 : decode cX12_way 58 = .ok (.iconst (-1), 1) := by decide +kernel
theorem dX12_way_59 : decode cX12_way 59 = .ok (.ireturn, 1) := by decide +kernel
set_option maxHeartbeats 4000000 in
set_option maxRecDepth 100000 in
theorem w_X12_way (l : Launch) (D : va_G) (cI cS : ClassId) (sz : Nat) (b : Nat → Nat) (L v0 : SU) (hL : TyL L) (hV : TyV v0) (x0 x1 : Int32) : Met l yX12_way wsX12_way ({ frames := 9, cells := 0, slots := 0, locals := 360 }) (PQ D cI cS (wM cI b L v0) sz [.ref (b 0), .int x0, .int x1]) (QF (S := SU) D (wM cI b L v0) (wM cI b L) sz (fun r u => TyV u ∧ Rg (-11) 12 r ∧ True)) 0 0 (va_A (wM cI b L v0) sz) := by
  refine Met.ofW (cc := cX12_way) (maxL := 5) (ret := (some .int)) (by decide) rfl ?_
  intro p e s m args below meth c s₁ B hml hv
  obtain ⟨rfl, hsz, hP, hKK, hD0⟩ := hv
  have hx := B.exec
  have hb := B.bytes
  have hr := B.returns
  have hts := atoms_spec (ws := wsX12_way) B.pre
  have hown : s.vm.findClass RX12 = some m.cls := findClass_of_methodNamed B.named
  have hlocks := B.notSynchronized
  have hK := hKK.1
  have hin12 : ∀ w ∈ wsX120, w ∈ wsX12_way := by decide +kernel
  subst hsz
  have hD := hD0.self (sz := s.heap.size)
  obtain ⟨A, hAe⟩ : ∃ A, A = va_A (wM cI b L v0) s.heap.size := ⟨_, rfl⟩
  rw [← hAe] at hD
  have hA : ∀ q : Nat, s.heap.size ≤ q → A q := fun q h => by rw [hAe]; exact Or.inr h
  have hS : va_S A s.heap s.heap [] := va_S.rf
  have hl := lv_entry ([.ref (b 0), .int x0, .int x1]) (n := 5) (Nat.le_of_ble_eq_true rfl)
  rw [lg_entry_eq]
  generalize (lg_sl ([.ref (b 0), .int x0, .int x1]) ++ List.replicate (5 - (lg_sl ([.ref (b 0), .int x0, .int x1])).length) Slot.unset).toArray = ls at hl ⊢
  have hl : lv_has ls 5 [(0, .ref (b 0)), (1, .int x0), (2, .int x1)] := hl
  obtain ⟨v, hv9⟩ : ∃ v : SU, v = v0 := ⟨_, rfl⟩
  rw [← hv9] at hP hD hV
  refine lv_aload_n hx hb dX12_way_0 rfl (lv_at hl 0 rfl) ?_
  refine lv_iload_n hx hb dX12_way_1 rfl (lv_at hl 1 rfl) ?_
  refine wk_qi (wM cI b L) v (As := [.int x0]) (rest := []) ⟨hx, hb, hml, hown, hts⟩ (w_X12_wrongPairing l D cI cS _ b L v hL hV x0) hKK hP hD hS hA 0 (ci := 12) rfl rfl (cwV 1 hts gX12_way_X12_wrongPairing rfl rfl rfl (by decide +kernel) ⟨Nat.le_of_ble_eq_true rfl, Nat.le_of_ble_eq_true rfl⟩) rfl hl.1 rfl (Nat.le_of_ble_eq_true rfl) dX12_way_2 ⟨Nat.le_of_ble_eq_true rfl, Nat.le_of_ble_eq_true rfl⟩ (fun r25807 v H locs hr25807 hP hD hS => ?_)
  have hV := hr25807.1
  refine lv_istore_n (lv' := [(3, .int r25807), (0, .ref (b 0)), (1, .int x0), (2, .int x1)]) hx hb dX12_way_5 rfl hl (by decide) rfl (fun ls hl => ?_)
  refine lv_iload_n hx hb dX12_way_6 rfl (lv_at hl 0 rfl) ?_
  refine lv_if_eq (tgt := 12) hx hb dX12_way_7 (by decide) (fun c25808 => ?_) (fun c25808 => ?_)
  · have g25809 : Rg 0 3 x0 := (hr25807.2.2 c25808)
    have g25810 : Rg 0 0 r25807 := wk_eql hr25807.2.1 (by decide : Rg 0 0 (0 : Int32)) c25808 (by decide)
    refine lv_aload_n hx hb dX12_way_12 rfl (lv_at hl 1 rfl) ?_
    refine wk_qi (wM cI b L) v (As := []) (rest := []) ⟨hx, hb, hml, hown, hts⟩ (w_X12_wayLaid l D cI cS _ b L v hL hV) hKK hP hD hS hA 0 (ci := 12) rfl rfl (cwV 0 hts gX12_way_X12_wayLaid rfl rfl rfl (by decide +kernel) ⟨Nat.le_of_ble_eq_true rfl, Nat.le_of_ble_eq_true rfl⟩) rfl hl.1 rfl (Nat.le_of_ble_eq_true rfl) dX12_way_13 ⟨Nat.le_of_ble_eq_true rfl, Nat.le_of_ble_eq_true rfl⟩ (fun r25811 v H locs hr25811 hP hD hS => ?_)
    have hV := hr25811.1
    have ep25812 : r25811.toInt % 2 = 0 := hr25811.2.2
    refine lv_istore (lv' := [(4, .int r25811), (3, .int r25807), (0, .ref (b 0)), (1, .int x0), (2, .int x1)]) hx hb dX12_way_16 hl (by decide) rfl (fun ls hl => ?_)
    refine lv_iload hx hb dX12_way_18 (lv_at hl 0 rfl) ?_
    refine lv_if_ne (tgt := 27) hx hb dX12_way_20 (by decide) (fun c25813 => ?_) (fun c25813 => ?_)
    · have g25814 : Rg 1 12 r25811 := rg_ne_lo (k := 0) hr25811.2.1 (by decide) c25813 (by decide)
      refine lv_iload_n hx hb dX12_way_27 rfl (lv_at hl 4 rfl) ?_
      refine lv_iconst (v := (-1)) hx hb dX12_way_28 (by decide) ?_
      refine lv_icmp_ne (tgt := 37) hx hb dX12_way_29 (by decide) (fun c25815 => ?_) (fun c25815 => ?_)
      · refine lv_iload_n hx hb dX12_way_37 rfl (lv_at hl 4 rfl) ?_
        refine lv_iconst (v := 0) hx hb dX12_way_38 (by decide) ?_
        refine lv_iload hx hb dX12_way_39 (lv_at hl 0 rfl) ?_
        refine lv_iconst (v := 1) hx hb dX12_way_41 (by decide) ?_
        refine wk_isub (e1 := 0) (f := 11) hx hb dX12_way_42 g25814 (by decide : Rg 1 1 (1 : Int32)) (by decide) (fun r25816 hr25816 er25816 qr25816 => ?_)
        refine lz_ss (As := [.int x1, .int 0, .int r25816]) (rest := []) ⟨hx, hb, hml, hown, hts⟩ (w_X12_in l D cI cS x1 (0 : Int32) r25816) hKK (hP.sub (ws' := []) [] rfl) (va_cwS 3 hts gX12_way_X12_in rfl rfl rfl (by decide +kernel) ⟨Nat.le_of_ble_eq_true rfl, Nat.le_of_ble_eq_true rfl⟩) rfl hl.1 rfl (Nat.le_of_ble_eq_true rfl) dX12_way_43 ⟨Nat.le_of_ble_eq_true rfl, Nat.le_of_ble_eq_true rfl⟩ (fun r25817 hr25817 => ?_)
        refine lv_if_eq (tgt := 58) hx hb dX12_way_46 (by decide) (fun c25818 => ?_) (fun c25818 => ?_)
        · have zt25819 : (x1.toInt < (0 : Int32).toInt ∨ r25816.toInt < x1.toInt) := hr25817.2.1 c25818
          have g25820 : Rg 0 0 r25817 := wk_eql hr25817.1 (by decide : Rg 0 0 (0 : Int32)) c25818 (by decide)
          refine lv_iconst (v := (-1)) hx hb dX12_way_58 (by decide) ?_
          subst hAe
          exact W.iret (v := (-1)) hx hb hr (fun t ht hW => ⟨⟨_, v, rfl, ⟨hV, (by decide : Rg (-11) 12 ((-1) : Int32)), trivial⟩, by rw [ht]; exact hP, hD⟩, hS.F ht⟩) hS.2.2 dX12_way_59
        · have zn25821 : (0 : Int32).toInt ≤ x1.toInt ∧ x1.toInt ≤ r25816.toInt := (hr25817.2.2 c25818)
          have g25822 : Rg 0 11 x1 := wk_in3 (rg_any x1) (by decide : Rg 0 0 (0 : Int32)) hr25816 (hr25817.2.2 c25818) (by decide)
          have g25823 : Rg 1 1 r25817 := rg_ne_lo (k := 0) hr25817.1 (by decide) c25818 (by decide)
          refine lv_aload_n hx hb dX12_way_49 rfl (lv_at hl 2 rfl) ?_
          refine va_get (D := D) (ci := 12) (v := .ref (b 6)) (C := RX12) (T := TX12) (N := 24) hx hb hts hin12 hown hK hP 0 rfl rfl 7 (by decide) (hts (.fieldLink RX12 29 "MissedPointsModel" "way" "[I") (by decide +kernel)) (fun _ h9 => h9) rfl dX12_way_50 ?_
          refine lv_iload_n hx hb dX12_way_53 rfl (lv_at hl 4 rfl) ?_
          refine wk_ald hx hb hK hP 6 0 rfl rfl (rg_in g25822 (by decide) (by decide)) dX12_way_54 hV.2.2.2.1 (fun r25824 hr25824 => ?_)
          refine lv_goto (tgt := 59) hx hb dX12_way_55 (by decide) ?_
          subst hAe
          exact W.iret (v := r25824) hx hb hr (fun t ht hW => ⟨⟨_, v, rfl, ⟨hV, (show Rg (-11) 12 r25824 from rg_w hr25824 (by decide) (by decide)), trivial⟩, by rw [ht]; exact hP, hD⟩, hS.F ht⟩) hS.2.2 dX12_way_59
      · have g25825 : Rg (-1) (-1) x1 := wk_eql (rg_any x1) (by decide : Rg (-1) (-1) ((-1) : Int32)) c25815 (by decide)
        refine lv_iload hx hb dX12_way_32 (lv_at hl 0 rfl) ?_
        refine lv_goto (tgt := 59) hx hb dX12_way_34 (by decide) ?_
        subst hAe
        exact W.iret (v := r25811) hx hb hr (fun t ht hW => ⟨⟨_, v, rfl, ⟨hV, (show Rg (-11) 12 r25811 from rg_w g25814 (by decide) (by decide)), trivial⟩, by rw [ht]; exact hP, hD⟩, hS.F ht⟩) hS.2.2 dX12_way_59
    · have g25826 : Rg 0 0 r25811 := wk_eql hr25811.2.1 (by decide : Rg 0 0 (0 : Int32)) c25813 (by decide)
      refine lv_iconst (v := (-1)) hx hb dX12_way_23 (by decide) ?_
      refine lv_goto (tgt := 59) hx hb dX12_way_24 (by decide) ?_
      subst hAe
      exact W.iret (v := (-1)) hx hb hr (fun t ht hW => ⟨⟨_, v, rfl, ⟨hV, (by decide : Rg (-11) 12 ((-1) : Int32)), trivial⟩, by rw [ht]; exact hP, hD⟩, hS.F ht⟩) hS.2.2 dX12_way_59
  · have g25827 : Rg (-11) (-1) r25807 := rg_ne_hi (k := 0) hr25807.2.1 (by decide) c25808 (by decide)
    refine lv_iload_n hx hb dX12_way_10 rfl (lv_at hl 0 rfl) ?_
    subst hAe
    exact W.iret (v := r25807) hx hb hr (fun t ht hW => ⟨⟨_, v, rfl, ⟨hV, (show Rg (-11) 12 r25807 from rg_w g25827 (by decide) (by decide)), trivial⟩, by rw [ht]; exact hP, hD⟩, hS.F ht⟩) hS.2.2 dX12_way_11
