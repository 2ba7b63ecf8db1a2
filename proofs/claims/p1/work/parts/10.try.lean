theorem dX2_hasPoint_0 : decode cX2_hasPoint 0 = .ok (.iload_n 1, 1) := by decide +kernel
theorem dX2_hasPoint_1 : decode cX2_hasPoint 1 = .ok (.ifCond .lt 15, 3) := by decide +kernel
theorem dX2_hasPoint_16 : decode cX2_hasPoint 16 = .ok (.iconst 0, 1) := by decide +kernel
theorem dX2_hasPoint_17 : decode cX2_hasPoint 17 = .ok (.ireturn, 1) := by decide +kernel
theorem dX2_hasPoint_4 : decode cX2_hasPoint 4 = .ok (.iload_n 1, 1) := by decide +kernel
theorem dX2_hasPoint_5 : decode cX2_hasPoint 5 = .ok (.aload_n 0, 1) := by decide +kernel
theorem dX2_hasPoint_6 : decode cX2_hasPoint 6 = .ok (.getfield 15, 3) := by decide +kernel
theorem dX2_hasPoint_9 : decode cX2_hasPoint 9 = .ok (.if_icmp .ge 7, 3) := by decide +kernel
set_option maxRecDepth 20000 in
theorem ggX2_areTwo_X2_hasPoint : GoodIn wsX2_areTwo wsX2_hasPoint := goodIn_r _ [5, 6, 7, 8, 9] (by decide +kernel) (by decide +kernel)
set_option maxRecDepth 20000 in
theorem gX2_areTwo_X2_hasPoint : GoodIn wsX2_areTwo (wsV RX2 23 RX2 yX2_hasPoint wsX2_hasPoint) := goodIn_app (goodIn_of _ (by decide +kernel)) ggX2_areTwo_X2_hasPoint
theorem dX2_areTwo_0 : decode cX2_areTwo 0 = .ok (.aload_n 0, 1) := by decide +kernel
theorem dX2_areTwo_1 : decode cX2_areTwo 1 = .ok (.iload_n 1, 1) := by decide +kernel
theorem dX2_areTwo_2 : decode cX2_areTwo 2 = .ok (.invokevirtual 23, 3) := by decide +kernel
theorem dX2_areTwo_25 : decode cX2_areTwo 25 = .ok (.iconst 0, 1) := by decide +kernel
theorem dX2_areTwo_26 : decode cX2_areTwo 26 = .ok (.ireturn, 1) := by decide +kernel
theorem dX2_areTwo_5 : decode cX2_areTwo 5 = .ok (.ifCond .eq 20, 3) := by decide +kernel
theorem dX12_in_0 : decode cX12_in 0 = .ok (.iload_n 0, 1) := by decide +kernel
theorem dX12_in_1 : decode cX12_in 1 = .ok (.iload_n 1, 1) := by decide +kernel
theorem dX12_in_10 : decode cX12_in 10 = .ok (.iconst 1, 1) := by decide +kernel
theorem dX12_in_11 : decode cX12_in 11 = .ok (.goto 4, 3) := by decide +kernel
theorem dX12_in_14 : decode cX12_in 14 = .ok (.iconst 0, 1) := by decide +kernel
theorem dX12_in_15 : decode cX12_in 15 = .ok (.ireturn, 1) := by decide +kernel
theorem dX12_in_2 : decode cX12_in 2 = .ok (.if_icmp .lt 12, 3) := by decide +kernel
theorem dX12_in_5 : decode cX12_in 5 = .ok (.iload_n 0, 1) := by decide +kernel
theorem dX12_in_6 : decode cX12_in 6 = .ok (.iload_n 2, 1) := by decide +kernel
theorem dX12_in_7 : decode cX12_in 7 = .ok (.if_icmp .gt 7, 3) := by decide +kernel
theorem dX2_all_0 : decode cX2_all 0 = .ok (.iconst 1, 1) := by decide +kernel
theorem dX2_all_1 : decode cX2_all 1 = .ok (.aload_n 0, 1) := by decide +kernel
theorem dX2_all_2 : decode cX2_all 2 = .ok (.getfield 15, 3) := by decide +kernel
theorem dX2_all_5 : decode cX2_all 5 = .ok (.ishl, 1) := by decide +kernel
theorem dX2_all_6 : decode cX2_all 6 = .ok (.iconst 1, 1) := by decide +kernel
theorem dX2_all_7 : decode cX2_all 7 = .ok (.isub, 1) := by decide +kernel
theorem dX2_all_8 : decode cX2_all 8 = .ok (.ireturn, 1) := by decide +kernel
set_option maxHeartbeats 4000000 in
set_option maxRecDepth 100000 in
theorem c_X2_hasPoint_0 (l : Launch) (D : va_G) (cI cS : ClassId) (h0 h1 : Nat) (x0 : Int32) : Met l yX2_hasPoint wsX2_hasPoint ({ frames := 0, cells := 0, slots := 0, locals := 0 }) (PS D cI cS [(h0, .inr (2, [.ref h1, .int 0, .int 0]))] [.ref h0, .int x0]) (vp_Si (fun r => r = (0 : Int32))) 0 0 (fun _ => False) := by
  refine Met.ofW (cc := cX2_hasPoint) (maxL := 2) (ret := (some .boolean)) (by decide) rfl ?_
  intro p e s m args below meth c s₁ B hml hv
  obtain ⟨rfl, hP, hKK⟩ := hv
  have hx := B.exec
  have hb := B.bytes
  have hr := B.returns
  have hts := atoms_spec (ws := wsX2_hasPoint) B.pre
  have hown : s.vm.findClass RX2 = some m.cls := findClass_of_methodNamed B.named
  have hlocks := B.notSynchronized
  have hK := hKK.1
  have hN := hKK.2
  have hin2 : ∀ w ∈ wsX20, w ∈ wsX2_hasPoint := by decide +kernel
  have hl := lv_entry ([.ref h0, .int x0]) (n := 2) (Nat.le_of_ble_eq_true rfl)
  rw [lg_entry_eq]
  generalize (lg_sl ([.ref h0, .int x0]) ++ List.replicate (2 - (lg_sl ([.ref h0, .int x0])).length) Slot.unset).toArray = ls at hl ⊢
  have hl : lv_has ls 2 [(0, .ref h0), (1, .int x0)] := hl
  refine lv_iload_n hx hb dX2_hasPoint_0 rfl (lv_at hl 1 rfl) ?_
  refine lv_if_lt (tgt := 16) hx hb dX2_hasPoint_1 (by decide) (fun c1 => ?_) (fun c1 => ?_)
  · refine lv_iconst (v := 0) hx hb dX2_hasPoint_16 (by decide) ?_
    exact W.zret (v := 0) hx hb hr (by decide) (fun t ht hW => ⟨_, rfl, rfl, ht⟩) (fun q hq => absurd hq List.not_mem_nil) dX2_hasPoint_17
  · refine lv_iload_n hx hb dX2_hasPoint_4 rfl (lv_at hl 1 rfl) ?_
    refine lv_aload_n hx hb dX2_hasPoint_5 rfl (lv_at hl 0 rfl) ?_
    refine va_get (D := D) (ci := 2) (v := .int 0) (C := RX2) (T := TX2) (N := 3) hx hb hts hin2 hown hK hP 0 rfl rfl 1 (by decide) (hts (.fieldLink RX2 15 "MissedPoints$Net" "size" "I") (by decide +kernel)) (fun _ h9 => h9) rfl dX2_hasPoint_6 ?_
    refine lv_icmp_ge (tgt := 16) hx hb dX2_hasPoint_9 (by decide) (fun c2 => ?_) (fun c2 => ?_)
    · refine lv_iconst (v := 0) hx hb dX2_hasPoint_16 (by decide) ?_
      exact W.zret (v := 0) hx hb hr (by decide) (fun t ht hW => ⟨_, rfl, rfl, ht⟩) (fun q hq => absurd hq List.not_mem_nil) dX2_hasPoint_17
    · exact absurd (show (0 : Int32) ≤ x0 from by have zf1 := mt (lz_lt x0 (0 : Int32)).mpr c1; have zn0 : (0 : Int32).toInt = 0 := (by decide); rw [lz_le]; omega) c2
set_option maxHeartbeats 4000000 in
set_option maxRecDepth 100000 in
theorem c_X2_hasPoint_1 (l : Launch) (D : va_G) (cI cS : ClassId) (h0 h1 : Nat) (x0 : Int32) : Met l yX2_hasPoint wsX2_hasPoint ({ frames := 0, cells := 0, slots := 0, locals := 0 }) (PS D cI cS [(h0, .inr (2, [.ref h1, .int 0, .int 0]))] [.ref h0, .int x0]) (vp_Si (fun r => r = (0 : Int32))) 0 0 (fun _ => False) := by
  refine Met.ofW (cc := cX2_hasPoint) (maxL := 2) (ret := (some .boolean)) (by decide) rfl ?_
  intro p e s m args below meth c s₁ B hml hv
  obtain ⟨rfl, hP, hKK⟩ := hv
  have hx := B.exec
  have hb := B.bytes
  have hr := B.returns
  have hts := atoms_spec (ws := wsX2_hasPoint) B.pre
  have hown : s.vm.findClass RX2 = some m.cls := findClass_of_methodNamed B.named
  have hlocks := B.notSynchronized
  have hK := hKK.1
  have hN := hKK.2
  have hin2 : ∀ w ∈ wsX20, w ∈ wsX2_hasPoint := by decide +kernel
  have hl := lv_entry ([.ref h0, .int x0]) (n := 2) (Nat.le_of_ble_eq_true rfl)
  rw [lg_entry_eq]
  generalize (lg_sl ([.ref h0, .int x0]) ++ List.replicate (2 - (lg_sl ([.ref h0, .int x0])).length) Slot.unset).toArray = ls at hl ⊢
  have hl : lv_has ls 2 [(0, .ref h0), (1, .int x0)] := hl
  refine lv_iload_n hx hb dX2_hasPoint_0 rfl (lv_at hl 1 rfl) ?_
  refine lv_if_lt (tgt := 16) hx hb dX2_hasPoint_1 (by decide) (fun c3 => ?_) (fun c3 => ?_)
  · refine lv_iconst (v := 0) hx hb dX2_hasPoint_16 (by decide) ?_
    exact W.zret (v := 0) hx hb hr (by decide) (fun t ht hW => ⟨_, rfl, rfl, ht⟩) (fun q hq => absurd hq List.not_mem_nil) dX2_hasPoint_17
  · refine lv_iload_n hx hb dX2_hasPoint_4 rfl (lv_at hl 1 rfl) ?_
    refine lv_aload_n hx hb dX2_hasPoint_5 rfl (lv_at hl 0 rfl) ?_
    refine va_get (D := D) (ci := 2) (v := .int 0) (C := RX2) (T := TX2) (N := 3) hx hb hts hin2 hown hK hP 0 rfl rfl 1 (by decide) (hts (.fieldLink RX2 15 "MissedPoints$Net" "size" "I") (by decide +kernel)) (fun _ h9 => h9) rfl dX2_hasPoint_6 ?_
    refine lv_icmp_ge (tgt := 16) hx hb dX2_hasPoint_9 (by decide) (fun c4 => ?_) (fun c4 => ?_)
    · refine lv_iconst (v := 0) hx hb dX2_hasPoint_16 (by decide) ?_
      exact W.zret (v := 0) hx hb hr (by decide) (fun t ht hW => ⟨_, rfl, rfl, ht⟩) (fun q hq => absurd hq List.not_mem_nil) dX2_hasPoint_17
    · exact absurd (show (0 : Int32) ≤ x0 from by have zf1 := mt (lz_lt x0 (0 : Int32)).mpr c3; have zn0 : (0 : Int32).toInt = 0 := (by decide); rw [lz_le]; omega) c4
set_option maxHeartbeats 4000000 in
set_option maxRecDepth 100000 in
theorem c_X2_areTwo_0 (l : Launch) (D : va_G) (cI cS : ClassId) (h0 h1 : Nat) (x0 x1 : Int32) : Met l yX2_areTwo wsX2_areTwo ({ frames := 1, cells := 0, slots := 0, locals := 40 }) (PS D cI cS [(h0, .inr (2, [.ref h1, .int 0, .int 0]))] [.ref h0, .int x0, .int x1]) (vp_Si (fun r => r = (0 : Int32))) 0 0 (fun _ => False) := by
  refine Met.ofW (cc := cX2_areTwo) (maxL := 3) (ret := (some .boolean)) (by decide) rfl ?_
  intro p e s m args below meth c s₁ B hml hv
  obtain ⟨rfl, hP, hKK⟩ := hv
  have hx := B.exec
  have hb := B.bytes
  have hr := B.returns
  have hts := atoms_spec (ws := wsX2_areTwo) B.pre
  have hown : s.vm.findClass RX2 = some m.cls := findClass_of_methodNamed B.named
  have hlocks := B.notSynchronized
  have hK := hKK.1
  have hN := hKK.2
  have hl := lv_entry ([.ref h0, .int x0, .int x1]) (n := 3) (Nat.le_of_ble_eq_true rfl)
  rw [lg_entry_eq]
  generalize (lg_sl ([.ref h0, .int x0, .int x1]) ++ List.replicate (3 - (lg_sl ([.ref h0, .int x0, .int x1])).length) Slot.unset).toArray = ls at hl ⊢
  have hl : lv_has ls 3 [(0, .ref h0), (1, .int x0), (2, .int x1)] := hl
  refine lv_aload_n hx hb dX2_areTwo_0 rfl (lv_at hl 0 rfl) ?_
  refine lv_iload_n hx hb dX2_areTwo_1 rfl (lv_at hl 1 rfl) ?_
  have hPc := hP.sub (ws' := [(h0, .inr (2, [.ref h1, .int 0, .int 0]))]) [0] rfl
  refine lz_sv (As := [.int x0]) (rest := []) ⟨hx, hb, hml, hown, hts⟩ (c_X2_hasPoint_1 l D cI cS h0 h1 x0) hKK hPc (ci := 2) rfl rfl (cwV 1 hts gX2_areTwo_X2_hasPoint rfl rfl rfl (by decide +kernel) ⟨Nat.le_of_ble_eq_true rfl, Nat.le_of_ble_eq_true rfl⟩) rfl hl.1 rfl (Nat.le_of_ble_eq_true rfl) dX2_areTwo_2 ⟨Nat.le_of_ble_eq_true rfl, Nat.le_of_ble_eq_true rfl⟩ (fun r5 hw => ?_)
  subst hw
  refine lv_if_eq (tgt := 25) hx hb dX2_areTwo_5 (by decide) (fun c6 => ?_) (fun c6 => ?_)
  · refine lv_iconst (v := 0) hx hb dX2_areTwo_25 (by decide) ?_
    exact W.zret (v := 0) hx hb hr (by decide) (fun t ht hW => ⟨_, rfl, rfl, ht⟩) (fun q hq => absurd hq List.not_mem_nil) dX2_areTwo_26
  · exact absurd c6 (by decide)
set_option maxHeartbeats 4000000 in
set_option maxRecDepth 100000 in
theorem c_X12_in_0 (l : Launch) (D : va_G) (cI cS : ClassId) (x0 : Int32) : Met l yX12_in wsX12_in ({ frames := 0, cells := 0, slots := 0, locals := 0 }) (PS D cI cS [] [.int x0, .int 1, .int 12]) (vp_Si (fun r => r = if x0 < 1 then (0 : Int32) else (if (12 : Int32) < x0 then (0 : Int32) else (1 : Int32)))) 0 0 (fun _ => False) := by
  refine Met.ofW (cc := cX12_in) (maxL := 3) (ret := (some .boolean)) (by decide) rfl ?_
  intro p e s m args below meth c s₁ B hml hv
  obtain ⟨rfl, hP, hKK⟩ := hv
  have hx := B.exec
  have hb := B.bytes
  have hr := B.returns
  have hts := atoms_spec (ws := wsX12_in) B.pre
  have hown : s.vm.findClass RX12 = some m.cls := findClass_of_methodNamed B.named
  have hlocks := B.notSynchronized
  have hK := hKK.1
  have hN := hKK.2
  have hl := lv_entry ([.int x0, .int 1, .int 12]) (n := 3) (Nat.le_of_ble_eq_true rfl)
  rw [lg_entry_eq]
  generalize (lg_sl ([.int x0, .int 1, .int 12]) ++ List.replicate (3 - (lg_sl ([.int x0, .int 1, .int 12])).length) Slot.unset).toArray = ls at hl ⊢
  have hl : lv_has ls 3 [(0, .int x0), (1, .int 1), (2, .int 12)] := hl
  refine lv_iload_n hx hb dX12_in_0 rfl (lv_at hl 0 rfl) ?_
  refine lv_iload_n hx hb dX12_in_1 rfl (lv_at hl 1 rfl) ?_
  refine lv_icmp_lt (tgt := 14) hx hb dX12_in_2 (by decide) (fun c7 => ?_) (fun c7 => ?_)
  · refine lv_iconst (v := 0) hx hb dX12_in_14 (by decide) ?_
    exact W.zret (v := 0) hx hb hr (by decide) (fun t ht hW => ⟨_, rfl, by rw [if_pos c7], ht⟩) (fun q hq => absurd hq List.not_mem_nil) dX12_in_15
  · refine lv_iload_n hx hb dX12_in_5 rfl (lv_at hl 0 rfl) ?_
    refine lv_iload_n hx hb dX12_in_6 rfl (lv_at hl 2 rfl) ?_
    refine lv_icmp_gt (tgt := 14) hx hb dX12_in_7 (by decide) (fun c8 => ?_) (fun c8 => ?_)
    · refine lv_iconst (v := 0) hx hb dX12_in_14 (by decide) ?_
      exact W.zret (v := 0) hx hb hr (by decide) (fun t ht hW => ⟨_, rfl, by rw [if_neg c7, if_pos c8], ht⟩) (fun q hq => absurd hq List.not_mem_nil) dX12_in_15
    · refine lv_iconst (v := 1) hx hb dX12_in_10 (by decide) ?_
      refine lv_goto (tgt := 15) hx hb dX12_in_11 (by decide) ?_
      exact W.zret (v := 1) hx hb hr (by decide) (fun t ht hW => ⟨_, rfl, by rw [if_neg c7, if_neg c8], ht⟩) (fun q hq => absurd hq List.not_mem_nil) dX12_in_15
set_option maxHeartbeats 4000000 in
set_option maxRecDepth 100000 in
theorem c_X2_all_0 (l : Launch) (D : va_G) (cI cS : ClassId) (h0 h1 : Nat) : Met l yX2_all wsX2_all ({ frames := 0, cells := 0, slots := 0, locals := 0 }) (PS D cI cS [(h0, .inr (2, [.ref h1, .int 0, .int 0]))] [.ref h0]) (vp_Si (fun r => r = (0 : Int32))) 0 0 (fun _ => False) := by
  refine Met.ofW (cc := cX2_all) (maxL := 1) (ret := (some .int)) (by decide) rfl ?_
  intro p e s m args below meth c s₁ B hml hv
  obtain ⟨rfl, hP, hKK⟩ := hv
  have hx := B.exec
  have hb := B.bytes
  have hr := B.returns
  have hts := atoms_spec (ws := wsX2_all) B.pre
  have hown : s.vm.findClass RX2 = some m.cls := findClass_of_methodNamed B.named
  have hlocks := B.notSynchronized
  have hK := hKK.1
  have hN := hKK.2
  have hin2 : ∀ w ∈ wsX20, w ∈ wsX2_all := by decide +kernel
  have hl := lv_entry ([.ref h0]) (n := 1) (Nat.le_of_ble_eq_true rfl)
  rw [lg_entry_eq]
  generalize (lg_sl ([.ref h0]) ++ List.replicate (1 - (lg_sl ([.ref h0])).length) Slot.unset).toArray = ls at hl ⊢
  have hl : lv_has ls 1 [(0, .ref h0)] := hl
  refine lv_iconst (v := 1) hx hb dX2_all_0 (by decide) ?_
  refine lv_aload_n hx hb dX2_all_1 rfl (lv_at hl 0 rfl) ?_
  refine va_get (D := D) (ci := 2) (v := .int 0) (C := RX2) (T := TX2) (N := 3) hx hb hts hin2 hown hK hP 0 rfl rfl 1 (by decide) (hts (.fieldLink RX2 15 "MissedPoints$Net" "size" "I") (by decide +kernel)) (fun _ h9 => h9) rfl dX2_all_2 ?_
  refine lv_ishl hx hb dX2_all_5 ?_
  refine lz_top (y := 1) (by decide) ?_
  refine lv_iconst (v := 1) hx hb dX2_all_6 (by decide) ?_
  refine lv_isub hx hb dX2_all_7 ?_
  refine lz_top (y := 0) (by decide) ?_
  exact W.iret (v := 0) hx hb hr (fun t ht hW => ⟨_, rfl, rfl, ht⟩) (fun q hq => absurd hq List.not_mem_nil) dX2_all_8
