set_option maxRecDepth 20000 in
theorem ggX11_refusalOfNumber_X11_refusalOfSheet : GoodIn wsX11_refusalOfNumber wsX11_refusalOfSheet := goodIn_r _ [6, 1, 7, 8, 5, 9, 10, 11, 12, 13, 14, 15, 21, 22, 23, 24, 25, 26, 27, 28, 29, 30, 31, 32, 33, 34, 35, 36, 37, 38, 39] (by decide +kernel) (by decide +kernel)
set_option maxRecDepth 20000 in
theorem gX11_refusalOfNumber_X11_refusalOfSheet : GoodIn wsX11_refusalOfNumber (wsV RX11 218 RX11 yX11_refusalOfSheet wsX11_refusalOfSheet) := goodIn_app (goodIn_of _ (by decide +kernel)) ggX11_refusalOfNumber_X11_refusalOfSheet
theorem dX11_refusalOfNumber_0 : decode cX11_refusalOfNumber 0 = .ok (.aload_n 0, 1) := by decide +kernel
theorem dX11_refusalOfNumber_1 : decode cX11_refusalOfNumber 1 = .ok (.iload_n 1, 1) := by decide +kernel
theorem dX11_refusalOfNumber_10 : decode cX11_refusalOfNumber 10 = .ok (.iload_n 3, 1) := by decide +kernel
theorem dX11_refusalOfNumber_11 : decode cX11_refusalOfNumber 11 = .ok (.ireturn, 1) := by decide +kernel
theorem dX11_refusalOfNumber_2 : decode cX11_refusalOfNumber 2 = .ok (.invokevirtual 218, 3) := by decide +kernel
theorem dX11_refusalOfNumber_5 : decode cX11_refusalOfNumber 5 = .ok (.istore_n 3, 1) := by decide +kernel
theorem dX11_refusalOfNumber_6 : decode cX11_refusalOfNumber 6 = .ok (.iload_n 3, 1) := by decide +kernel
theorem dX11_refusalOfNumber_7 : decode cX11_refusalOfNumber 7 = .ok (.ifCond .eq 5, 3) := by decide +kernel
set_option maxRecDepth 20000 in
theorem ggX11_write_X11_refusalOfNumber : GoodIn wsX11_write wsX11_refusalOfNumber := goodIn_r _ [6, 1, 7, 8, 9, 5, 10, 11, 12, 13, 14, 15, 16, 17, 18, 19, 20, 21, 22, 23, 24, 31, 32, 33, 34, 35, 36, 37, 38, 39, 40, 41, 42, 43, 44, 45, 46, 47, 48, 49] (by decide +kernel) (by decide +kernel)
set_option maxRecDepth 20000 in
theorem gX11_write_X11_refusalOfNumber : GoodIn wsX11_write (wsV RX11 335 RX11 yX11_refusalOfNumber wsX11_refusalOfNumber) := goodIn_app (goodIn_of _ (by decide +kernel)) ggX11_write_X11_refusalOfNumber
theorem dX11_write_0 : decode cX11_write 0 = .ok (.aload_n 0, 1) := by decide +kernel
theorem dX11_write_1 : decode cX11_write 1 = .ok (.iload_n 1, 1) := by decide +kernel
theorem dX11_write_10 : decode cX11_write 10 = .ok (.ifCond .eq 6, 3) := by decide +kernel
theorem dX11_write_13 : decode cX11_write 13 = .ok (.iload 4, 2) := by decide +kernel
theorem dX11_write_15 : decode cX11_write 15 = .ok (.ireturn, 1) := by decide +kernel
theorem dX11_write_2 : decode cX11_write 2 = .ok (.iload_n 2, 1) := by decide +kernel
theorem dX11_write_3 : decode cX11_write 3 = .ok (.invokevirtual 335, 3) := by decide +kernel
theorem dX11_write_6 : decode cX11_write 6 = .ok (.istore 4, 2) := by decide +kernel
theorem dX11_write_8 : decode cX11_write 8 = .ok (.iload 4, 2) := by decide +kernel
set_option maxRecDepth 20000 in
theorem ggX11_item_X11_refusalOfNumber : GoodIn wsX11_item wsX11_refusalOfNumber := goodIn_r _ [6, 1, 7, 8, 9, 5, 10, 11, 12, 13, 14, 15, 16, 17, 18, 19, 20, 21, 22, 23, 24, 31, 32, 33, 34, 35, 36, 37, 38, 39, 40, 41, 42, 43, 44, 45, 46, 47, 48, 49] (by decide +kernel) (by decide +kernel)
set_option maxRecDepth 20000 in
theorem gX11_item_X11_refusalOfNumber : GoodIn wsX11_item (wsV RX11 335 RX11 yX11_refusalOfNumber wsX11_refusalOfNumber) := goodIn_app (goodIn_of _ (by decide +kernel)) ggX11_item_X11_refusalOfNumber
theorem dX11_item_0 : decode cX11_item 0 = .ok (.aload_n 0, 1) := by decide +kernel
theorem dX11_item_1 : decode cX11_item 1 = .ok (.iload_n 1, 1) := by decide +kernel
theorem dX11_item_11 : decode cX11_item 11 = .ok (.iload_n 3, 1) := by decide +kernel
theorem dX11_item_12 : decode cX11_item 12 = .ok (.goto 13, 3) := by decide +kernel
theorem dX11_item_2 : decode cX11_item 2 = .ok (.iload_n 2, 1) := by decide +kernel
theorem dX11_item_25 : decode cX11_item 25 = .ok (.ireturn, 1) := by decide +kernel
theorem dX11_item_3 : decode cX11_item 3 = .ok (.invokevirtual 335, 3) := by decide +kernel
theorem dX11_item_6 : decode cX11_item 6 = .ok (.istore_n 3, 1) := by decide +kernel
theorem dX11_item_7 : decode cX11_item 7 = .ok (.iload_n 3, 1) := by decide +kernel
theorem dX11_item_8 : decode cX11_item 8 = .ok (.ifCond .eq 7, 3) := by decide +kernel
set_option maxRecDepth 20000 in
theorem ggX11_copy_X11_isSheet : GoodIn wsX11_copy wsX11_isSheet := goodIn_r _ [5] (by decide +kernel) (by decide +kernel)
set_option maxRecDepth 20000 in
theorem gX11_copy_X11_isSheet : GoodIn wsX11_copy (va_wsS RX11 248 yX11_isSheet wsX11_isSheet) := goodIn_app (goodIn_of _ (by decide +kernel)) ggX11_copy_X11_isSheet
set_option maxRecDepth 20000 in
theorem ggX11_copy_X6_isMissing : GoodIn wsX11_copy wsX6_isMissing := goodIn_r _ [10, 11, 43, 44, 45] (by decide +kernel) (by decide +kernel)
set_option maxRecDepth 20000 in
theorem gX11_copy_X6_isMissing : GoodIn wsX11_copy (wsV RX11 251 RX6 yX6_isMissing wsX6_isMissing) := goodIn_app (goodIn_of _ (by decide +kernel)) ggX11_copy_X6_isMissing
theorem dX11_copy_0 : decode cX11_copy 0 = .ok (.iload_n 1, 1) := by decide +kernel
theorem dX11_copy_1 : decode cX11_copy 1 = .ok (.invokestatic 248, 3) := by decide +kernel
theorem dX11_copy_11 : decode cX11_copy 11 = .ok (.ifCond .ne 6, 3) := by decide +kernel
theorem dX11_copy_14 : decode cX11_copy 14 = .ok (.bipush (-2), 2) := by decide +kernel
theorem dX11_copy_16 : decode cX11_copy 16 = .ok (.ireturn, 1) := by decide +kernel
theorem dX11_copy_17 : decode cX11_copy 17 = .ok (.aload_n 0, 1) := by decide +kernel
theorem dX11_copy_18 : decode cX11_copy 18 = .ok (.getfield 75, 3) := by decide +kernel
theorem dX11_copy_21 : decode cX11_copy 21 = .ok (.iload_n 1, 1) := by decide +kernel
theorem dX11_copy_22 : decode cX11_copy 22 = .ok (.aaload, 1) := by decide +kernel
theorem dX11_copy_23 : decode cX11_copy 23 = .ok (.astore 6, 2) := by decide +kernel
theorem dX11_copy_25 : decode cX11_copy 25 = .ok (.aload_n 0, 1) := by decide +kernel
theorem dX11_copy_26 : decode cX11_copy 26 = .ok (.getfield 75, 3) := by decide +kernel
theorem dX11_copy_29 : decode cX11_copy 29 = .ok (.iload_n 3, 1) := by decide +kernel
theorem dX11_copy_30 : decode cX11_copy 30 = .ok (.aaload, 1) := by decide +kernel
theorem dX11_copy_31 : decode cX11_copy 31 = .ok (.astore 7, 2) := by decide +kernel
theorem dX11_copy_33 : decode cX11_copy 33 = .ok (.aload 6, 2) := by decide +kernel
theorem dX11_copy_35 : decode cX11_copy 35 = .ok (.invokevirtual 251, 3) := by decide +kernel
theorem dX11_copy_38 : decode cX11_copy 38 = .ok (.ifCond .ne 11, 3) := by decide +kernel
theorem dX11_copy_4 : decode cX11_copy 4 = .ok (.ifCond .eq 10, 3) := by decide +kernel
theorem dX11_copy_49 : decode cX11_copy 49 = .ok (.bipush (-11), 2) := by decide +kernel
theorem dX11_copy_51 : decode cX11_copy 51 = .ok (.ireturn, 1) := by decide +kernel
theorem dX11_copy_7 : decode cX11_copy 7 = .ok (.iload_n 3, 1) := by decide +kernel
theorem dX11_copy_8 : decode cX11_copy 8 = .ok (.invokestatic 248, 3) := by decide +kernel
theorem dX2_become_0 : decode cX2_become 0 = .ok (.aload_n 1, 1) := by decide +kernel
theorem dX2_become_1 : decode cX2_become 1 = .ok (.getfield 9, 3) := by decide +kernel
theorem dX2_become_10 : decode cX2_become 10 = .ok (.bipush 12, 2) := by decide +kernel
theorem dX2_become_12 : decode cX2_become 12 = .ok (.invokestatic 47, 3) := by decide +kernel
theorem dX2_become_15 : decode cX2_become 15 = .ok (.aload_n 0, 1) := by decide +kernel
theorem dX2_become_16 : decode cX2_become 16 = .ok (.aload_n 1, 1) := by decide +kernel
theorem dX2_become_17 : decode cX2_become 17 = .ok (.getfield 15, 3) := by decide +kernel
theorem dX2_become_20 : decode cX2_become 20 = .ok (.putfield 15, 3) := by decide +kernel
theorem dX2_become_23 : decode cX2_become 23 = .ok (.aload_n 0, 1) := by decide +kernel
theorem dX2_become_24 : decode cX2_become 24 = .ok (.dup, 1) := by decide +kernel
theorem dX2_become_25 : decode cX2_become 25 = .ok (.getfield 33, 3) := by decide +kernel
theorem dX2_become_28 : decode cX2_become 28 = .ok (.iconst 1, 1) := by decide +kernel
theorem dX2_become_29 : decode cX2_become 29 = .ok (.iadd, 1) := by decide +kernel
theorem dX2_become_30 : decode cX2_become 30 = .ok (.putfield 33, 3) := by decide +kernel
theorem dX2_become_33 : decode cX2_become 33 = .ok (.return_, 1) := by decide +kernel
theorem dX2_become_4 : decode cX2_become 4 = .ok (.iconst 0, 1) := by decide +kernel
theorem dX2_become_5 : decode cX2_become 5 = .ok (.aload_n 0, 1) := by decide +kernel
theorem dX2_become_6 : decode cX2_become 6 = .ok (.getfield 9, 3) := by decide +kernel
theorem dX2_become_9 : decode cX2_become 9 = .ok (.iconst 0, 1) := by decide +kernel
set_option maxRecDepth 20000 in
theorem ggX11_image_X2_become : GoodIn wsX11_image wsX2_become := goodIn_r _ [10, 11, 12, 13, 14, 15, 16, 17, 35, 36, 37] (by decide +kernel) (by decide +kernel)
set_option maxRecDepth 20000 in
theorem gX11_image_X2_become : GoodIn wsX11_image (wsV RX11 351 RX2 yX2_become wsX2_become) := goodIn_app (goodIn_of _ (by decide +kernel)) ggX11_image_X2_become
theorem dX11_image_0 : decode cX11_image 0 = .ok (.aload_n 0, 1) := by decide +kernel
theorem dX11_image_1 : decode cX11_image 1 = .ok (.getfield 47, 3) := by decide +kernel
theorem dX11_image_11 : decode cX11_image 11 = .ok (.aload_n 0, 1) := by decide +kernel
theorem dX11_image_12 : decode cX11_image 12 = .ok (.aload_n 0, 1) := by decide +kernel
theorem dX11_image_13 : decode cX11_image 13 = .ok (.getfield 53, 3) := by decide +kernel
theorem dX11_image_16 : decode cX11_image 16 = .ok (.getfield 141, 3) := by decide +kernel
theorem dX11_image_19 : decode cX11_image 19 = .ok (.putfield 353, 3) := by decide +kernel
theorem dX11_image_22 : decode cX11_image 22 = .ok (.aload_n 0, 1) := by decide +kernel
theorem dX11_image_23 : decode cX11_image 23 = .ok (.iconst 1, 1) := by decide +kernel
theorem dX11_image_24 : decode cX11_image 24 = .ok (.putfield 356, 3) := by decide +kernel
theorem dX11_image_27 : decode cX11_image 27 = .ok (.aload_n 0, 1) := by decide +kernel
theorem dX11_image_28 : decode cX11_image 28 = .ok (.getfield 12, 3) := by decide +kernel
theorem dX11_image_31 : decode cX11_image 31 = .ok (.getfield 97, 3) := by decide +kernel
theorem dX11_image_34 : decode cX11_image 34 = .ok (.ireturn, 1) := by decide +kernel
theorem dX11_image_4 : decode cX11_image 4 = .ok (.aload_n 0, 1) := by decide +kernel
theorem dX11_image_5 : decode cX11_image 5 = .ok (.getfield 12, 3) := by decide +kernel
theorem dX11_image_8 : decode cX11_image 8 = .ok (.invokevirtual 351, 3) := by decide +kernel
theorem dX11_back_0 : decode cX11_back 0 = .ok (.aload_n 0, 1) := by decide +kernel
theorem dX11_back_1 : decode cX11_back 1 = .ok (.getfield 356, 3) := by decide +kernel
theorem dX11_back_4 : decode cX11_back 4 = .ok (.ifCond .ne 6, 3) := by decide +kernel
theorem dX11_back_7 : decode cX11_back 7 = .ok (.bipush (-3), 2) := by decide +kernel
theorem dX11_back_9 : decode cX11_back 9 = .ok (.ireturn, 1) := by decide +kernel
set_option maxHeartbeats 4000000 in
set_option maxRecDepth 100000 in
theorem c_X11_refusalOfNumber_0 (l : Launch) (D : va_G) (cI cS : ClassId) (h0 h1 h2 h3 h4 h5 h6 h7 h8 h9 h10 h11 h12 h13 h14 h25 h26 h27 h28 h41 h42 h43 h44 : Nat) (x0 x1 : Int32) : Met l yX11_refusalOfNumber wsX11_refusalOfNumber ({ frames := 2, cells := 0, slots := 0, locals := 80 }) (PS D cI cS [(h0, .inr (11, [.ref h1, .ref h2, .ref h3, .ref h4, .ref h5, .ref h6, .ref h7, .int 0, .int 0, .ref h8, .ref h9, .ref h10, .ref h11, .ref h12, .ref h13, .ref h14])), (h11, .inl (cS, 4, .inr (.inr (.inr (.inr (fun k => [h25, h26, h27, h28][k]?)))))), (h25, .inr (6, [.ref h41, .int (-1), .int 0])), (h26, .inr (6, [.ref h42, .int (-1), .int 0])), (h27, .inr (6, [.ref h43, .int (-1), .int 0])), (h28, .inr (6, [.ref h44, .int (-1), .int 0]))] [.ref h0, .int x0, .int x1]) (vp_Si (fun r => r = if x0 < 0 then ((-2) : Int32) else (if (4 : Int32) ≤ x0 then ((-2) : Int32) else ((-11) : Int32)))) 0 0 (fun _ => False) := by
  refine Met.ofW (cc := cX11_refusalOfNumber) (maxL := 4) (ret := (some .int)) (by decide) rfl ?_
  intro p e s m args below meth c s₁ B hml hv
  obtain ⟨rfl, hP, hKK⟩ := hv
  have hx := B.exec
  have hb := B.bytes
  have hr := B.returns
  have hts := atoms_spec (ws := wsX11_refusalOfNumber) B.pre
  have hown : s.vm.findClass RX11 = some m.cls := findClass_of_methodNamed B.named
  have hlocks := B.notSynchronized
  have hK := hKK.1
  have hN := hKK.2
  have hl := lv_entry ([.ref h0, .int x0, .int x1]) (n := 4) (Nat.le_of_ble_eq_true rfl)
  rw [lg_entry_eq]
  generalize (lg_sl ([.ref h0, .int x0, .int x1]) ++ List.replicate (4 - (lg_sl ([.ref h0, .int x0, .int x1])).length) Slot.unset).toArray = ls at hl ⊢
  have hl : lv_has ls 4 [(0, .ref h0), (1, .int x0), (2, .int x1)] := hl
  refine lv_aload_n hx hb dX11_refusalOfNumber_0 rfl (lv_at hl 0 rfl) ?_
  refine lv_iload_n hx hb dX11_refusalOfNumber_1 rfl (lv_at hl 1 rfl) ?_
  have hPc := hP.sub (ws' := [(h0, .inr (11, [.ref h1, .ref h2, .ref h3, .ref h4, .ref h5, .ref h6, .ref h7, .int 0, .int 0, .ref h8, .ref h9, .ref h10, .ref h11, .ref h12, .ref h13, .ref h14])), (h11, .inl (cS, 4, .inr (.inr (.inr (.inr (fun k => [h25, h26, h27, h28][k]?)))))), (h25, .inr (6, [.ref h41, .int (-1), .int 0])), (h26, .inr (6, [.ref h42, .int (-1), .int 0])), (h27, .inr (6, [.ref h43, .int (-1), .int 0])), (h28, .inr (6, [.ref h44, .int (-1), .int 0]))]) [0, 1, 2, 3, 4, 5] rfl
  refine lz_sv (As := [.int x0]) (rest := []) ⟨hx, hb, hml, hown, hts⟩ (c_X11_refusalOfSheet_0 l D cI cS h0 h1 h2 h3 h4 h5 h6 h7 h8 h9 h10 h11 h12 h13 h14 h25 h26 h27 h28 h41 h42 h43 h44 x0) hKK hPc (ci := 11) rfl rfl (cwV 1 hts gX11_refusalOfNumber_X11_refusalOfSheet rfl rfl rfl (by decide +kernel) ⟨Nat.le_of_ble_eq_true rfl, Nat.le_of_ble_eq_true rfl⟩) rfl hl.1 rfl (Nat.le_of_ble_eq_true rfl) dX11_refusalOfNumber_2 ⟨Nat.le_of_ble_eq_true rfl, Nat.le_of_ble_eq_true rfl⟩ (fun r4421 hw => ?_)
  by_cases k4422 : x0 < 0
  · rw [if_pos k4422] at hw
    subst hw
    refine lv_istore_n (lv' := [(3, .int (-2)), (0, .ref h0), (1, .int x0), (2, .int x1)]) hx hb dX11_refusalOfNumber_5 rfl hl (by decide) rfl (fun ls hl => ?_)
    refine lv_iload_n hx hb dX11_refusalOfNumber_6 rfl (lv_at hl 0 rfl) ?_
    refine lv_if_eq (tgt := 12) hx hb dX11_refusalOfNumber_7 (by decide) (fun c4423 => ?_) (fun c4423 => ?_)
    · exact absurd c4423 (by decide)
    · refine lv_iload_n hx hb dX11_refusalOfNumber_10 rfl (lv_at hl 0 rfl) ?_
      exact W.iret (v := (-2)) hx hb hr (fun t ht hW => ⟨_, rfl, by rw [if_pos k4422], ht⟩) (fun q hq => absurd hq List.not_mem_nil) dX11_refusalOfNumber_11
  · rw [if_neg k4422] at hw
    by_cases k4424 : (4 : Int32) ≤ x0
    · rw [if_pos k4424] at hw
      subst hw
      refine lv_istore_n (lv' := [(3, .int (-2)), (0, .ref h0), (1, .int x0), (2, .int x1)]) hx hb dX11_refusalOfNumber_5 rfl hl (by decide) rfl (fun ls hl => ?_)
      refine lv_iload_n hx hb dX11_refusalOfNumber_6 rfl (lv_at hl 0 rfl) ?_
      refine lv_if_eq (tgt := 12) hx hb dX11_refusalOfNumber_7 (by decide) (fun c4425 => ?_) (fun c4425 => ?_)
      · exact absurd c4425 (by decide)
      · refine lv_iload_n hx hb dX11_refusalOfNumber_10 rfl (lv_at hl 0 rfl) ?_
        exact W.iret (v := (-2)) hx hb hr (fun t ht hW => ⟨_, rfl, by rw [if_neg k4422, if_pos k4424], ht⟩) (fun q hq => absurd hq List.not_mem_nil) dX11_refusalOfNumber_11
    · rw [if_neg k4424] at hw
      subst hw
      refine lv_istore_n (lv' := [(3, .int (-11)), (0, .ref h0), (1, .int x0), (2, .int x1)]) hx hb dX11_refusalOfNumber_5 rfl hl (by decide) rfl (fun ls hl => ?_)
      refine lv_iload_n hx hb dX11_refusalOfNumber_6 rfl (lv_at hl 0 rfl) ?_
      refine lv_if_eq (tgt := 12) hx hb dX11_refusalOfNumber_7 (by decide) (fun c4426 => ?_) (fun c4426 => ?_)
      · exact absurd c4426 (by decide)
      · refine lv_iload_n hx hb dX11_refusalOfNumber_10 rfl (lv_at hl 0 rfl) ?_
        exact W.iret (v := (-11)) hx hb hr (fun t ht hW => ⟨_, rfl, by rw [if_neg k4422, if_neg k4424], ht⟩) (fun q hq => absurd hq List.not_mem_nil) dX11_refusalOfNumber_11
set_option maxHeartbeats 4000000 in
set_option maxRecDepth 100000 in
theorem c_X11_write_0 (l : Launch) (D : va_G) (cI cS : ClassId) (h0 h1 h2 h3 h4 h5 h6 h7 h8 h9 h10 h11 h12 h13 h14 h25 h26 h27 h28 h41 h42 h43 h44 : Nat) (x0 x1 x2 : Int32) : Met l yX11_write wsX11_write ({ frames := 3, cells := 0, slots := 0, locals := 120 }) (PS D cI cS [(h0, .inr (11, [.ref h1, .ref h2, .ref h3, .ref h4, .ref h5, .ref h6, .ref h7, .int 0, .int 0, .ref h8, .ref h9, .ref h10, .ref h11, .ref h12, .ref h13, .ref h14])), (h11, .inl (cS, 4, .inr (.inr (.inr (.inr (fun k => [h25, h26, h27, h28][k]?)))))), (h25, .inr (6, [.ref h41, .int (-1), .int 0])), (h26, .inr (6, [.ref h42, .int (-1), .int 0])), (h27, .inr (6, [.ref h43, .int (-1), .int 0])), (h28, .inr (6, [.ref h44, .int (-1), .int 0]))] [.ref h0, .int x0, .int x1, .int x2]) (vp_Si (fun r => r = if x0 < 0 then ((-2) : Int32) else (if (4 : Int32) ≤ x0 then ((-2) : Int32) else ((-11) : Int32)))) 0 0 (fun _ => False) := by
  refine Met.ofW (cc := cX11_write) (maxL := 5) (ret := (some .int)) (by decide) rfl ?_
  intro p e s m args below meth c s₁ B hml hv
  obtain ⟨rfl, hP, hKK⟩ := hv
  have hx := B.exec
  have hb := B.bytes
  have hr := B.returns
  have hts := atoms_spec (ws := wsX11_write) B.pre
  have hown : s.vm.findClass RX11 = some m.cls := findClass_of_methodNamed B.named
  have hlocks := B.notSynchronized
  have hK := hKK.1
  have hN := hKK.2
  have hl := lv_entry ([.ref h0, .int x0, .int x1, .int x2]) (n := 5) (Nat.le_of_ble_eq_true rfl)
  rw [lg_entry_eq]
  generalize (lg_sl ([.ref h0, .int x0, .int x1, .int x2]) ++ List.replicate (5 - (lg_sl ([.ref h0, .int x0, .int x1, .int x2])).length) Slot.unset).toArray = ls at hl ⊢
  have hl : lv_has ls 5 [(0, .ref h0), (1, .int x0), (2, .int x1), (3, .int x2)] := hl
  refine lv_aload_n hx hb dX11_write_0 rfl (lv_at hl 0 rfl) ?_
  refine lv_iload_n hx hb dX11_write_1 rfl (lv_at hl 1 rfl) ?_
  refine lv_iload_n hx hb dX11_write_2 rfl (lv_at hl 2 rfl) ?_
  have hPc := hP.sub (ws' := [(h0, .inr (11, [.ref h1, .ref h2, .ref h3, .ref h4, .ref h5, .ref h6, .ref h7, .int 0, .int 0, .ref h8, .ref h9, .ref h10, .ref h11, .ref h12, .ref h13, .ref h14])), (h11, .inl (cS, 4, .inr (.inr (.inr (.inr (fun k => [h25, h26, h27, h28][k]?)))))), (h25, .inr (6, [.ref h41, .int (-1), .int 0])), (h26, .inr (6, [.ref h42, .int (-1), .int 0])), (h27, .inr (6, [.ref h43, .int (-1), .int 0])), (h28, .inr (6, [.ref h44, .int (-1), .int 0]))]) [0, 1, 2, 3, 4, 5] rfl
  refine lz_sv (As := [.int x0, .int x1]) (rest := []) ⟨hx, hb, hml, hown, hts⟩ (c_X11_refusalOfNumber_0 l D cI cS h0 h1 h2 h3 h4 h5 h6 h7 h8 h9 h10 h11 h12 h13 h14 h25 h26 h27 h28 h41 h42 h43 h44 x0 x1) hKK hPc (ci := 11) rfl rfl (cwV 2 hts gX11_write_X11_refusalOfNumber rfl rfl rfl (by decide +kernel) ⟨Nat.le_of_ble_eq_true rfl, Nat.le_of_ble_eq_true rfl⟩) rfl hl.1 rfl (Nat.le_of_ble_eq_true rfl) dX11_write_3 ⟨Nat.le_of_ble_eq_true rfl, Nat.le_of_ble_eq_true rfl⟩ (fun r4433 hw => ?_)
  by_cases k4434 : x0 < 0
  · rw [if_pos k4434] at hw
    subst hw
    refine lv_istore (lv' := [(4, .int (-2)), (0, .ref h0), (1, .int x0), (2, .int x1), (3, .int x2)]) hx hb dX11_write_6 hl (by decide) rfl (fun ls hl => ?_)
    refine lv_iload hx hb dX11_write_8 (lv_at hl 0 rfl) ?_
    refine lv_if_eq (tgt := 16) hx hb dX11_write_10 (by decide) (fun c4435 => ?_) (fun c4435 => ?_)
    · exact absurd c4435 (by decide)
    · refine lv_iload hx hb dX11_write_13 (lv_at hl 0 rfl) ?_
      exact W.iret (v := (-2)) hx hb hr (fun t ht hW => ⟨_, rfl, by rw [if_pos k4434], ht⟩) (fun q hq => absurd hq List.not_mem_nil) dX11_write_15
  · rw [if_neg k4434] at hw
    by_cases k4436 : (4 : Int32) ≤ x0
    · rw [if_pos k4436] at hw
      subst hw
      refine lv_istore (lv' := [(4, .int (-2)), (0, .ref h0), (1, .int x0), (2, .int x1), (3, .int x2)]) hx hb dX11_write_6 hl (by decide) rfl (fun ls hl => ?_)
      refine lv_iload hx hb dX11_write_8 (lv_at hl 0 rfl) ?_
      refine lv_if_eq (tgt := 16) hx hb dX11_write_10 (by decide) (fun c4437 => ?_) (fun c4437 => ?_)
      · exact absurd c4437 (by decide)
      · refine lv_iload hx hb dX11_write_13 (lv_at hl 0 rfl) ?_
        exact W.iret (v := (-2)) hx hb hr (fun t ht hW => ⟨_, rfl, by rw [if_neg k4434, if_pos k4436], ht⟩) (fun q hq => absurd hq List.not_mem_nil) dX11_write_15
    · rw [if_neg k4436] at hw
      subst hw
      refine lv_istore (lv' := [(4, .int (-11)), (0, .ref h0), (1, .int x0), (2, .int x1), (3, .int x2)]) hx hb dX11_write_6 hl (by decide) rfl (fun ls hl => ?_)
      refine lv_iload hx hb dX11_write_8 (lv_at hl 0 rfl) ?_
      refine lv_if_eq (tgt := 16) hx hb dX11_write_10 (by decide) (fun c4438 => ?_) (fun c4438 => ?_)
      · exact absurd c4438 (by decide)
      · refine lv_iload hx hb dX11_write_13 (lv_at hl 0 rfl) ?_
        exact W.iret (v := (-11)) hx hb hr (fun t ht hW => ⟨_, rfl, by rw [if_neg k4434, if_neg k4436], ht⟩) (fun q hq => absurd hq List.not_mem_nil) dX11_write_15
set_option maxHeartbeats 4000000 in
set_option maxRecDepth 100000 in
theorem c_X11_item_0 (l : Launch) (D : va_G) (cI cS : ClassId) (h0 h1 h2 h3 h4 h5 h6 h7 h8 h9 h10 h11 h12 h13 h14 h25 h26 h27 h28 h41 h42 h43 h44 : Nat) (x0 x1 : Int32) : Met l yX11_item wsX11_item ({ frames := 3, cells := 0, slots := 0, locals := 120 }) (PS D cI cS [(h0, .inr (11, [.ref h1, .ref h2, .ref h3, .ref h4, .ref h5, .ref h6, .ref h7, .int 0, .int 0, .ref h8, .ref h9, .ref h10, .ref h11, .ref h12, .ref h13, .ref h14])), (h11, .inl (cS, 4, .inr (.inr (.inr (.inr (fun k => [h25, h26, h27, h28][k]?)))))), (h25, .inr (6, [.ref h41, .int (-1), .int 0])), (h26, .inr (6, [.ref h42, .int (-1), .int 0])), (h27, .inr (6, [.ref h43, .int (-1), .int 0])), (h28, .inr (6, [.ref h44, .int (-1), .int 0]))] [.ref h0, .int x0, .int x1]) (vp_Si (fun r => r = if x0 < 0 then ((-2) : Int32) else (if (4 : Int32) ≤ x0 then ((-2) : Int32) else ((-11) : Int32)))) 0 0 (fun _ => False) := by
  refine Met.ofW (cc := cX11_item) (maxL := 4) (ret := (some .int)) (by decide) rfl ?_
  intro p e s m args below meth c s₁ B hml hv
  obtain ⟨rfl, hP, hKK⟩ := hv
  have hx := B.exec
  have hb := B.bytes
  have hr := B.returns
  have hts := atoms_spec (ws := wsX11_item) B.pre
  have hown : s.vm.findClass RX11 = some m.cls := findClass_of_methodNamed B.named
  have hlocks := B.notSynchronized
  have hK := hKK.1
  have hN := hKK.2
  have hl := lv_entry ([.ref h0, .int x0, .int x1]) (n := 4) (Nat.le_of_ble_eq_true rfl)
  rw [lg_entry_eq]
  generalize (lg_sl ([.ref h0, .int x0, .int x1]) ++ List.replicate (4 - (lg_sl ([.ref h0, .int x0, .int x1])).length) Slot.unset).toArray = ls at hl ⊢
  have hl : lv_has ls 4 [(0, .ref h0), (1, .int x0), (2, .int x1)] := hl
  refine lv_aload_n hx hb dX11_item_0 rfl (lv_at hl 0 rfl) ?_
  refine lv_iload_n hx hb dX11_item_1 rfl (lv_at hl 1 rfl) ?_
  refine lv_iload_n hx hb dX11_item_2 rfl (lv_at hl 2 rfl) ?_
  have hPc := hP.sub (ws' := [(h0, .inr (11, [.ref h1, .ref h2, .ref h3, .ref h4, .ref h5, .ref h6, .ref h7, .int 0, .int 0, .ref h8, .ref h9, .ref h10, .ref h11, .ref h12, .ref h13, .ref h14])), (h11, .inl (cS, 4, .inr (.inr (.inr (.inr (fun k => [h25, h26, h27, h28][k]?)))))), (h25, .inr (6, [.ref h41, .int (-1), .int 0])), (h26, .inr (6, [.ref h42, .int (-1), .int 0])), (h27, .inr (6, [.ref h43, .int (-1), .int 0])), (h28, .inr (6, [.ref h44, .int (-1), .int 0]))]) [0, 1, 2, 3, 4, 5] rfl
  refine lz_sv (As := [.int x0, .int x1]) (rest := []) ⟨hx, hb, hml, hown, hts⟩ (c_X11_refusalOfNumber_0 l D cI cS h0 h1 h2 h3 h4 h5 h6 h7 h8 h9 h10 h11 h12 h13 h14 h25 h26 h27 h28 h41 h42 h43 h44 x0 x1) hKK hPc (ci := 11) rfl rfl (cwV 2 hts gX11_item_X11_refusalOfNumber rfl rfl rfl (by decide +kernel) ⟨Nat.le_of_ble_eq_true rfl, Nat.le_of_ble_eq_true rfl⟩) rfl hl.1 rfl (Nat.le_of_ble_eq_true rfl) dX11_item_3 ⟨Nat.le_of_ble_eq_true rfl, Nat.le_of_ble_eq_true rfl⟩ (fun r4445 hw => ?_)
  by_cases k4446 : x0 < 0
  · rw [if_pos k4446] at hw
    subst hw
    refine lv_istore_n (lv' := [(3, .int (-2)), (0, .ref h0), (1, .int x0), (2, .int x1)]) hx hb dX11_item_6 rfl hl (by decide) rfl (fun ls hl => ?_)
    refine lv_iload_n hx hb dX11_item_7 rfl (lv_at hl 0 rfl) ?_
    refine lv_if_eq (tgt := 15) hx hb dX11_item_8 (by decide) (fun c4447 => ?_) (fun c4447 => ?_)
    · exact absurd c4447 (by decide)
    · refine lv_iload_n hx hb dX11_item_11 rfl (lv_at hl 0 rfl) ?_
      refine lv_goto (tgt := 25) hx hb dX11_item_12 (by decide) ?_
      exact W.iret (v := (-2)) hx hb hr (fun t ht hW => ⟨_, rfl, by rw [if_pos k4446], ht⟩) (fun q hq => absurd hq List.not_mem_nil) dX11_item_25
  · rw [if_neg k4446] at hw
    by_cases k4448 : (4 : Int32) ≤ x0
    · rw [if_pos k4448] at hw
      subst hw
      refine lv_istore_n (lv' := [(3, .int (-2)), (0, .ref h0), (1, .int x0), (2, .int x1)]) hx hb dX11_item_6 rfl hl (by decide) rfl (fun ls hl => ?_)
      refine lv_iload_n hx hb dX11_item_7 rfl (lv_at hl 0 rfl) ?_
      refine lv_if_eq (tgt := 15) hx hb dX11_item_8 (by decide) (fun c4449 => ?_) (fun c4449 => ?_)
      · exact absurd c4449 (by decide)
      · refine lv_iload_n hx hb dX11_item_11 rfl (lv_at hl 0 rfl) ?_
        refine lv_goto (tgt := 25) hx hb dX11_item_12 (by decide) ?_
        exact W.iret (v := (-2)) hx hb hr (fun t ht hW => ⟨_, rfl, by rw [if_neg k4446, if_pos k4448], ht⟩) (fun q hq => absurd hq List.not_mem_nil) dX11_item_25
    · rw [if_neg k4448] at hw
      subst hw
      refine lv_istore_n (lv' := [(3, .int (-11)), (0, .ref h0), (1, .int x0), (2, .int x1)]) hx hb dX11_item_6 rfl hl (by decide) rfl (fun ls hl => ?_)
      refine lv_iload_n hx hb dX11_item_7 rfl (lv_at hl 0 rfl) ?_
      refine lv_if_eq (tgt := 15) hx hb dX11_item_8 (by decide) (fun c4450 => ?_) (fun c4450 => ?_)
      · exact absurd c4450 (by decide)
      · refine lv_iload_n hx hb dX11_item_11 rfl (lv_at hl 0 rfl) ?_
        refine lv_goto (tgt := 25) hx hb dX11_item_12 (by decide) ?_
        exact W.iret (v := (-11)) hx hb hr (fun t ht hW => ⟨_, rfl, by rw [if_neg k4446, if_neg k4448], ht⟩) (fun q hq => absurd hq List.not_mem_nil) dX11_item_25
set_option maxHeartbeats 4000000 in
set_option maxRecDepth 100000 in
theorem c_X11_copy_0 (l : Launch) (D : va_G) (cI cS : ClassId) (h0 h1 h2 h3 h4 h5 h6 h7 h8 h9 h10 h11 h12 h13 h14 h25 h26 h27 h28 h41 h42 h43 h44 : Nat) (x0 x1 x2 x3 x4 : Int32) : Met l yX11_copy wsX11_copy ({ frames := 1, cells := 0, slots := 0, locals := 40 }) (PS D cI cS [(h0, .inr (11, [.ref h1, .ref h2, .ref h3, .ref h4, .ref h5, .ref h6, .ref h7, .int 0, .int 0, .ref h8, .ref h9, .ref h10, .ref h11, .ref h12, .ref h13, .ref h14])), (h11, .inl (cS, 4, .inr (.inr (.inr (.inr (fun k => [h25, h26, h27, h28][k]?)))))), (h25, .inr (6, [.ref h41, .int (-1), .int 0])), (h26, .inr (6, [.ref h42, .int (-1), .int 0])), (h27, .inr (6, [.ref h43, .int (-1), .int 0])), (h28, .inr (6, [.ref h44, .int (-1), .int 0]))] [.ref h0, .int x0, .int x1, .int x2, .int x3, .int x4]) (vp_Si (fun r => r = if x0 < 0 then ((-2) : Int32) else (if (4 : Int32) ≤ x0 then ((-2) : Int32) else (if x2 < 0 then ((-2) : Int32) else (if (4 : Int32) ≤ x2 then ((-2) : Int32) else ((-11) : Int32)))))) 0 0 (fun _ => False) := by
  refine Met.ofW (cc := cX11_copy) (maxL := 8) (ret := (some .int)) (by decide) rfl ?_
  intro p e s m args below meth c s₁ B hml hv
  obtain ⟨rfl, hP, hKK⟩ := hv
  have hx := B.exec
  have hb := B.bytes
  have hr := B.returns
  have hts := atoms_spec (ws := wsX11_copy) B.pre
  have hown : s.vm.findClass RX11 = some m.cls := findClass_of_methodNamed B.named
  have hlocks := B.notSynchronized
  have hK := hKK.1
  have hN := hKK.2
  have hin11 : ∀ w ∈ wsX110, w ∈ wsX11_copy := by decide +kernel
  have hl := lv_entry ([.ref h0, .int x0, .int x1, .int x2, .int x3, .int x4]) (n := 8) (Nat.le_of_ble_eq_true rfl)
  rw [lg_entry_eq]
  generalize (lg_sl ([.ref h0, .int x0, .int x1, .int x2, .int x3, .int x4]) ++ List.replicate (8 - (lg_sl ([.ref h0, .int x0, .int x1, .int x2, .int x3, .int x4])).length) Slot.unset).toArray = ls at hl ⊢
  have hl : lv_has ls 8 [(0, .ref h0), (1, .int x0), (2, .int x1), (3, .int x2), (4, .int x3), (5, .int x4)] := hl
  refine lv_iload_n hx hb dX11_copy_0 rfl (lv_at hl 1 rfl) ?_
  have hPc := hP.sub (ws' := []) [] rfl
  refine lz_ss (As := [.int x0]) (rest := []) ⟨hx, hb, hml, hown, hts⟩ (c_X11_isSheet_0 l D cI cS x0) hKK hPc (va_cwS 1 hts gX11_copy_X11_isSheet rfl rfl rfl (by decide +kernel) ⟨Nat.le_of_ble_eq_true rfl, Nat.le_of_ble_eq_true rfl⟩) rfl hl.1 rfl (Nat.le_of_ble_eq_true rfl) dX11_copy_1 ⟨Nat.le_of_ble_eq_true rfl, Nat.le_of_ble_eq_true rfl⟩ (fun r4510 hw => ?_)
  by_cases k4511 : x0 < 0
  · rw [if_pos k4511] at hw
    subst hw
    refine lv_if_eq (tgt := 14) hx hb dX11_copy_4 (by decide) (fun c4512 => ?_) (fun c4512 => ?_)
    · refine lv_bipush (v := (-2)) hx hb dX11_copy_14 (by decide) ?_
      exact W.iret (v := (-2)) hx hb hr (fun t ht hW => ⟨_, rfl, by rw [if_pos k4511], ht⟩) (fun q hq => absurd hq List.not_mem_nil) dX11_copy_16
    · exact absurd c4512 (by decide)
  · rw [if_neg k4511] at hw
    by_cases k4513 : (4 : Int32) ≤ x0
    · rw [if_pos k4513] at hw
      subst hw
      refine lv_if_eq (tgt := 14) hx hb dX11_copy_4 (by decide) (fun c4514 => ?_) (fun c4514 => ?_)
      · refine lv_bipush (v := (-2)) hx hb dX11_copy_14 (by decide) ?_
        exact W.iret (v := (-2)) hx hb hr (fun t ht hW => ⟨_, rfl, by rw [if_neg k4511, if_pos k4513], ht⟩) (fun q hq => absurd hq List.not_mem_nil) dX11_copy_16
      · exact absurd c4514 (by decide)
    · rw [if_neg k4513] at hw
      subst hw
      refine lv_if_eq (tgt := 14) hx hb dX11_copy_4 (by decide) (fun c4515 => ?_) (fun c4515 => ?_)
      · exact absurd c4515 (by decide)
      · refine lv_iload_n hx hb dX11_copy_7 rfl (lv_at hl 3 rfl) ?_
        have hPc := hP.sub (ws' := []) [] rfl
        refine lz_ss (As := [.int x2]) (rest := []) ⟨hx, hb, hml, hown, hts⟩ (c_X11_isSheet_0 l D cI cS x2) hKK hPc (va_cwS 1 hts gX11_copy_X11_isSheet rfl rfl rfl (by decide +kernel) ⟨Nat.le_of_ble_eq_true rfl, Nat.le_of_ble_eq_true rfl⟩) rfl hl.1 rfl (Nat.le_of_ble_eq_true rfl) dX11_copy_8 ⟨Nat.le_of_ble_eq_true rfl, Nat.le_of_ble_eq_true rfl⟩ (fun r4516 hw => ?_)
        by_cases k4517 : x2 < 0
        · rw [if_pos k4517] at hw
          subst hw
          refine lv_if_ne (tgt := 17) hx hb dX11_copy_11 (by decide) (fun c4518 => ?_) (fun c4518 => ?_)
          · exact absurd c4518 (by decide)
          · refine lv_bipush (v := (-2)) hx hb dX11_copy_14 (by decide) ?_
            exact W.iret (v := (-2)) hx hb hr (fun t ht hW => ⟨_, rfl, by rw [if_neg k4511, if_neg k4513, if_pos k4517], ht⟩) (fun q hq => absurd hq List.not_mem_nil) dX11_copy_16
        · rw [if_neg k4517] at hw
          by_cases k4519 : (4 : Int32) ≤ x2
          · rw [if_pos k4519] at hw
            subst hw
            refine lv_if_ne (tgt := 17) hx hb dX11_copy_11 (by decide) (fun c4520 => ?_) (fun c4520 => ?_)
            · exact absurd c4520 (by decide)
            · refine lv_bipush (v := (-2)) hx hb dX11_copy_14 (by decide) ?_
              exact W.iret (v := (-2)) hx hb hr (fun t ht hW => ⟨_, rfl, by rw [if_neg k4511, if_neg k4513, if_neg k4517, if_pos k4519], ht⟩) (fun q hq => absurd hq List.not_mem_nil) dX11_copy_16
          · rw [if_neg k4519] at hw
            subst hw
            refine lv_if_ne (tgt := 17) hx hb dX11_copy_11 (by decide) (fun c4521 => ?_) (fun c4521 => ?_)
            · refine lv_aload_n hx hb dX11_copy_17 rfl (lv_at hl 0 rfl) ?_
              refine va_get (D := D) (ci := 11) (v := .ref h11) (C := RX11) (T := TX11) (N := 16) hx hb hts hin11 hown hK hP 0 rfl rfl 12 (by decide) (hts (.fieldLink RX11 75 "MissedPoints" "sheets" "[LMissedPoints$Sheet;") (by decide +kernel)) (fun _ h9 => h9) rfl dX11_copy_18 ?_
              refine lv_iload_n hx hb dX11_copy_21 rfl (lv_at hl 1 rfl) ?_
              by_cases k4522 : x0 = 0
              · subst k4522
                refine va_aldq hx hb hK hP 1 1 rfl rfl (lz_vp (x := 0) (n := 4) (by decide) (by decide)) dX11_copy_22 ?_
                refine lz_va (y := .ref h25) rfl ?_
                refine lv_astore (lv' := [(6, .ref h25), (0, .ref h0), (1, .int 0), (2, .int x1), (3, .int x2), (4, .int x3), (5, .int x4)]) hx hb dX11_copy_23 hl (by decide) rfl (fun ls hl => ?_)
                refine lv_aload_n hx hb dX11_copy_25 rfl (lv_at hl 1 rfl) ?_
                refine va_get (D := D) (ci := 11) (v := .ref h11) (C := RX11) (T := TX11) (N := 16) hx hb hts hin11 hown hK hP 0 rfl rfl 12 (by decide) (hts (.fieldLink RX11 75 "MissedPoints" "sheets" "[LMissedPoints$Sheet;") (by decide +kernel)) (fun _ h9 => h9) rfl dX11_copy_26 ?_
                refine lv_iload_n hx hb dX11_copy_29 rfl (lv_at hl 4 rfl) ?_
                by_cases k4523 : x2 = 0
                · subst k4523
                  refine va_aldq hx hb hK hP 1 1 rfl rfl (lz_vp (x := 0) (n := 4) (by decide) (by decide)) dX11_copy_30 ?_
                  refine lz_va (y := .ref h25) rfl ?_
                  refine lv_astore (lv' := [(7, .ref h25), (6, .ref h25), (0, .ref h0), (1, .int 0), (2, .int x1), (3, .int 0), (4, .int x3), (5, .int x4)]) hx hb dX11_copy_31 hl (by decide) rfl (fun ls hl => ?_)
                  refine lv_aload hx hb dX11_copy_33 (lv_at hl 1 rfl) ?_
                  have hPc := hP.sub (ws' := [(h25, .inr (6, [.ref h41, .int (-1), .int 0]))]) [2] rfl
                  refine lz_sv (As := []) (rest := []) ⟨hx, hb, hml, hown, hts⟩ (c_X6_isMissing_0 l D cI cS h25 h41) hKK hPc (ci := 6) rfl rfl (cwV 0 hts gX11_copy_X6_isMissing rfl rfl rfl (by decide +kernel) ⟨Nat.le_of_ble_eq_true rfl, Nat.le_of_ble_eq_true rfl⟩) rfl hl.1 rfl (Nat.le_of_ble_eq_true rfl) dX11_copy_35 ⟨Nat.le_of_ble_eq_true rfl, Nat.le_of_ble_eq_true rfl⟩ (fun r4524 hw => ?_)
                  subst hw
                  refine lv_if_ne (tgt := 49) hx hb dX11_copy_38 (by decide) (fun c4525 => ?_) (fun c4525 => ?_)
                  · refine lv_bipush (v := (-11)) hx hb dX11_copy_49 (by decide) ?_
                    exact W.iret (v := (-11)) hx hb hr (fun t ht hW => ⟨_, rfl, by rw [if_neg k4511, if_neg k4513, if_neg k4517, if_neg k4519], ht⟩) (fun q hq => absurd hq List.not_mem_nil) dX11_copy_51
                  · exact absurd c4525 (by decide)
                · by_cases k4526 : x2 = 1
                  · subst k4526
                    refine va_aldq hx hb hK hP 1 1 rfl rfl (lz_vp (x := 1) (n := 4) (by decide) (by decide)) dX11_copy_30 ?_
                    refine lz_va (y := .ref h26) rfl ?_
                    refine lv_astore (lv' := [(7, .ref h26), (6, .ref h25), (0, .ref h0), (1, .int 0), (2, .int x1), (3, .int 1), (4, .int x3), (5, .int x4)]) hx hb dX11_copy_31 hl (by decide) rfl (fun ls hl => ?_)
                    refine lv_aload hx hb dX11_copy_33 (lv_at hl 1 rfl) ?_
                    have hPc := hP.sub (ws' := [(h25, .inr (6, [.ref h41, .int (-1), .int 0]))]) [2] rfl
                    refine lz_sv (As := []) (rest := []) ⟨hx, hb, hml, hown, hts⟩ (c_X6_isMissing_0 l D cI cS h25 h41) hKK hPc (ci := 6) rfl rfl (cwV 0 hts gX11_copy_X6_isMissing rfl rfl rfl (by decide +kernel) ⟨Nat.le_of_ble_eq_true rfl, Nat.le_of_ble_eq_true rfl⟩) rfl hl.1 rfl (Nat.le_of_ble_eq_true rfl) dX11_copy_35 ⟨Nat.le_of_ble_eq_true rfl, Nat.le_of_ble_eq_true rfl⟩ (fun r4527 hw => ?_)
                    subst hw
                    refine lv_if_ne (tgt := 49) hx hb dX11_copy_38 (by decide) (fun c4528 => ?_) (fun c4528 => ?_)
                    · refine lv_bipush (v := (-11)) hx hb dX11_copy_49 (by decide) ?_
                      exact W.iret (v := (-11)) hx hb hr (fun t ht hW => ⟨_, rfl, by rw [if_neg k4511, if_neg k4513, if_neg k4517, if_neg k4519], ht⟩) (fun q hq => absurd hq List.not_mem_nil) dX11_copy_51
                    · exact absurd c4528 (by decide)
                  · by_cases k4529 : x2 = 2
                    · subst k4529
                      refine va_aldq hx hb hK hP 1 1 rfl rfl (lz_vp (x := 2) (n := 4) (by decide) (by decide)) dX11_copy_30 ?_
                      refine lz_va (y := .ref h27) rfl ?_
                      refine lv_astore (lv' := [(7, .ref h27), (6, .ref h25), (0, .ref h0), (1, .int 0), (2, .int x1), (3, .int 2), (4, .int x3), (5, .int x4)]) hx hb dX11_copy_31 hl (by decide) rfl (fun ls hl => ?_)
                      refine lv_aload hx hb dX11_copy_33 (lv_at hl 1 rfl) ?_
                      have hPc := hP.sub (ws' := [(h25, .inr (6, [.ref h41, .int (-1), .int 0]))]) [2] rfl
                      refine lz_sv (As := []) (rest := []) ⟨hx, hb, hml, hown, hts⟩ (c_X6_isMissing_0 l D cI cS h25 h41) hKK hPc (ci := 6) rfl rfl (cwV 0 hts gX11_copy_X6_isMissing rfl rfl rfl (by decide +kernel) ⟨Nat.le_of_ble_eq_true rfl, Nat.le_of_ble_eq_true rfl⟩) rfl hl.1 rfl (Nat.le_of_ble_eq_true rfl) dX11_copy_35 ⟨Nat.le_of_ble_eq_true rfl, Nat.le_of_ble_eq_true rfl⟩ (fun r4530 hw => ?_)
                      subst hw
                      refine lv_if_ne (tgt := 49) hx hb dX11_copy_38 (by decide) (fun c4531 => ?_) (fun c4531 => ?_)
                      · refine lv_bipush (v := (-11)) hx hb dX11_copy_49 (by decide) ?_
                        exact W.iret (v := (-11)) hx hb hr (fun t ht hW => ⟨_, rfl, by rw [if_neg k4511, if_neg k4513, if_neg k4517, if_neg k4519], ht⟩) (fun q hq => absurd hq List.not_mem_nil) dX11_copy_51
                      · exact absurd c4531 (by decide)
                    · obtain rfl : x2 = 3 := by have zf1 := mt (lz_lt (0 : Int32) (0 : Int32)).mpr k4511; have zf2 := mt (lz_le (4 : Int32) (0 : Int32)).mpr k4513; have zf3 := mt (lz_lt x2 (0 : Int32)).mpr k4517; have zf4 := mt (lz_le (4 : Int32) x2).mpr k4519; have zf5 := mt (lz_eq x2 (0 : Int32)).mpr k4523; have zf6 := mt (lz_eq x2 (1 : Int32)).mpr k4526; have zf7 := mt (lz_eq x2 (2 : Int32)).mpr k4529; have zn0 : (0 : Int32).toInt = 0 := (by decide); have zn1 : (1 : Int32).toInt = 1 := (by decide); have zn2 : (2 : Int32).toInt = 2 := (by decide); have zn3 : (3 : Int32).toInt = 3 := (by decide); have zn4 : (4 : Int32).toInt = 4 := (by decide); rw [lz_eq]; omega
                      refine va_aldq hx hb hK hP 1 1 rfl rfl (lz_vp (x := 3) (n := 4) (by decide) (by decide)) dX11_copy_30 ?_
                      refine lz_va (y := .ref h28) rfl ?_
                      refine lv_astore (lv' := [(7, .ref h28), (6, .ref h25), (0, .ref h0), (1, .int 0), (2, .int x1), (3, .int 3), (4, .int x3), (5, .int x4)]) hx hb dX11_copy_31 hl (by decide) rfl (fun ls hl => ?_)
                      refine lv_aload hx hb dX11_copy_33 (lv_at hl 1 rfl) ?_
                      have hPc := hP.sub (ws' := [(h25, .inr (6, [.ref h41, .int (-1), .int 0]))]) [2] rfl
                      refine lz_sv (As := []) (rest := []) ⟨hx, hb, hml, hown, hts⟩ (c_X6_isMissing_0 l D cI cS h25 h41) hKK hPc (ci := 6) rfl rfl (cwV 0 hts gX11_copy_X6_isMissing rfl rfl rfl (by decide +kernel) ⟨Nat.le_of_ble_eq_true rfl, Nat.le_of_ble_eq_true rfl⟩) rfl hl.1 rfl (Nat.le_of_ble_eq_true rfl) dX11_copy_35 ⟨Nat.le_of_ble_eq_true rfl, Nat.le_of_ble_eq_true rfl⟩ (fun r4532 hw => ?_)
                      subst hw
                      refine lv_if_ne (tgt := 49) hx hb dX11_copy_38 (by decide) (fun c4533 => ?_) (fun c4533 => ?_)
                      · refine lv_bipush (v := (-11)) hx hb dX11_copy_49 (by decide) ?_
                        exact W.iret (v := (-11)) hx hb hr (fun t ht hW => ⟨_, rfl, by rw [if_neg k4511, if_neg k4513, if_neg k4517, if_neg k4519], ht⟩) (fun q hq => absurd hq List.not_mem_nil) dX11_copy_51
                      · exact absurd c4533 (by decide)
              · by_cases k4534 : x0 = 1
                · subst k4534
                  refine va_aldq hx hb hK hP 1 1 rfl rfl (lz_vp (x := 1) (n := 4) (by decide) (by decide)) dX11_copy_22 ?_
                  refine lz_va (y := .ref h26) rfl ?_
                  refine lv_astore (lv' := [(6, .ref h26), (0, .ref h0), (1, .int 1), (2, .int x1), (3, .int x2), (4, .int x3), (5, .int x4)]) hx hb dX11_copy_23 hl (by decide) rfl (fun ls hl => ?_)
                  refine lv_aload_n hx hb dX11_copy_25 rfl (lv_at hl 1 rfl) ?_
                  refine va_get (D := D) (ci := 11) (v := .ref h11) (C := RX11) (T := TX11) (N := 16) hx hb hts hin11 hown hK hP 0 rfl rfl 12 (by decide) (hts (.fieldLink RX11 75 "MissedPoints" "sheets" "[LMissedPoints$Sheet;") (by decide +kernel)) (fun _ h9 => h9) rfl dX11_copy_26 ?_
                  refine lv_iload_n hx hb dX11_copy_29 rfl (lv_at hl 4 rfl) ?_
                  by_cases k4535 : x2 = 0
                  · subst k4535
                    refine va_aldq hx hb hK hP 1 1 rfl rfl (lz_vp (x := 0) (n := 4) (by decide) (by decide)) dX11_copy_30 ?_
                    refine lz_va (y := .ref h25) rfl ?_
                    refine lv_astore (lv' := [(7, .ref h25), (6, .ref h26), (0, .ref h0), (1, .int 1), (2, .int x1), (3, .int 0), (4, .int x3), (5, .int x4)]) hx hb dX11_copy_31 hl (by decide) rfl (fun ls hl => ?_)
                    refine lv_aload hx hb dX11_copy_33 (lv_at hl 1 rfl) ?_
                    have hPc := hP.sub (ws' := [(h26, .inr (6, [.ref h42, .int (-1), .int 0]))]) [3] rfl
                    refine lz_sv (As := []) (rest := []) ⟨hx, hb, hml, hown, hts⟩ (c_X6_isMissing_0 l D cI cS h26 h42) hKK hPc (ci := 6) rfl rfl (cwV 0 hts gX11_copy_X6_isMissing rfl rfl rfl (by decide +kernel) ⟨Nat.le_of_ble_eq_true rfl, Nat.le_of_ble_eq_true rfl⟩) rfl hl.1 rfl (Nat.le_of_ble_eq_true rfl) dX11_copy_35 ⟨Nat.le_of_ble_eq_true rfl, Nat.le_of_ble_eq_true rfl⟩ (fun r4536 hw => ?_)
                    subst hw
                    refine lv_if_ne (tgt := 49) hx hb dX11_copy_38 (by decide) (fun c4537 => ?_) (fun c4537 => ?_)
                    · refine lv_bipush (v := (-11)) hx hb dX11_copy_49 (by decide) ?_
                      exact W.iret (v := (-11)) hx hb hr (fun t ht hW => ⟨_, rfl, by rw [if_neg k4511, if_neg k4513, if_neg k4517, if_neg k4519], ht⟩) (fun q hq => absurd hq List.not_mem_nil) dX11_copy_51
                    · exact absurd c4537 (by decide)
                  · by_cases k4538 : x2 = 1
                    · subst k4538
                      refine va_aldq hx hb hK hP 1 1 rfl rfl (lz_vp (x := 1) (n := 4) (by decide) (by decide)) dX11_copy_30 ?_
                      refine lz_va (y := .ref h26) rfl ?_
                      refine lv_astore (lv' := [(7, .ref h26), (6, .ref h26), (0, .ref h0), (1, .int 1), (2, .int x1), (3, .int 1), (4, .int x3), (5, .int x4)]) hx hb dX11_copy_31 hl (by decide) rfl (fun ls hl => ?_)
                      refine lv_aload hx hb dX11_copy_33 (lv_at hl 1 rfl) ?_
                      have hPc := hP.sub (ws' := [(h26, .inr (6, [.ref h42, .int (-1), .int 0]))]) [3] rfl
                      refine lz_sv (As := []) (rest := []) ⟨hx, hb, hml, hown, hts⟩ (c_X6_isMissing_0 l D cI cS h26 h42) hKK hPc (ci := 6) rfl rfl (cwV 0 hts gX11_copy_X6_isMissing rfl rfl rfl (by decide +kernel) ⟨Nat.le_of_ble_eq_true rfl, Nat.le_of_ble_eq_true rfl⟩) rfl hl.1 rfl (Nat.le_of_ble_eq_true rfl) dX11_copy_35 ⟨Nat.le_of_ble_eq_true rfl, Nat.le_of_ble_eq_true rfl⟩ (fun r4539 hw => ?_)
                      subst hw
                      refine lv_if_ne (tgt := 49) hx hb dX11_copy_38 (by decide) (fun c4540 => ?_) (fun c4540 => ?_)
                      · refine lv_bipush (v := (-11)) hx hb dX11_copy_49 (by decide) ?_
                        exact W.iret (v := (-11)) hx hb hr (fun t ht hW => ⟨_, rfl, by rw [if_neg k4511, if_neg k4513, if_neg k4517, if_neg k4519], ht⟩) (fun q hq => absurd hq List.not_mem_nil) dX11_copy_51
                      · exact absurd c4540 (by decide)
                    · by_cases k4541 : x2 = 2
                      · subst k4541
                        refine va_aldq hx hb hK hP 1 1 rfl rfl (lz_vp (x := 2) (n := 4) (by decide) (by decide)) dX11_copy_30 ?_
                        refine lz_va (y := .ref h27) rfl ?_
                        refine lv_astore (lv' := [(7, .ref h27), (6, .ref h26), (0, .ref h0), (1, .int 1), (2, .int x1), (3, .int 2), (4, .int x3), (5, .int x4)]) hx hb dX11_copy_31 hl (by decide) rfl (fun ls hl => ?_)
                        refine lv_aload hx hb dX11_copy_33 (lv_at hl 1 rfl) ?_
                        have hPc := hP.sub (ws' := [(h26, .inr (6, [.ref h42, .int (-1), .int 0]))]) [3] rfl
                        refine lz_sv (As := []) (rest := []) ⟨hx, hb, hml, hown, hts⟩ (c_X6_isMissing_0 l D cI cS h26 h42) hKK hPc (ci := 6) rfl rfl (cwV 0 hts gX11_copy_X6_isMissing rfl rfl rfl (by decide +kernel) ⟨Nat.le_of_ble_eq_true rfl, Nat.le_of_ble_eq_true rfl⟩) rfl hl.1 rfl (Nat.le_of_ble_eq_true rfl) dX11_copy_35 ⟨Nat.le_of_ble_eq_true rfl, Nat.le_of_ble_eq_true rfl⟩ (fun r4542 hw => ?_)
                        subst hw
                        refine lv_if_ne (tgt := 49) hx hb dX11_copy_38 (by decide) (fun c4543 => ?_) (fun c4543 => ?_)
                        · refine lv_bipush (v := (-11)) hx hb dX11_copy_49 (by decide) ?_
                          exact W.iret (v := (-11)) hx hb hr (fun t ht hW => ⟨_, rfl, by rw [if_neg k4511, if_neg k4513, if_neg k4517, if_neg k4519], ht⟩) (fun q hq => absurd hq List.not_mem_nil) dX11_copy_51
                        · exact absurd c4543 (by decide)
                      · obtain rfl : x2 = 3 := by have zf1 := mt (lz_lt (1 : Int32) (0 : Int32)).mpr k4511; have zf2 := mt (lz_le (4 : Int32) (1 : Int32)).mpr k4513; have zf3 := mt (lz_lt x2 (0 : Int32)).mpr k4517; have zf4 := mt (lz_le (4 : Int32) x2).mpr k4519; have zf5 := mt (lz_eq (1 : Int32) (0 : Int32)).mpr k4522; have zf6 := mt (lz_eq x2 (0 : Int32)).mpr k4535; have zf7 := mt (lz_eq x2 (1 : Int32)).mpr k4538; have zf8 := mt (lz_eq x2 (2 : Int32)).mpr k4541; have zn0 : (0 : Int32).toInt = 0 := (by decide); have zn1 : (1 : Int32).toInt = 1 := (by decide); have zn2 : (2 : Int32).toInt = 2 := (by decide); have zn3 : (3 : Int32).toInt = 3 := (by decide); have zn4 : (4 : Int32).toInt = 4 := (by decide); rw [lz_eq]; omega
                        refine va_aldq hx hb hK hP 1 1 rfl rfl (lz_vp (x := 3) (n := 4) (by decide) (by decide)) dX11_copy_30 ?_
                        refine lz_va (y := .ref h28) rfl ?_
                        refine lv_astore (lv' := [(7, .ref h28), (6, .ref h26), (0, .ref h0), (1, .int 1), (2, .int x1), (3, .int 3), (4, .int x3), (5, .int x4)]) hx hb dX11_copy_31 hl (by decide) rfl (fun ls hl => ?_)
                        refine lv_aload hx hb dX11_copy_33 (lv_at hl 1 rfl) ?_
                        have hPc := hP.sub (ws' := [(h26, .inr (6, [.ref h42, .int (-1), .int 0]))]) [3] rfl
                        refine lz_sv (As := []) (rest := []) ⟨hx, hb, hml, hown, hts⟩ (c_X6_isMissing_0 l D cI cS h26 h42) hKK hPc (ci := 6) rfl rfl (cwV 0 hts gX11_copy_X6_isMissing rfl rfl rfl (by decide +kernel) ⟨Nat.le_of_ble_eq_true rfl, Nat.le_of_ble_eq_true rfl⟩) rfl hl.1 rfl (Nat.le_of_ble_eq_true rfl) dX11_copy_35 ⟨Nat.le_of_ble_eq_true rfl, Nat.le_of_ble_eq_true rfl⟩ (fun r4544 hw => ?_)
                        subst hw
                        refine lv_if_ne (tgt := 49) hx hb dX11_copy_38 (by decide) (fun c4545 => ?_) (fun c4545 => ?_)
                        · refine lv_bipush (v := (-11)) hx hb dX11_copy_49 (by decide) ?_
                          exact W.iret (v := (-11)) hx hb hr (fun t ht hW => ⟨_, rfl, by rw [if_neg k4511, if_neg k4513, if_neg k4517, if_neg k4519], ht⟩) (fun q hq => absurd hq List.not_mem_nil) dX11_copy_51
                        · exact absurd c4545 (by decide)
                · by_cases k4546 : x0 = 2
                  · subst k4546
                    refine va_aldq hx hb hK hP 1 1 rfl rfl (lz_vp (x := 2) (n := 4) (by decide) (by decide)) dX11_copy_22 ?_
                    refine lz_va (y := .ref h27) rfl ?_
                    refine lv_astore (lv' := [(6, .ref h27), (0, .ref h0), (1, .int 2), (2, .int x1), (3, .int x2), (4, .int x3), (5, .int x4)]) hx hb dX11_copy_23 hl (by decide) rfl (fun ls hl => ?_)
                    refine lv_aload_n hx hb dX11_copy_25 rfl (lv_at hl 1 rfl) ?_
                    refine va_get (D := D) (ci := 11) (v := .ref h11) (C := RX11) (T := TX11) (N := 16) hx hb hts hin11 hown hK hP 0 rfl rfl 12 (by decide) (hts (.fieldLink RX11 75 "MissedPoints" "sheets" "[LMissedPoints$Sheet;") (by decide +kernel)) (fun _ h9 => h9) rfl dX11_copy_26 ?_
                    refine lv_iload_n hx hb dX11_copy_29 rfl (lv_at hl 4 rfl) ?_
                    by_cases k4547 : x2 = 0
                    · subst k4547
                      refine va_aldq hx hb hK hP 1 1 rfl rfl (lz_vp (x := 0) (n := 4) (by decide) (by decide)) dX11_copy_30 ?_
                      refine lz_va (y := .ref h25) rfl ?_
                      refine lv_astore (lv' := [(7, .ref h25), (6, .ref h27), (0, .ref h0), (1, .int 2), (2, .int x1), (3, .int 0), (4, .int x3), (5, .int x4)]) hx hb dX11_copy_31 hl (by decide) rfl (fun ls hl => ?_)
                      refine lv_aload hx hb dX11_copy_33 (lv_at hl 1 rfl) ?_
                      have hPc := hP.sub (ws' := [(h27, .inr (6, [.ref h43, .int (-1), .int 0]))]) [4] rfl
                      refine lz_sv (As := []) (rest := []) ⟨hx, hb, hml, hown, hts⟩ (c_X6_isMissing_0 l D cI cS h27 h43) hKK hPc (ci := 6) rfl rfl (cwV 0 hts gX11_copy_X6_isMissing rfl rfl rfl (by decide +kernel) ⟨Nat.le_of_ble_eq_true rfl, Nat.le_of_ble_eq_true rfl⟩) rfl hl.1 rfl (Nat.le_of_ble_eq_true rfl) dX11_copy_35 ⟨Nat.le_of_ble_eq_true rfl, Nat.le_of_ble_eq_true rfl⟩ (fun r4548 hw => ?_)
                      subst hw
                      refine lv_if_ne (tgt := 49) hx hb dX11_copy_38 (by decide) (fun c4549 => ?_) (fun c4549 => ?_)
                      · refine lv_bipush (v := (-11)) hx hb dX11_copy_49 (by decide) ?_
                        exact W.iret (v := (-11)) hx hb hr (fun t ht hW => ⟨_, rfl, by rw [if_neg k4511, if_neg k4513, if_neg k4517, if_neg k4519], ht⟩) (fun q hq => absurd hq List.not_mem_nil) dX11_copy_51
                      · exact absurd c4549 (by decide)
                    · by_cases k4550 : x2 = 1
                      · subst k4550
                        refine va_aldq hx hb hK hP 1 1 rfl rfl (lz_vp (x := 1) (n := 4) (by decide) (by decide)) dX11_copy_30 ?_
                        refine lz_va (y := .ref h26) rfl ?_
                        refine lv_astore (lv' := [(7, .ref h26), (6, .ref h27), (0, .ref h0), (1, .int 2), (2, .int x1), (3, .int 1), (4, .int x3), (5, .int x4)]) hx hb dX11_copy_31 hl (by decide) rfl (fun ls hl => ?_)
                        refine lv_aload hx hb dX11_copy_33 (lv_at hl 1 rfl) ?_
                        have hPc := hP.sub (ws' := [(h27, .inr (6, [.ref h43, .int (-1), .int 0]))]) [4] rfl
                        refine lz_sv (As := []) (rest := []) ⟨hx, hb, hml, hown, hts⟩ (c_X6_isMissing_0 l D cI cS h27 h43) hKK hPc (ci := 6) rfl rfl (cwV 0 hts gX11_copy_X6_isMissing rfl rfl rfl (by decide +kernel) ⟨Nat.le_of_ble_eq_true rfl, Nat.le_of_ble_eq_true rfl⟩) rfl hl.1 rfl (Nat.le_of_ble_eq_true rfl) dX11_copy_35 ⟨Nat.le_of_ble_eq_true rfl, Nat.le_of_ble_eq_true rfl⟩ (fun r4551 hw => ?_)
                        subst hw
                        refine lv_if_ne (tgt := 49) hx hb dX11_copy_38 (by decide) (fun c4552 => ?_) (fun c4552 => ?_)
                        · refine lv_bipush (v := (-11)) hx hb dX11_copy_49 (by decide) ?_
                          exact W.iret (v := (-11)) hx hb hr (fun t ht hW => ⟨_, rfl, by rw [if_neg k4511, if_neg k4513, if_neg k4517, if_neg k4519], ht⟩) (fun q hq => absurd hq List.not_mem_nil) dX11_copy_51
                        · exact absurd c4552 (by decide)
                      · by_cases k4553 : x2 = 2
                        · subst k4553
                          refine va_aldq hx hb hK hP 1 1 rfl rfl (lz_vp (x := 2) (n := 4) (by decide) (by decide)) dX11_copy_30 ?_
                          refine lz_va (y := .ref h27) rfl ?_
                          refine lv_astore (lv' := [(7, .ref h27), (6, .ref h27), (0, .ref h0), (1, .int 2), (2, .int x1), (3, .int 2), (4, .int x3), (5, .int x4)]) hx hb dX11_copy_31 hl (by decide) rfl (fun ls hl => ?_)
                          refine lv_aload hx hb dX11_copy_33 (lv_at hl 1 rfl) ?_
                          have hPc := hP.sub (ws' := [(h27, .inr (6, [.ref h43, .int (-1), .int 0]))]) [4] rfl
                          refine lz_sv (As := []) (rest := []) ⟨hx, hb, hml, hown, hts⟩ (c_X6_isMissing_0 l D cI cS h27 h43) hKK hPc (ci := 6) rfl rfl (cwV 0 hts gX11_copy_X6_isMissing rfl rfl rfl (by decide +kernel) ⟨Nat.le_of_ble_eq_true rfl, Nat.le_of_ble_eq_true rfl⟩) rfl hl.1 rfl (Nat.le_of_ble_eq_true rfl) dX11_copy_35 ⟨Nat.le_of_ble_eq_true rfl, Nat.le_of_ble_eq_true rfl⟩ (fun r4554 hw => ?_)
                          subst hw
                          refine lv_if_ne (tgt := 49) hx hb dX11_copy_38 (by decide) (fun c4555 => ?_) (fun c4555 => ?_)
                          · refine lv_bipush (v := (-11)) hx hb dX11_copy_49 (by decide) ?_
                            exact W.iret (v := (-11)) hx hb hr (fun t ht hW => ⟨_, rfl, by rw [if_neg k4511, if_neg k4513, if_neg k4517, if_neg k4519], ht⟩) (fun q hq => absurd hq List.not_mem_nil) dX11_copy_51
                          · exact absurd c4555 (by decide)
                        · obtain rfl : x2 = 3 := by have zf1 := mt (lz_lt (2 : Int32) (0 : Int32)).mpr k4511; have zf2 := mt (lz_le (4 : Int32) (2 : Int32)).mpr k4513; have zf3 := mt (lz_lt x2 (0 : Int32)).mpr k4517; have zf4 := mt (lz_le (4 : Int32) x2).mpr k4519; have zf5 := mt (lz_eq (2 : Int32) (0 : Int32)).mpr k4522; have zf6 := mt (lz_eq (2 : Int32) (1 : Int32)).mpr k4534; have zf7 := mt (lz_eq x2 (0 : Int32)).mpr k4547; have zf8 := mt (lz_eq x2 (1 : Int32)).mpr k4550; have zf9 := mt (lz_eq x2 (2 : Int32)).mpr k4553; have zn0 : (0 : Int32).toInt = 0 := (by decide); have zn1 : (1 : Int32).toInt = 1 := (by decide); have zn2 : (2 : Int32).toInt = 2 := (by decide); have zn3 : (3 : Int32).toInt = 3 := (by decide); have zn4 : (4 : Int32).toInt = 4 := (by decide); rw [lz_eq]; omega
                          refine va_aldq hx hb hK hP 1 1 rfl rfl (lz_vp (x := 3) (n := 4) (by decide) (by decide)) dX11_copy_30 ?_
                          refine lz_va (y := .ref h28) rfl ?_
                          refine lv_astore (lv' := [(7, .ref h28), (6, .ref h27), (0, .ref h0), (1, .int 2), (2, .int x1), (3, .int 3), (4, .int x3), (5, .int x4)]) hx hb dX11_copy_31 hl (by decide) rfl (fun ls hl => ?_)
                          refine lv_aload hx hb dX11_copy_33 (lv_at hl 1 rfl) ?_
                          have hPc := hP.sub (ws' := [(h27, .inr (6, [.ref h43, .int (-1), .int 0]))]) [4] rfl
                          refine lz_sv (As := []) (rest := []) ⟨hx, hb, hml, hown, hts⟩ (c_X6_isMissing_0 l D cI cS h27 h43) hKK hPc (ci := 6) rfl rfl (cwV 0 hts gX11_copy_X6_isMissing rfl rfl rfl (by decide +kernel) ⟨Nat.le_of_ble_eq_true rfl, Nat.le_of_ble_eq_true rfl⟩) rfl hl.1 rfl (Nat.le_of_ble_eq_true rfl) dX11_copy_35 ⟨Nat.le_of_ble_eq_true rfl, Nat.le_of_ble_eq_true rfl⟩ (fun r4556 hw => ?_)
                          subst hw
                          refine lv_if_ne (tgt := 49) hx hb dX11_copy_38 (by decide) (fun c4557 => ?_) (fun c4557 => ?_)
                          · refine lv_bipush (v := (-11)) hx hb dX11_copy_49 (by decide) ?_
                            exact W.iret (v := (-11)) hx hb hr (fun t ht hW => ⟨_, rfl, by rw [if_neg k4511, if_neg k4513, if_neg k4517, if_neg k4519], ht⟩) (fun q hq => absurd hq List.not_mem_nil) dX11_copy_51
                          · exact absurd c4557 (by decide)
                  · obtain rfl : x0 = 3 := by have zf1 := mt (lz_lt x0 (0 : Int32)).mpr k4511; have zf2 := mt (lz_le (4 : Int32) x0).mpr k4513; have zf3 := mt (lz_lt x2 (0 : Int32)).mpr k4517; have zf4 := mt (lz_le (4 : Int32) x2).mpr k4519; have zf5 := mt (lz_eq x0 (0 : Int32)).mpr k4522; have zf6 := mt (lz_eq x0 (1 : Int32)).mpr k4534; have zf7 := mt (lz_eq x0 (2 : Int32)).mpr k4546; have zn0 : (0 : Int32).toInt = 0 := (by decide); have zn1 : (1 : Int32).toInt = 1 := (by decide); have zn2 : (2 : Int32).toInt = 2 := (by decide); have zn3 : (3 : Int32).toInt = 3 := (by decide); have zn4 : (4 : Int32).toInt = 4 := (by decide); rw [lz_eq]; omega
                    refine va_aldq hx hb hK hP 1 1 rfl rfl (lz_vp (x := 3) (n := 4) (by decide) (by decide)) dX11_copy_22 ?_
                    refine lz_va (y := .ref h28) rfl ?_
                    refine lv_astore (lv' := [(6, .ref h28), (0, .ref h0), (1, .int 3), (2, .int x1), (3, .int x2), (4, .int x3), (5, .int x4)]) hx hb dX11_copy_23 hl (by decide) rfl (fun ls hl => ?_)
                    refine lv_aload_n hx hb dX11_copy_25 rfl (lv_at hl 1 rfl) ?_
                    refine va_get (D := D) (ci := 11) (v := .ref h11) (C := RX11) (T := TX11) (N := 16) hx hb hts hin11 hown hK hP 0 rfl rfl 12 (by decide) (hts (.fieldLink RX11 75 "MissedPoints" "sheets" "[LMissedPoints$Sheet;") (by decide +kernel)) (fun _ h9 => h9) rfl dX11_copy_26 ?_
                    refine lv_iload_n hx hb dX11_copy_29 rfl (lv_at hl 4 rfl) ?_
                    by_cases k4558 : x2 = 0
                    · subst k4558
                      refine va_aldq hx hb hK hP 1 1 rfl rfl (lz_vp (x := 0) (n := 4) (by decide) (by decide)) dX11_copy_30 ?_
                      refine lz_va (y := .ref h25) rfl ?_
                      refine lv_astore (lv' := [(7, .ref h25), (6, .ref h28), (0, .ref h0), (1, .int 3), (2, .int x1), (3, .int 0), (4, .int x3), (5, .int x4)]) hx hb dX11_copy_31 hl (by decide) rfl (fun ls hl => ?_)
                      refine lv_aload hx hb dX11_copy_33 (lv_at hl 1 rfl) ?_
                      have hPc := hP.sub (ws' := [(h28, .inr (6, [.ref h44, .int (-1), .int 0]))]) [5] rfl
                      refine lz_sv (As := []) (rest := []) ⟨hx, hb, hml, hown, hts⟩ (c_X6_isMissing_0 l D cI cS h28 h44) hKK hPc (ci := 6) rfl rfl (cwV 0 hts gX11_copy_X6_isMissing rfl rfl rfl (by decide +kernel) ⟨Nat.le_of_ble_eq_true rfl, Nat.le_of_ble_eq_true rfl⟩) rfl hl.1 rfl (Nat.le_of_ble_eq_true rfl) dX11_copy_35 ⟨Nat.le_of_ble_eq_true rfl, Nat.le_of_ble_eq_true rfl⟩ (fun r4559 hw => ?_)
                      subst hw
                      refine lv_if_ne (tgt := 49) hx hb dX11_copy_38 (by decide) (fun c4560 => ?_) (fun c4560 => ?_)
                      · refine lv_bipush (v := (-11)) hx hb dX11_copy_49 (by decide) ?_
                        exact W.iret (v := (-11)) hx hb hr (fun t ht hW => ⟨_, rfl, by rw [if_neg k4511, if_neg k4513, if_neg k4517, if_neg k4519], ht⟩) (fun q hq => absurd hq List.not_mem_nil) dX11_copy_51
                      · exact absurd c4560 (by decide)
                    · by_cases k4561 : x2 = 1
                      · subst k4561
                        refine va_aldq hx hb hK hP 1 1 rfl rfl (lz_vp (x := 1) (n := 4) (by decide) (by decide)) dX11_copy_30 ?_
                        refine lz_va (y := .ref h26) rfl ?_
                        refine lv_astore (lv' := [(7, .ref h26), (6, .ref h28), (0, .ref h0), (1, .int 3), (2, .int x1), (3, .int 1), (4, .int x3), (5, .int x4)]) hx hb dX11_copy_31 hl (by decide) rfl (fun ls hl => ?_)
                        refine lv_aload hx hb dX11_copy_33 (lv_at hl 1 rfl) ?_
                        have hPc := hP.sub (ws' := [(h28, .inr (6, [.ref h44, .int (-1), .int 0]))]) [5] rfl
                        refine lz_sv (As := []) (rest := []) ⟨hx, hb, hml, hown, hts⟩ (c_X6_isMissing_0 l D cI cS h28 h44) hKK hPc (ci := 6) rfl rfl (cwV 0 hts gX11_copy_X6_isMissing rfl rfl rfl (by decide +kernel) ⟨Nat.le_of_ble_eq_true rfl, Nat.le_of_ble_eq_true rfl⟩) rfl hl.1 rfl (Nat.le_of_ble_eq_true rfl) dX11_copy_35 ⟨Nat.le_of_ble_eq_true rfl, Nat.le_of_ble_eq_true rfl⟩ (fun r4562 hw => ?_)
                        subst hw
                        refine lv_if_ne (tgt := 49) hx hb dX11_copy_38 (by decide) (fun c4563 => ?_) (fun c4563 => ?_)
                        · refine lv_bipush (v := (-11)) hx hb dX11_copy_49 (by decide) ?_
                          exact W.iret (v := (-11)) hx hb hr (fun t ht hW => ⟨_, rfl, by rw [if_neg k4511, if_neg k4513, if_neg k4517, if_neg k4519], ht⟩) (fun q hq => absurd hq List.not_mem_nil) dX11_copy_51
                        · exact absurd c4563 (by decide)
                      · by_cases k4564 : x2 = 2
                        · subst k4564
                          refine va_aldq hx hb hK hP 1 1 rfl rfl (lz_vp (x := 2) (n := 4) (by decide) (by decide)) dX11_copy_30 ?_
                          refine lz_va (y := .ref h27) rfl ?_
                          refine lv_astore (lv' := [(7, .ref h27), (6, .ref h28), (0, .ref h0), (1, .int 3), (2, .int x1), (3, .int 2), (4, .int x3), (5, .int x4)]) hx hb dX11_copy_31 hl (by decide) rfl (fun ls hl => ?_)
                          refine lv_aload hx hb dX11_copy_33 (lv_at hl 1 rfl) ?_
                          have hPc := hP.sub (ws' := [(h28, .inr (6, [.ref h44, .int (-1), .int 0]))]) [5] rfl
                          refine lz_sv (As := []) (rest := []) ⟨hx, hb, hml, hown, hts⟩ (c_X6_isMissing_0 l D cI cS h28 h44) hKK hPc (ci := 6) rfl rfl (cwV 0 hts gX11_copy_X6_isMissing rfl rfl rfl (by decide +kernel) ⟨Nat.le_of_ble_eq_true rfl, Nat.le_of_ble_eq_true rfl⟩) rfl hl.1 rfl (Nat.le_of_ble_eq_true rfl) dX11_copy_35 ⟨Nat.le_of_ble_eq_true rfl, Nat.le_of_ble_eq_true rfl⟩ (fun r4565 hw => ?_)
                          subst hw
                          refine lv_if_ne (tgt := 49) hx hb dX11_copy_38 (by decide) (fun c4566 => ?_) (fun c4566 => ?_)
                          · refine lv_bipush (v := (-11)) hx hb dX11_copy_49 (by decide) ?_
                            exact W.iret (v := (-11)) hx hb hr (fun t ht hW => ⟨_, rfl, by rw [if_neg k4511, if_neg k4513, if_neg k4517, if_neg k4519], ht⟩) (fun q hq => absurd hq List.not_mem_nil) dX11_copy_51
                          · exact absurd c4566 (by decide)
                        · obtain rfl : x2 = 3 := by have zf1 := mt (lz_lt (3 : Int32) (0 : Int32)).mpr k4511; have zf2 := mt (lz_le (4 : Int32) (3 : Int32)).mpr k4513; have zf3 := mt (lz_lt x2 (0 : Int32)).mpr k4517; have zf4 := mt (lz_le (4 : Int32) x2).mpr k4519; have zf5 := mt (lz_eq (3 : Int32) (0 : Int32)).mpr k4522; have zf6 := mt (lz_eq (3 : Int32) (1 : Int32)).mpr k4534; have zf7 := mt (lz_eq (3 : Int32) (2 : Int32)).mpr k4546; have zf8 := mt (lz_eq x2 (0 : Int32)).mpr k4558; have zf9 := mt (lz_eq x2 (1 : Int32)).mpr k4561; have zf10 := mt (lz_eq x2 (2 : Int32)).mpr k4564; have zn0 : (0 : Int32).toInt = 0 := (by decide); have zn1 : (1 : Int32).toInt = 1 := (by decide); have zn2 : (2 : Int32).toInt = 2 := (by decide); have zn3 : (3 : Int32).toInt = 3 := (by decide); have zn4 : (4 : Int32).toInt = 4 := (by decide); rw [lz_eq]; omega
                          refine va_aldq hx hb hK hP 1 1 rfl rfl (lz_vp (x := 3) (n := 4) (by decide) (by decide)) dX11_copy_30 ?_
                          refine lz_va (y := .ref h28) rfl ?_
                          refine lv_astore (lv' := [(7, .ref h28), (6, .ref h28), (0, .ref h0), (1, .int 3), (2, .int x1), (3, .int 3), (4, .int x3), (5, .int x4)]) hx hb dX11_copy_31 hl (by decide) rfl (fun ls hl => ?_)
                          refine lv_aload hx hb dX11_copy_33 (lv_at hl 1 rfl) ?_
                          have hPc := hP.sub (ws' := [(h28, .inr (6, [.ref h44, .int (-1), .int 0]))]) [5] rfl
                          refine lz_sv (As := []) (rest := []) ⟨hx, hb, hml, hown, hts⟩ (c_X6_isMissing_0 l D cI cS h28 h44) hKK hPc (ci := 6) rfl rfl (cwV 0 hts gX11_copy_X6_isMissing rfl rfl rfl (by decide +kernel) ⟨Nat.le_of_ble_eq_true rfl, Nat.le_of_ble_eq_true rfl⟩) rfl hl.1 rfl (Nat.le_of_ble_eq_true rfl) dX11_copy_35 ⟨Nat.le_of_ble_eq_true rfl, Nat.le_of_ble_eq_true rfl⟩ (fun r4567 hw => ?_)
                          subst hw
                          refine lv_if_ne (tgt := 49) hx hb dX11_copy_38 (by decide) (fun c4568 => ?_) (fun c4568 => ?_)
                          · refine lv_bipush (v := (-11)) hx hb dX11_copy_49 (by decide) ?_
                            exact W.iret (v := (-11)) hx hb hr (fun t ht hW => ⟨_, rfl, by rw [if_neg k4511, if_neg k4513, if_neg k4517, if_neg k4519], ht⟩) (fun q hq => absurd hq List.not_mem_nil) dX11_copy_51
                          · exact absurd c4568 (by decide)
            · exact absurd c4521 (by decide)
set_option maxHeartbeats 4000000 in
set_option maxRecDepth 100000 in
theorem c_X2_become_0 (l : Launch) (D : va_G) (cI cS : ClassId) (sz : Nat) (h0 h1 h2 h3 : Nat) : Met l yX2_become wsX2_become ({ frames := 1, cells := 0, slots := 0, locals := 40 }) (PQ D cI cS [(h0, .inr (2, [.ref h2, .int 0, .int 0])), (h1, .inr (2, [.ref h3, .int 0, .int 0])), (h2, .inl (cI, 12, .inl (fun _ => 0))), (h3, .inl (cI, 12, .inl (fun _ => 0)))] sz [.ref h0, .ref h1]) (QV D [(h0, .inr (2, [.ref h2, .int 0, .int 0])), (h1, .inr (2, [.ref h3, .int 0, .int 0])), (h2, .inl (cI, 12, .inl (fun _ => 0))), (h3, .inl (cI, 12, .inl (fun _ => 0)))] [(h0, .inr (2, [.ref h2, .int 0, .int 1])), (h1, .inr (2, [.ref h3, .int 0, .int 0])), (h2, .inl (cI, 12, .inl (va_cpy (fun _ => 0) (fun _ => 0) 0 0 12))), (h3, .inl (cI, 12, .inl (fun _ => 0)))] sz) 0 0 (va_A [(h0, .inr (2, [.ref h2, .int 0, .int 0])), (h1, .inr (2, [.ref h3, .int 0, .int 0])), (h2, .inl (cI, 12, .inl (fun _ => 0))), (h3, .inl (cI, 12, .inl (fun _ => 0)))] sz) := by
  refine Met.ofW (cc := cX2_become) (maxL := 2) (ret := none) (by decide) rfl ?_
  intro p e s m args below meth c s₁ B hml hv
  obtain ⟨rfl, hsz, hP, hKK, hD0⟩ := hv
  have hx := B.exec
  have hb := B.bytes
  have hr := B.returns
  have hts := atoms_spec (ws := wsX2_become) B.pre
  have hown : s.vm.findClass RX2 = some m.cls := findClass_of_methodNamed B.named
  have hlocks := B.notSynchronized
  have hK := hKK.1
  have hN := hKK.2
  have hin2 : ∀ w ∈ wsX20, w ∈ wsX2_become := by decide +kernel
  subst hsz
  have hD := hD0.self (sz := s.heap.size)
  obtain ⟨A, hAe⟩ : ∃ A, A = va_A [(h0, .inr (2, [.ref h2, .int 0, .int 0])), (h1, .inr (2, [.ref h3, .int 0, .int 0])), (h2, .inl (cI, 12, .inl (fun _ => 0))), (h3, .inl (cI, 12, .inl (fun _ => 0)))] s.heap.size := ⟨_, rfl⟩
  rw [← hAe] at hD
  have hA : ∀ q : Nat, s.heap.size ≤ q → A q := fun q h => by rw [hAe]; exact Or.inr h
  have hS : va_S A s.heap s.heap [] := va_S.rf
  have hl := lv_entry ([.ref h0, .ref h1]) (n := 2) (Nat.le_of_ble_eq_true rfl)
  rw [lg_entry_eq]
  generalize (lg_sl ([.ref h0, .ref h1]) ++ List.replicate (2 - (lg_sl ([.ref h0, .ref h1])).length) Slot.unset).toArray = ls at hl ⊢
  have hl : lv_has ls 2 [(0, .ref h0), (1, .ref h1)] := hl
  refine lv_aload_n hx hb dX2_become_0 rfl (lv_at hl 1 rfl) ?_
  refine va_get (D := D) (ci := 2) (v := .ref h3) (C := RX2) (T := TX2) (N := 3) hx hb hts hin2 hown hK hP 1 rfl rfl 0 (by decide) (hts (.fieldLink RX2 9 "MissedPoints$Net" "links" "[I") (by decide +kernel)) (fun _ h9 => h9) rfl dX2_become_1 ?_
  refine lv_iconst (v := 0) hx hb dX2_become_4 (by decide) ?_
  refine lv_aload_n hx hb dX2_become_5 rfl (lv_at hl 0 rfl) ?_
  refine va_get (D := D) (ci := 2) (v := .ref h2) (C := RX2) (T := TX2) (N := 3) hx hb hts hin2 hown hK hP 0 rfl rfl 0 (by decide) (hts (.fieldLink RX2 9 "MissedPoints$Net" "links" "[I") (by decide +kernel)) (fun _ h9 => h9) rfl dX2_become_6 ?_
  refine lv_iconst (v := 0) hx hb dX2_become_9 (by decide) ?_
  refine lv_bipush (v := 12) hx hb dX2_become_10 (by decide) ?_
  refine va_copyi hx hb (by rw [hml]; exact hl.1.symm) hown (hts (.methodLink RX2 47 arraycopyName) (by decide +kernel)) (hts (.native arraycopyName) (by decide +kernel)) (hts (.static arraycopyName) (by decide +kernel)) (hts (.initialized "java/lang/System") (by decide +kernel)) hK hP hD hS 3 2 0 0 rfl rfl rfl rfl rfl (by decide) (by decide) (by decide) (by decide) (by decide) (fun _ _ => rfl) (Nat.le_of_ble_eq_true rfl) (Nat.le_of_ble_eq_true rfl) dX2_become_12 (fun H locs hP hD hS => ?_)
  have hP : va_P D cls [(h0, .inr (2, [.ref h2, .int 0, .int 0])), (h1, .inr (2, [.ref h3, .int 0, .int 0])), (h2, .inl (cI, 12, .inl (va_cpy (fun _ => 0) (fun _ => 0) 0 0 12))), (h3, .inl (cI, 12, .inl (fun _ => 0)))] H := hP
  have hD : va_D A [(h0, .inr (2, [.ref h2, .int 0, .int 0])), (h1, .inr (2, [.ref h3, .int 0, .int 0])), (h2, .inl (cI, 12, .inl (va_cpy (fun _ => 0) (fun _ => 0) 0 0 12))), (h3, .inl (cI, 12, .inl (fun _ => 0)))] := hD
  refine lv_aload_n hx hb dX2_become_15 rfl (lv_at hl 0 rfl) ?_
  refine lv_aload_n hx hb dX2_become_16 rfl (lv_at hl 1 rfl) ?_
  refine va_get (D := D) (ci := 2) (v := .int 0) (C := RX2) (T := TX2) (N := 3) hx hb hts hin2 hown hK hP 1 rfl rfl 1 (by decide) (hts (.fieldLink RX2 15 "MissedPoints$Net" "size" "I") (by decide +kernel)) (fun _ h9 => h9) rfl dX2_become_17 ?_
  refine va_put (D := D) (ci := 2) (v := .int 0) (ty := .int) (C := RX2) (T := TX2) (N := 3) hx hb hts hin2 tyX2 tyX2_ok nmX2 hown hK hP hD hS 0 rfl rfl 1 (by decide) (hts (.fieldLink RX2 15 "MissedPoints$Net" "size" "I") (by decide +kernel)) (fun _ h9 => h9) rfl (by decide +kernel) rfl rfl (Nat.le_of_ble_eq_true rfl) dX2_become_20 (fun H locs hP hD hS => ?_)
  have hP : va_P D cls [(h0, .inr (2, [.ref h2, .int 0, .int 0])), (h1, .inr (2, [.ref h3, .int 0, .int 0])), (h2, .inl (cI, 12, .inl (va_cpy (fun _ => 0) (fun _ => 0) 0 0 12))), (h3, .inl (cI, 12, .inl (fun _ => 0)))] H := hP
  have hD : va_D A [(h0, .inr (2, [.ref h2, .int 0, .int 0])), (h1, .inr (2, [.ref h3, .int 0, .int 0])), (h2, .inl (cI, 12, .inl (va_cpy (fun _ => 0) (fun _ => 0) 0 0 12))), (h3, .inl (cI, 12, .inl (fun _ => 0)))] := hD
  refine lv_aload_n hx hb dX2_become_23 rfl (lv_at hl 0 rfl) ?_
  refine lv_dup hx hb dX2_become_24 rfl ?_
  refine va_get (D := D) (ci := 2) (v := .int 0) (C := RX2) (T := TX2) (N := 3) hx hb hts hin2 hown hK hP 0 rfl rfl 2 (by decide) (hts (.fieldLink RX2 33 "MissedPoints$Net" "changes" "I") (by decide +kernel)) (fun _ h9 => h9) rfl dX2_become_25 ?_
  refine lv_iconst (v := 1) hx hb dX2_become_28 (by decide) ?_
  refine lv_iadd hx hb dX2_become_29 ?_
  refine lz_top (y := 1) (by decide) ?_
  refine va_put (D := D) (ci := 2) (v := .int 1) (ty := .int) (C := RX2) (T := TX2) (N := 3) hx hb hts hin2 tyX2 tyX2_ok nmX2 hown hK hP hD hS 0 rfl rfl 2 (by decide) (hts (.fieldLink RX2 33 "MissedPoints$Net" "changes" "I") (by decide +kernel)) (fun _ h9 => h9) rfl (by decide +kernel) rfl rfl (Nat.le_of_ble_eq_true rfl) dX2_become_30 (fun H locs hP hD hS => ?_)
  have hP : va_P D cls [(h0, .inr (2, [.ref h2, .int 0, .int 1])), (h1, .inr (2, [.ref h3, .int 0, .int 0])), (h2, .inl (cI, 12, .inl (va_cpy (fun _ => 0) (fun _ => 0) 0 0 12))), (h3, .inl (cI, 12, .inl (fun _ => 0)))] H := hP
  have hD : va_D A [(h0, .inr (2, [.ref h2, .int 0, .int 1])), (h1, .inr (2, [.ref h3, .int 0, .int 0])), (h2, .inl (cI, 12, .inl (va_cpy (fun _ => 0) (fun _ => 0) 0 0 12))), (h3, .inl (cI, 12, .inl (fun _ => 0)))] := hD
  have hP9 := hP.sub (ws' := [(h0, .inr (2, [.ref h2, .int 0, .int 1])), (h1, .inr (2, [.ref h3, .int 0, .int 0])), (h2, .inl (cI, 12, .inl (va_cpy (fun _ => 0) (fun _ => 0) 0 0 12))), (h3, .inl (cI, 12, .inl (fun _ => 0)))]) [0, 1, 2, 3] rfl
  have hD9 := hD.sub (ws' := [(h0, .inr (2, [.ref h2, .int 0, .int 1])), (h1, .inr (2, [.ref h3, .int 0, .int 0])), (h2, .inl (cI, 12, .inl (va_cpy (fun _ => 0) (fun _ => 0) 0 0 12))), (h3, .inl (cI, 12, .inl (fun _ => 0)))]) [0, 1, 2, 3] (by decide) rfl
  subst hAe
  exact W.vret hx hb hr (fun t ht hW => ⟨⟨(), rfl, trivial, by rw [ht]; exact hP9, hD9⟩, hS.F ht⟩) hS.2.2 dX2_become_33
set_option maxHeartbeats 4000000 in
set_option maxRecDepth 100000 in
theorem c_X11_image_0 (l : Launch) (D : va_G) (cI cS : ClassId) (sz : Nat) (h0 h1 h2 h3 h4 h5 h6 h7 h8 h9 h10 h11 h12 h13 h14 h15 h22 : Nat) : Met l yX11_image wsX11_image ({ frames := 2, cells := 0, slots := 0, locals := 80 }) (PQ D cI cS [(h0, .inr (11, [.ref h1, .ref h2, .ref h3, .ref h4, .ref h5, .ref h6, .ref h7, .int 0, .int 0, .ref h8, .ref h9, .ref h10, .ref h11, .ref h12, .ref h13, .ref h14])), (h1, .inr (2, [.ref h15, .int 0, .int 0])), (h7, .inr (2, [.ref h22, .int 0, .int 0])), (h8, .inr (0, [.int 1])), (h15, .inl (cI, 12, .inl (fun _ => 0))), (h22, .inl (cI, 12, .inl (fun _ => 0)))] sz [.ref h0]) (QI D [(h0, .inr (11, [.ref h1, .ref h2, .ref h3, .ref h4, .ref h5, .ref h6, .ref h7, .int 0, .int 0, .ref h8, .ref h9, .ref h10, .ref h11, .ref h12, .ref h13, .ref h14])), (h1, .inr (2, [.ref h15, .int 0, .int 0])), (h7, .inr (2, [.ref h22, .int 0, .int 0])), (h8, .inr (0, [.int 1])), (h15, .inl (cI, 12, .inl (fun _ => 0))), (h22, .inl (cI, 12, .inl (fun _ => 0)))] [] sz (fun r => r = (0 : Int32))) 0 0 (va_A [(h0, .inr (11, [.ref h1, .ref h2, .ref h3, .ref h4, .ref h5, .ref h6, .ref h7, .int 0, .int 0, .ref h8, .ref h9, .ref h10, .ref h11, .ref h12, .ref h13, .ref h14])), (h1, .inr (2, [.ref h15, .int 0, .int 0])), (h7, .inr (2, [.ref h22, .int 0, .int 0])), (h8, .inr (0, [.int 1])), (h15, .inl (cI, 12, .inl (fun _ => 0))), (h22, .inl (cI, 12, .inl (fun _ => 0)))] sz) := by
  refine Met.ofW (cc := cX11_image) (maxL := 1) (ret := (some .int)) (by decide) rfl ?_
  intro p e s m args below meth c s₁ B hml hv
  obtain ⟨rfl, hsz, hP, hKK, hD0⟩ := hv
  have hx := B.exec
  have hb := B.bytes
  have hr := B.returns
  have hts := atoms_spec (ws := wsX11_image) B.pre
  have hown : s.vm.findClass RX11 = some m.cls := findClass_of_methodNamed B.named
  have hlocks := B.notSynchronized
  have hK := hKK.1
  have hN := hKK.2
  have hin0 : ∀ w ∈ wsX00, w ∈ wsX11_image := by decide +kernel
  have hin2 : ∀ w ∈ wsX20, w ∈ wsX11_image := by decide +kernel
  have hin11 : ∀ w ∈ wsX110, w ∈ wsX11_image := by decide +kernel
  subst hsz
  have hD := hD0.self (sz := s.heap.size)
  obtain ⟨A, hAe⟩ : ∃ A, A = va_A [(h0, .inr (11, [.ref h1, .ref h2, .ref h3, .ref h4, .ref h5, .ref h6, .ref h7, .int 0, .int 0, .ref h8, .ref h9, .ref h10, .ref h11, .ref h12, .ref h13, .ref h14])), (h1, .inr (2, [.ref h15, .int 0, .int 0])), (h7, .inr (2, [.ref h22, .int 0, .int 0])), (h8, .inr (0, [.int 1])), (h15, .inl (cI, 12, .inl (fun _ => 0))), (h22, .inl (cI, 12, .inl (fun _ => 0)))] s.heap.size := ⟨_, rfl⟩
  rw [← hAe] at hD
  have hA : ∀ q : Nat, s.heap.size ≤ q → A q := fun q h => by rw [hAe]; exact Or.inr h
  have hS : va_S A s.heap s.heap [] := va_S.rf
  have hl := lv_entry ([.ref h0]) (n := 1) (Nat.le_of_ble_eq_true rfl)
  rw [lg_entry_eq]
  generalize (lg_sl ([.ref h0]) ++ List.replicate (1 - (lg_sl ([.ref h0])).length) Slot.unset).toArray = ls at hl ⊢
  have hl : lv_has ls 1 [(0, .ref h0)] := hl
  refine lv_aload_n hx hb dX11_image_0 rfl (lv_at hl 0 rfl) ?_
  refine va_get (D := D) (ci := 11) (v := .ref h7) (C := RX11) (T := TX11) (N := 16) hx hb hts hin11 hown hK hP 0 rfl rfl 6 (by decide) (hts (.fieldLink RX11 47 "MissedPoints" "imageNet" "LMissedPoints$Net;") (by decide +kernel)) (fun _ h9 => h9) rfl dX11_image_1 ?_
  refine lv_aload_n hx hb dX11_image_4 rfl (lv_at hl 0 rfl) ?_
  refine va_get (D := D) (ci := 11) (v := .ref h1) (C := RX11) (T := TX11) (N := 16) hx hb hts hin11 hown hK hP 0 rfl rfl 0 (by decide) (hts (.fieldLink RX11 12 "MissedPoints" "net" "LMissedPoints$Net;") (by decide +kernel)) (fun _ h9 => h9) rfl dX11_image_5 ?_
  have hPc := hP.sub (ws' := [(h7, .inr (2, [.ref h22, .int 0, .int 0])), (h1, .inr (2, [.ref h15, .int 0, .int 0])), (h22, .inl (cI, 12, .inl (fun _ => 0))), (h15, .inl (cI, 12, .inl (fun _ => 0)))]) [2, 1, 5, 4] rfl
  have hDc := hD.sub (ws' := [(h7, .inr (2, [.ref h22, .int 0, .int 0])), (h1, .inr (2, [.ref h15, .int 0, .int 0])), (h22, .inl (cI, 12, .inl (fun _ => 0))), (h15, .inl (cI, 12, .inl (fun _ => 0)))]) [2, 1, 5, 4] (by decide) rfl
  refine lz_qv (wr := [(h0, .inr (11, [.ref h1, .ref h2, .ref h3, .ref h4, .ref h5, .ref h6, .ref h7, .int 0, .int 0, .ref h8, .ref h9, .ref h10, .ref h11, .ref h12, .ref h13, .ref h14])), (h8, .inr (0, [.int 1]))]) (w1 := [(h7, .inr (2, [.ref h22, .int 0, .int 1])), (h1, .inr (2, [.ref h15, .int 0, .int 0])), (h22, .inl (cI, 12, .inl (va_cpy (fun _ => 0) (fun _ => 0) 0 0 12))), (h15, .inl (cI, 12, .inl (fun _ => 0)))]) (As := [.ref h1]) (rest := []) ⟨hx, hb, hml, hown, hts⟩ (c_X2_become_0 l D cI cS _ h7 h1 h22 h15) hKK hP hD hS hA [2, 1, 5, 4] [0, 3] (by decide) rfl rfl (by decide) (by decide) hPc hDc (ci := 2) rfl rfl (cwV 1 hts gX11_image_X2_become rfl rfl rfl (by decide +kernel) ⟨Nat.le_of_ble_eq_true rfl, Nat.le_of_ble_eq_true rfl⟩) rfl hl.1 rfl (Nat.le_of_ble_eq_true rfl) dX11_image_8 ⟨Nat.le_of_ble_eq_true rfl, Nat.le_of_ble_eq_true rfl⟩ (fun H locs hP hD hS => ?_)
  have hP : va_P D cls [(h0, .inr (11, [.ref h1, .ref h2, .ref h3, .ref h4, .ref h5, .ref h6, .ref h7, .int 0, .int 0, .ref h8, .ref h9, .ref h10, .ref h11, .ref h12, .ref h13, .ref h14])), (h8, .inr (0, [.int 1])), (h7, .inr (2, [.ref h22, .int 0, .int 1])), (h1, .inr (2, [.ref h15, .int 0, .int 0])), (h22, .inl (cI, 12, .inl (va_cpy (fun _ => 0) (fun _ => 0) 0 0 12))), (h15, .inl (cI, 12, .inl (fun _ => 0)))] H := hP
  have hD : va_D A [(h0, .inr (11, [.ref h1, .ref h2, .ref h3, .ref h4, .ref h5, .ref h6, .ref h7, .int 0, .int 0, .ref h8, .ref h9, .ref h10, .ref h11, .ref h12, .ref h13, .ref h14])), (h8, .inr (0, [.int 1])), (h7, .inr (2, [.ref h22, .int 0, .int 1])), (h1, .inr (2, [.ref h15, .int 0, .int 0])), (h22, .inl (cI, 12, .inl (va_cpy (fun _ => 0) (fun _ => 0) 0 0 12))), (h15, .inl (cI, 12, .inl (fun _ => 0)))] := hD
  refine lv_aload_n hx hb dX11_image_11 rfl (lv_at hl 0 rfl) ?_
  refine lv_aload_n hx hb dX11_image_12 rfl (lv_at hl 0 rfl) ?_
  refine va_get (D := D) (ci := 11) (v := .ref h8) (C := RX11) (T := TX11) (N := 16) hx hb hts hin11 hown hK hP 0 rfl rfl 9 (by decide) (hts (.fieldLink RX11 53 "MissedPoints" "draws" "LMissedPoints$Draws;") (by decide +kernel)) (fun _ h9 => h9) rfl dX11_image_13 ?_
  refine va_getN (D := D) (ci := 0) (v := .int 1) (C := RX0) (T := TX0) (N := 1) hx hb hts hin0 hown hK hP 1 rfl rfl 0 (by decide) (va_Nw.use rfl hN.2.1) (fun _ h9 => h9) rfl dX11_image_16 ?_
  refine va_put (D := D) (ci := 11) (v := .int 1) (ty := .int) (C := RX11) (T := TX11) (N := 16) hx hb hts hin11 tyX11 tyX11_ok nmX11 hown hK hP hD hS 0 rfl rfl 8 (by decide) (hts (.fieldLink RX11 353 "MissedPoints" "imageZ" "I") (by decide +kernel)) (fun _ h9 => h9) rfl (by decide +kernel) rfl rfl (Nat.le_of_ble_eq_true rfl) dX11_image_19 (fun H locs hP hD hS => ?_)
  have hP : va_P D cls [(h0, .inr (11, [.ref h1, .ref h2, .ref h3, .ref h4, .ref h5, .ref h6, .ref h7, .int 0, .int 1, .ref h8, .ref h9, .ref h10, .ref h11, .ref h12, .ref h13, .ref h14])), (h8, .inr (0, [.int 1])), (h7, .inr (2, [.ref h22, .int 0, .int 1])), (h1, .inr (2, [.ref h15, .int 0, .int 0])), (h22, .inl (cI, 12, .inl (va_cpy (fun _ => 0) (fun _ => 0) 0 0 12))), (h15, .inl (cI, 12, .inl (fun _ => 0)))] H := hP
  have hD : va_D A [(h0, .inr (11, [.ref h1, .ref h2, .ref h3, .ref h4, .ref h5, .ref h6, .ref h7, .int 0, .int 1, .ref h8, .ref h9, .ref h10, .ref h11, .ref h12, .ref h13, .ref h14])), (h8, .inr (0, [.int 1])), (h7, .inr (2, [.ref h22, .int 0, .int 1])), (h1, .inr (2, [.ref h15, .int 0, .int 0])), (h22, .inl (cI, 12, .inl (va_cpy (fun _ => 0) (fun _ => 0) 0 0 12))), (h15, .inl (cI, 12, .inl (fun _ => 0)))] := hD
  refine lv_aload_n hx hb dX11_image_22 rfl (lv_at hl 0 rfl) ?_
  refine lv_iconst (v := 1) hx hb dX11_image_23 (by decide) ?_
  refine va_put (D := D) (ci := 11) (v := .int 1) (ty := .boolean) (C := RX11) (T := TX11) (N := 16) hx hb hts hin11 tyX11 tyX11_ok nmX11 hown hK hP hD hS 0 rfl rfl 7 (by decide) (hts (.fieldLink RX11 356 "MissedPoints" "imageKept" "Z") (by decide +kernel)) (fun _ h9 => h9) rfl (by decide +kernel) rfl rfl (Nat.le_of_ble_eq_true rfl) dX11_image_24 (fun H locs hP hD hS => ?_)
  have hP : va_P D cls [(h0, .inr (11, [.ref h1, .ref h2, .ref h3, .ref h4, .ref h5, .ref h6, .ref h7, .int 1, .int 1, .ref h8, .ref h9, .ref h10, .ref h11, .ref h12, .ref h13, .ref h14])), (h8, .inr (0, [.int 1])), (h7, .inr (2, [.ref h22, .int 0, .int 1])), (h1, .inr (2, [.ref h15, .int 0, .int 0])), (h22, .inl (cI, 12, .inl (va_cpy (fun _ => 0) (fun _ => 0) 0 0 12))), (h15, .inl (cI, 12, .inl (fun _ => 0)))] H := hP
  have hD : va_D A [(h0, .inr (11, [.ref h1, .ref h2, .ref h3, .ref h4, .ref h5, .ref h6, .ref h7, .int 1, .int 1, .ref h8, .ref h9, .ref h10, .ref h11, .ref h12, .ref h13, .ref h14])), (h8, .inr (0, [.int 1])), (h7, .inr (2, [.ref h22, .int 0, .int 1])), (h1, .inr (2, [.ref h15, .int 0, .int 0])), (h22, .inl (cI, 12, .inl (va_cpy (fun _ => 0) (fun _ => 0) 0 0 12))), (h15, .inl (cI, 12, .inl (fun _ => 0)))] := hD
  refine lv_aload_n hx hb dX11_image_27 rfl (lv_at hl 0 rfl) ?_
  refine va_get (D := D) (ci := 11) (v := .ref h1) (C := RX11) (T := TX11) (N := 16) hx hb hts hin11 hown hK hP 0 rfl rfl 0 (by decide) (hts (.fieldLink RX11 12 "MissedPoints" "net" "LMissedPoints$Net;") (by decide +kernel)) (fun _ h9 => h9) rfl dX11_image_28 ?_
  refine va_getN (D := D) (ci := 2) (v := .int 0) (C := RX2) (T := TX2) (N := 3) hx hb hts hin2 hown hK hP 3 rfl rfl 1 (by decide) (va_Nw.use rfl hN.2.2.2.2.2.2.2.2.2.1) (fun _ h9 => h9) rfl dX11_image_31 ?_
  have hP9 := hP.sub (ws' := []) [] rfl
  have hD9 := hD.sub (ws' := []) [] (by decide) rfl
  subst hAe
  exact W.iret (v := 0) hx hb hr (fun t ht hW => ⟨⟨_, (), rfl, rfl, by rw [ht]; exact hP9, hD9⟩, hS.F ht⟩) hS.2.2 dX11_image_34
set_option maxHeartbeats 4000000 in
set_option maxRecDepth 100000 in
theorem c_X11_back_0 (l : Launch) (D : va_G) (cI cS : ClassId) (h0 h1 h2 h3 h4 h5 h6 h7 h8 h9 h10 h11 h12 h13 h14 : Nat) : Met l yX11_back wsX11_back ({ frames := 0, cells := 0, slots := 0, locals := 0 }) (PS D cI cS [(h0, .inr (11, [.ref h1, .ref h2, .ref h3, .ref h4, .ref h5, .ref h6, .ref h7, .int 0, .int 0, .ref h8, .ref h9, .ref h10, .ref h11, .ref h12, .ref h13, .ref h14]))] [.ref h0]) (vp_Si (fun r => r = ((-3) : Int32))) 0 0 (fun _ => False) := by
  refine Met.ofW (cc := cX11_back) (maxL := 1) (ret := (some .int)) (by decide) rfl ?_
  intro p e s m args below meth c s₁ B hml hv
  obtain ⟨rfl, hP, hKK⟩ := hv
  have hx := B.exec
  have hb := B.bytes
  have hr := B.returns
  have hts := atoms_spec (ws := wsX11_back) B.pre
  have hown : s.vm.findClass RX11 = some m.cls := findClass_of_methodNamed B.named
  have hlocks := B.notSynchronized
  have hK := hKK.1
  have hN := hKK.2
  have hin11 : ∀ w ∈ wsX110, w ∈ wsX11_back := by decide +kernel
  have hl := lv_entry ([.ref h0]) (n := 1) (Nat.le_of_ble_eq_true rfl)
  rw [lg_entry_eq]
  generalize (lg_sl ([.ref h0]) ++ List.replicate (1 - (lg_sl ([.ref h0])).length) Slot.unset).toArray = ls at hl ⊢
  have hl : lv_has ls 1 [(0, .ref h0)] := hl
  refine lv_aload_n hx hb dX11_back_0 rfl (lv_at hl 0 rfl) ?_
  refine va_get (D := D) (ci := 11) (v := .int 0) (C := RX11) (T := TX11) (N := 16) hx hb hts hin11 hown hK hP 0 rfl rfl 7 (by decide) (hts (.fieldLink RX11 356 "MissedPoints" "imageKept" "Z") (by decide +kernel)) (fun _ h9 => h9) rfl dX11_back_1 ?_
  refine lv_if_ne (tgt := 10) hx hb dX11_back_4 (by decide) (fun c4572 => ?_) (fun c4572 => ?_)
  · exact absurd c4572 (by decide)
  · refine lv_bipush (v := (-3)) hx hb dX11_back_7 (by decide) ?_
    exact W.iret (v := (-3)) hx hb hr (fun t ht hW => ⟨_, rfl, rfl, ht⟩) (fun q hq => absurd hq List.not_mem_nil) dX11_back_9
