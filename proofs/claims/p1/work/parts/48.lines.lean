theorem dX11_canDeal_0 : decode cX11_canDeal 0 = .ok (.iload_n 0, 1) := by decide +kernel
theorem dX11_canDeal_1 : decode cX11_canDeal 1 = .ok (.ifCond .lt 23, 3) := by decide +kernel
theorem dX11_canDeal_10 : decode cX11_canDeal 10 = .ok (.iload_n 1, 1) := by decide +kernel
theorem dX11_canDeal_11 : decode cX11_canDeal 11 = .ok (.ifCond .lt 13, 3) := by decide +kernel
theorem dX11_canDeal_14 : decode cX11_canDeal 14 = .ok (.iload_n 1, 1) := by decide +kernel
theorem dX11_canDeal_15 : decode cX11_canDeal 15 = .ok (.bipush 10, 2) := by decide +kernel
theorem dX11_canDeal_17 : decode cX11_canDeal 17 = .ok (.if_icmp .gt 7, 3) := by decide +kernel
theorem dX11_canDeal_20 : decode cX11_canDeal 20 = .ok (.iconst 1, 1) := by decide +kernel
theorem dX11_canDeal_21 : decode cX11_canDeal 21 = .ok (.goto 4, 3) := by decide +kernel
theorem dX11_canDeal_24 : decode cX11_canDeal 24 = .ok (.iconst 0, 1) := by decide +kernel
theorem dX11_canDeal_25 : decode cX11_canDeal 25 = .ok (.ireturn, 1) := by decide +kernel
theorem dX11_canDeal_4 : decode cX11_canDeal 4 = .ok (.iload_n 0, 1) := by decide +kernel
theorem dX11_canDeal_5 : decode cX11_canDeal 5 = .ok (.bipush 12, 2) := by decide +kernel
theorem dX11_canDeal_7 : decode cX11_canDeal 7 = .ok (.if_icmp .gt 17, 3) := by decide +kernel
set_option maxHeartbeats 4000000 in
set_option maxRecDepth 100000 in
theorem c_J6_bitCount_0f7a4_1 (l : Launch) (D : va_G) (cI cS : ClassId) (x0 : Int32) : Met l yJ6_bitCount_0f7a4 wsJ6_bitCount_0f7a4 ({ frames := 0, cells := 0, slots := 0, locals := 0 }) (PS D cI cS [] [.int x0]) (vp_Si (fun r => r = (((((((x0 - (((Int32.toUInt32 x0 >>> (Int32.toUInt32 1 &&& Int32.toUInt32 31)).toInt32) &&& (1431655765 : Int32))) &&& (858993459 : Int32)) + (((Int32.toUInt32 (x0 - (((Int32.toUInt32 x0 >>> (Int32.toUInt32 1 &&& Int32.toUInt32 31)).toInt32) &&& (1431655765 : Int32))) >>> (Int32.toUInt32 2 &&& Int32.toUInt32 31)).toInt32) &&& (858993459 : Int32))) + ((Int32.toUInt32 (((x0 - (((Int32.toUInt32 x0 >>> (Int32.toUInt32 1 &&& Int32.toUInt32 31)).toInt32) &&& (1431655765 : Int32))) &&& (858993459 : Int32)) + (((Int32.toUInt32 (x0 - (((Int32.toUInt32 x0 >>> (Int32.toUInt32 1 &&& Int32.toUInt32 31)).toInt32) &&& (1431655765 : Int32))) >>> (Int32.toUInt32 2 &&& Int32.toUInt32 31)).toInt32) &&& (858993459 : Int32))) >>> (Int32.toUInt32 4 &&& Int32.toUInt32 31)).toInt32)) &&& (252645135 : Int32)) + ((Int32.toUInt32 (((((x0 - (((Int32.toUInt32 x0 >>> (Int32.toUInt32 1 &&& Int32.toUInt32 31)).toInt32) &&& (1431655765 : Int32))) &&& (858993459 : Int32)) + (((Int32.toUInt32 (x0 - (((Int32.toUInt32 x0 >>> (Int32.toUInt32 1 &&& Int32.toUInt32 31)).toInt32) &&& (1431655765 : Int32))) >>> (Int32.toUInt32 2 &&& Int32.toUInt32 31)).toInt32) &&& (858993459 : Int32))) + ((Int32.toUInt32 (((x0 - (((Int32.toUInt32 x0 >>> (Int32.toUInt32 1 &&& Int32.toUInt32 31)).toInt32) &&& (1431655765 : Int32))) &&& (858993459 : Int32)) + (((Int32.toUInt32 (x0 - (((Int32.toUInt32 x0 >>> (Int32.toUInt32 1 &&& Int32.toUInt32 31)).toInt32) &&& (1431655765 : Int32))) >>> (Int32.toUInt32 2 &&& Int32.toUInt32 31)).toInt32) &&& (858993459 : Int32))) >>> (Int32.toUInt32 4 &&& Int32.toUInt32 31)).toInt32)) &&& (252645135 : Int32)) >>> (Int32.toUInt32 8 &&& Int32.toUInt32 31)).toInt32)) + ((Int32.toUInt32 ((((((x0 - (((Int32.toUInt32 x0 >>> (Int32.toUInt32 1 &&& Int32.toUInt32 31)).toInt32) &&& (1431655765 : Int32))) &&& (858993459 : Int32)) + (((Int32.toUInt32 (x0 - (((Int32.toUInt32 x0 >>> (Int32.toUInt32 1 &&& Int32.toUInt32 31)).toInt32) &&& (1431655765 : Int32))) >>> (Int32.toUInt32 2 &&& Int32.toUInt32 31)).toInt32) &&& (858993459 : Int32))) + ((Int32.toUInt32 (((x0 - (((Int32.toUInt32 x0 >>> (Int32.toUInt32 1 &&& Int32.toUInt32 31)).toInt32) &&& (1431655765 : Int32))) &&& (858993459 : Int32)) + (((Int32.toUInt32 (x0 - (((Int32.toUInt32 x0 >>> (Int32.toUInt32 1 &&& Int32.toUInt32 31)).toInt32) &&& (1431655765 : Int32))) >>> (Int32.toUInt32 2 &&& Int32.toUInt32 31)).toInt32) &&& (858993459 : Int32))) >>> (Int32.toUInt32 4 &&& Int32.toUInt32 31)).toInt32)) &&& (252645135 : Int32)) + ((Int32.toUInt32 (((((x0 - (((Int32.toUInt32 x0 >>> (Int32.toUInt32 1 &&& Int32.toUInt32 31)).toInt32) &&& (1431655765 : Int32))) &&& (858993459 : Int32)) + (((Int32.toUInt32 (x0 - (((Int32.toUInt32 x0 >>> (Int32.toUInt32 1 &&& Int32.toUInt32 31)).toInt32) &&& (1431655765 : Int32))) >>> (Int32.toUInt32 2 &&& Int32.toUInt32 31)).toInt32) &&& (858993459 : Int32))) + ((Int32.toUInt32 (((x0 - (((Int32.toUInt32 x0 >>> (Int32.toUInt32 1 &&& Int32.toUInt32 31)).toInt32) &&& (1431655765 : Int32))) &&& (858993459 : Int32)) + (((Int32.toUInt32 (x0 - (((Int32.toUInt32 x0 >>> (Int32.toUInt32 1 &&& Int32.toUInt32 31)).toInt32) &&& (1431655765 : Int32))) >>> (Int32.toUInt32 2 &&& Int32.toUInt32 31)).toInt32) &&& (858993459 : Int32))) >>> (Int32.toUInt32 4 &&& Int32.toUInt32 31)).toInt32)) &&& (252645135 : Int32)) >>> (Int32.toUInt32 8 &&& Int32.toUInt32 31)).toInt32)) >>> (Int32.toUInt32 16 &&& Int32.toUInt32 31)).toInt32)) &&& (63 : Int32))) 0 0 (fun _ => False) := by
  refine Met.ofW (cc := cJ6_bitCount_0f7a4) (maxL := 1) (ret := (some .int)) (by decide) rfl ?_
  intro p e s m args below meth c s₁ B hml hv
  obtain ⟨rfl, hP, hKK⟩ := hv
  have hx := B.exec
  have hb := B.bytes
  have hr := B.returns
  have hts := atoms_spec (ws := wsJ6_bitCount_0f7a4) B.pre
  have hown : s.vm.findClass RJ6 = some m.cls := findClass_of_methodNamed B.named
  have hlocks := B.notSynchronized
  have hK := hKK.1
  have hN := hKK.2
  have hl := lv_entry ([.int x0]) (n := 1) (Nat.le_of_ble_eq_true rfl)
  rw [lg_entry_eq]
  generalize (lg_sl ([.int x0]) ++ List.replicate (1 - (lg_sl ([.int x0])).length) Slot.unset).toArray = ls at hl ⊢
  have hl : lv_has ls 1 [(0, .int x0)] := hl
  refine lv_iload_n hx hb dJ6_bitCount_0f7a4_0 rfl (lv_at hl 0 rfl) ?_
  refine lv_iload_n hx hb dJ6_bitCount_0f7a4_1 rfl (lv_at hl 0 rfl) ?_
  refine lv_iconst (v := 1) hx hb dJ6_bitCount_0f7a4_2 (by decide) ?_
  refine lv_iushr (v := (Int32.toUInt32 x0 >>> (Int32.toUInt32 1 &&& Int32.toUInt32 31)).toInt32) hx hb dJ6_bitCount_0f7a4_3 rfl ?_
  refine lv_ldcw hx hb hown (hts (.constant RJ6 265 (1431655765)) (by decide +kernel)) dJ6_bitCount_0f7a4_4 ?_
  refine lv_iand hx hb dJ6_bitCount_0f7a4_7 ?_
  refine lv_isub hx hb dJ6_bitCount_0f7a4_8 ?_
  refine lv_istore_n (lv' := [(0, .int (x0 - (((Int32.toUInt32 x0 >>> (Int32.toUInt32 1 &&& Int32.toUInt32 31)).toInt32) &&& (1431655765 : Int32))))]) hx hb dJ6_bitCount_0f7a4_9 rfl hl (by decide) rfl (fun ls hl => ?_)
  refine lv_iload_n hx hb dJ6_bitCount_0f7a4_10 rfl (lv_at hl 0 rfl) ?_
  refine lv_ldcw hx hb hown (hts (.constant RJ6 266 (858993459)) (by decide +kernel)) dJ6_bitCount_0f7a4_11 ?_
  refine lv_iand hx hb dJ6_bitCount_0f7a4_14 ?_
  refine lv_iload_n hx hb dJ6_bitCount_0f7a4_15 rfl (lv_at hl 0 rfl) ?_
  refine lv_iconst (v := 2) hx hb dJ6_bitCount_0f7a4_16 (by decide) ?_
  refine lv_iushr (v := (Int32.toUInt32 (x0 - (((Int32.toUInt32 x0 >>> (Int32.toUInt32 1 &&& Int32.toUInt32 31)).toInt32) &&& (1431655765 : Int32))) >>> (Int32.toUInt32 2 &&& Int32.toUInt32 31)).toInt32) hx hb dJ6_bitCount_0f7a4_17 rfl ?_
  refine lv_ldcw hx hb hown (hts (.constant RJ6 266 (858993459)) (by decide +kernel)) dJ6_bitCount_0f7a4_18 ?_
  refine lv_iand hx hb dJ6_bitCount_0f7a4_21 ?_
  refine lv_iadd hx hb dJ6_bitCount_0f7a4_22 ?_
  refine lv_istore_n (lv' := [(0, .int (((x0 - (((Int32.toUInt32 x0 >>> (Int32.toUInt32 1 &&& Int32.toUInt32 31)).toInt32) &&& (1431655765 : Int32))) &&& (858993459 : Int32)) + (((Int32.toUInt32 (x0 - (((Int32.toUInt32 x0 >>> (Int32.toUInt32 1 &&& Int32.toUInt32 31)).toInt32) &&& (1431655765 : Int32))) >>> (Int32.toUInt32 2 &&& Int32.toUInt32 31)).toInt32) &&& (858993459 : Int32))))]) hx hb dJ6_bitCount_0f7a4_23 rfl hl (by decide) rfl (fun ls hl => ?_)
  refine lv_iload_n hx hb dJ6_bitCount_0f7a4_24 rfl (lv_at hl 0 rfl) ?_
  refine lv_iload_n hx hb dJ6_bitCount_0f7a4_25 rfl (lv_at hl 0 rfl) ?_
  refine lv_iconst (v := 4) hx hb dJ6_bitCount_0f7a4_26 (by decide) ?_
  refine lv_iushr (v := (Int32.toUInt32 (((x0 - (((Int32.toUInt32 x0 >>> (Int32.toUInt32 1 &&& Int32.toUInt32 31)).toInt32) &&& (1431655765 : Int32))) &&& (858993459 : Int32)) + (((Int32.toUInt32 (x0 - (((Int32.toUInt32 x0 >>> (Int32.toUInt32 1 &&& Int32.toUInt32 31)).toInt32) &&& (1431655765 : Int32))) >>> (Int32.toUInt32 2 &&& Int32.toUInt32 31)).toInt32) &&& (858993459 : Int32))) >>> (Int32.toUInt32 4 &&& Int32.toUInt32 31)).toInt32) hx hb dJ6_bitCount_0f7a4_27 rfl ?_
  refine lv_iadd hx hb dJ6_bitCount_0f7a4_28 ?_
  refine lv_ldcw hx hb hown (hts (.constant RJ6 267 (252645135)) (by decide +kernel)) dJ6_bitCount_0f7a4_29 ?_
  refine lv_iand hx hb dJ6_bitCount_0f7a4_32 ?_
  refine lv_istore_n (lv' := [(0, .int (((((x0 - (((Int32.toUInt32 x0 >>> (Int32.toUInt32 1 &&& Int32.toUInt32 31)).toInt32) &&& (1431655765 : Int32))) &&& (858993459 : Int32)) + (((Int32.toUInt32 (x0 - (((Int32.toUInt32 x0 >>> (Int32.toUInt32 1 &&& Int32.toUInt32 31)).toInt32) &&& (1431655765 : Int32))) >>> (Int32.toUInt32 2 &&& Int32.toUInt32 31)).toInt32) &&& (858993459 : Int32))) + ((Int32.toUInt32 (((x0 - (((Int32.toUInt32 x0 >>> (Int32.toUInt32 1 &&& Int32.toUInt32 31)).toInt32) &&& (1431655765 : Int32))) &&& (858993459 : Int32)) + (((Int32.toUInt32 (x0 - (((Int32.toUInt32 x0 >>> (Int32.toUInt32 1 &&& Int32.toUInt32 31)).toInt32) &&& (1431655765 : Int32))) >>> (Int32.toUInt32 2 &&& Int32.toUInt32 31)).toInt32) &&& (858993459 : Int32))) >>> (Int32.toUInt32 4 &&& Int32.toUInt32 31)).toInt32)) &&& (252645135 : Int32)))]) hx hb dJ6_bitCount_0f7a4_33 rfl hl (by decide) rfl (fun ls hl => ?_)
  refine lv_iload_n hx hb dJ6_bitCount_0f7a4_34 rfl (lv_at hl 0 rfl) ?_
  refine lv_iload_n hx hb dJ6_bitCount_0f7a4_35 rfl (lv_at hl 0 rfl) ?_
  refine lv_bipush (v := 8) hx hb dJ6_bitCount_0f7a4_36 (by decide) ?_
  refine lv_iushr (v := (Int32.toUInt32 (((((x0 - (((Int32.toUInt32 x0 >>> (Int32.toUInt32 1 &&& Int32.toUInt32 31)).toInt32) &&& (1431655765 : Int32))) &&& (858993459 : Int32)) + (((Int32.toUInt32 (x0 - (((Int32.toUInt32 x0 >>> (Int32.toUInt32 1 &&& Int32.toUInt32 31)).toInt32) &&& (1431655765 : Int32))) >>> (Int32.toUInt32 2 &&& Int32.toUInt32 31)).toInt32) &&& (858993459 : Int32))) + ((Int32.toUInt32 (((x0 - (((Int32.toUInt32 x0 >>> (Int32.toUInt32 1 &&& Int32.toUInt32 31)).toInt32) &&& (1431655765 : Int32))) &&& (858993459 : Int32)) + (((Int32.toUInt32 (x0 - (((Int32.toUInt32 x0 >>> (Int32.toUInt32 1 &&& Int32.toUInt32 31)).toInt32) &&& (1431655765 : Int32))) >>> (Int32.toUInt32 2 &&& Int32.toUInt32 31)).toInt32) &&& (858993459 : Int32))) >>> (Int32.toUInt32 4 &&& Int32.toUInt32 31)).toInt32)) &&& (252645135 : Int32)) >>> (Int32.toUInt32 8 &&& Int32.toUInt32 31)).toInt32) hx hb dJ6_bitCount_0f7a4_38 rfl ?_
  refine lv_iadd hx hb dJ6_bitCount_0f7a4_39 ?_
  refine lv_istore_n (lv' := [(0, .int ((((((x0 - (((Int32.toUInt32 x0 >>> (Int32.toUInt32 1 &&& Int32.toUInt32 31)).toInt32) &&& (1431655765 : Int32))) &&& (858993459 : Int32)) + (((Int32.toUInt32 (x0 - (((Int32.toUInt32 x0 >>> (Int32.toUInt32 1 &&& Int32.toUInt32 31)).toInt32) &&& (1431655765 : Int32))) >>> (Int32.toUInt32 2 &&& Int32.toUInt32 31)).toInt32) &&& (858993459 : Int32))) + ((Int32.toUInt32 (((x0 - (((Int32.toUInt32 x0 >>> (Int32.toUInt32 1 &&& Int32.toUInt32 31)).toInt32) &&& (1431655765 : Int32))) &&& (858993459 : Int32)) + (((Int32.toUInt32 (x0 - (((Int32.toUInt32 x0 >>> (Int32.toUInt32 1 &&& Int32.toUInt32 31)).toInt32) &&& (1431655765 : Int32))) >>> (Int32.toUInt32 2 &&& Int32.toUInt32 31)).toInt32) &&& (858993459 : Int32))) >>> (Int32.toUInt32 4 &&& Int32.toUInt32 31)).toInt32)) &&& (252645135 : Int32)) + ((Int32.toUInt32 (((((x0 - (((Int32.toUInt32 x0 >>> (Int32.toUInt32 1 &&& Int32.toUInt32 31)).toInt32) &&& (1431655765 : Int32))) &&& (858993459 : Int32)) + (((Int32.toUInt32 (x0 - (((Int32.toUInt32 x0 >>> (Int32.toUInt32 1 &&& Int32.toUInt32 31)).toInt32) &&& (1431655765 : Int32))) >>> (Int32.toUInt32 2 &&& Int32.toUInt32 31)).toInt32) &&& (858993459 : Int32))) + ((Int32.toUInt32 (((x0 - (((Int32.toUInt32 x0 >>> (Int32.toUInt32 1 &&& Int32.toUInt32 31)).toInt32) &&& (1431655765 : Int32))) &&& (858993459 : Int32)) + (((Int32.toUInt32 (x0 - (((Int32.toUInt32 x0 >>> (Int32.toUInt32 1 &&& Int32.toUInt32 31)).toInt32) &&& (1431655765 : Int32))) >>> (Int32.toUInt32 2 &&& Int32.toUInt32 31)).toInt32) &&& (858993459 : Int32))) >>> (Int32.toUInt32 4 &&& Int32.toUInt32 31)).toInt32)) &&& (252645135 : Int32)) >>> (Int32.toUInt32 8 &&& Int32.toUInt32 31)).toInt32)))]) hx hb dJ6_bitCount_0f7a4_40 rfl hl (by decide) rfl (fun ls hl => ?_)
  refine lv_iload_n hx hb dJ6_bitCount_0f7a4_41 rfl (lv_at hl 0 rfl) ?_
  refine lv_iload_n hx hb dJ6_bitCount_0f7a4_42 rfl (lv_at hl 0 rfl) ?_
  refine lv_bipush (v := 16) hx hb dJ6_bitCount_0f7a4_43 (by decide) ?_
  refine lv_iushr (v := (Int32.toUInt32 ((((((x0 - (((Int32.toUInt32 x0 >>> (Int32.toUInt32 1 &&& Int32.toUInt32 31)).toInt32) &&& (1431655765 : Int32))) &&& (858993459 : Int32)) + (((Int32.toUInt32 (x0 - (((Int32.toUInt32 x0 >>> (Int32.toUInt32 1 &&& Int32.toUInt32 31)).toInt32) &&& (1431655765 : Int32))) >>> (Int32.toUInt32 2 &&& Int32.toUInt32 31)).toInt32) &&& (858993459 : Int32))) + ((Int32.toUInt32 (((x0 - (((Int32.toUInt32 x0 >>> (Int32.toUInt32 1 &&& Int32.toUInt32 31)).toInt32) &&& (1431655765 : Int32))) &&& (858993459 : Int32)) + (((Int32.toUInt32 (x0 - (((Int32.toUInt32 x0 >>> (Int32.toUInt32 1 &&& Int32.toUInt32 31)).toInt32) &&& (1431655765 : Int32))) >>> (Int32.toUInt32 2 &&& Int32.toUInt32 31)).toInt32) &&& (858993459 : Int32))) >>> (Int32.toUInt32 4 &&& Int32.toUInt32 31)).toInt32)) &&& (252645135 : Int32)) + ((Int32.toUInt32 (((((x0 - (((Int32.toUInt32 x0 >>> (Int32.toUInt32 1 &&& Int32.toUInt32 31)).toInt32) &&& (1431655765 : Int32))) &&& (858993459 : Int32)) + (((Int32.toUInt32 (x0 - (((Int32.toUInt32 x0 >>> (Int32.toUInt32 1 &&& Int32.toUInt32 31)).toInt32) &&& (1431655765 : Int32))) >>> (Int32.toUInt32 2 &&& Int32.toUInt32 31)).toInt32) &&& (858993459 : Int32))) + ((Int32.toUInt32 (((x0 - (((Int32.toUInt32 x0 >>> (Int32.toUInt32 1 &&& Int32.toUInt32 31)).toInt32) &&& (1431655765 : Int32))) &&& (858993459 : Int32)) + (((Int32.toUInt32 (x0 - (((Int32.toUInt32 x0 >>> (Int32.toUInt32 1 &&& Int32.toUInt32 31)).toInt32) &&& (1431655765 : Int32))) >>> (Int32.toUInt32 2 &&& Int32.toUInt32 31)).toInt32) &&& (858993459 : Int32))) >>> (Int32.toUInt32 4 &&& Int32.toUInt32 31)).toInt32)) &&& (252645135 : Int32)) >>> (Int32.toUInt32 8 &&& Int32.toUInt32 31)).toInt32)) >>> (Int32.toUInt32 16 &&& Int32.toUInt32 31)).toInt32) hx hb dJ6_bitCount_0f7a4_45 rfl ?_
  refine lv_iadd hx hb dJ6_bitCount_0f7a4_46 ?_
  refine lv_istore_n (lv' := [(0, .int (((((((x0 - (((Int32.toUInt32 x0 >>> (Int32.toUInt32 1 &&& Int32.toUInt32 31)).toInt32) &&& (1431655765 : Int32))) &&& (858993459 : Int32)) + (((Int32.toUInt32 (x0 - (((Int32.toUInt32 x0 >>> (Int32.toUInt32 1 &&& Int32.toUInt32 31)).toInt32) &&& (1431655765 : Int32))) >>> (Int32.toUInt32 2 &&& Int32.toUInt32 31)).toInt32) &&& (858993459 : Int32))) + ((Int32.toUInt32 (((x0 - (((Int32.toUInt32 x0 >>> (Int32.toUInt32 1 &&& Int32.toUInt32 31)).toInt32) &&& (1431655765 : Int32))) &&& (858993459 : Int32)) + (((Int32.toUInt32 (x0 - (((Int32.toUInt32 x0 >>> (Int32.toUInt32 1 &&& Int32.toUInt32 31)).toInt32) &&& (1431655765 : Int32))) >>> (Int32.toUInt32 2 &&& Int32.toUInt32 31)).toInt32) &&& (858993459 : Int32))) >>> (Int32.toUInt32 4 &&& Int32.toUInt32 31)).toInt32)) &&& (252645135 : Int32)) + ((Int32.toUInt32 (((((x0 - (((Int32.toUInt32 x0 >>> (Int32.toUInt32 1 &&& Int32.toUInt32 31)).toInt32) &&& (1431655765 : Int32))) &&& (858993459 : Int32)) + (((Int32.toUInt32 (x0 - (((Int32.toUInt32 x0 >>> (Int32.toUInt32 1 &&& Int32.toUInt32 31)).toInt32) &&& (1431655765 : Int32))) >>> (Int32.toUInt32 2 &&& Int32.toUInt32 31)).toInt32) &&& (858993459 : Int32))) + ((Int32.toUInt32 (((x0 - (((Int32.toUInt32 x0 >>> (Int32.toUInt32 1 &&& Int32.toUInt32 31)).toInt32) &&& (1431655765 : Int32))) &&& (858993459 : Int32)) + (((Int32.toUInt32 (x0 - (((Int32.toUInt32 x0 >>> (Int32.toUInt32 1 &&& Int32.toUInt32 31)).toInt32) &&& (1431655765 : Int32))) >>> (Int32.toUInt32 2 &&& Int32.toUInt32 31)).toInt32) &&& (858993459 : Int32))) >>> (Int32.toUInt32 4 &&& Int32.toUInt32 31)).toInt32)) &&& (252645135 : Int32)) >>> (Int32.toUInt32 8 &&& Int32.toUInt32 31)).toInt32)) + ((Int32.toUInt32 ((((((x0 - (((Int32.toUInt32 x0 >>> (Int32.toUInt32 1 &&& Int32.toUInt32 31)).toInt32) &&& (1431655765 : Int32))) &&& (858993459 : Int32)) + (((Int32.toUInt32 (x0 - (((Int32.toUInt32 x0 >>> (Int32.toUInt32 1 &&& Int32.toUInt32 31)).toInt32) &&& (1431655765 : Int32))) >>> (Int32.toUInt32 2 &&& Int32.toUInt32 31)).toInt32) &&& (858993459 : Int32))) + ((Int32.toUInt32 (((x0 - (((Int32.toUInt32 x0 >>> (Int32.toUInt32 1 &&& Int32.toUInt32 31)).toInt32) &&& (1431655765 : Int32))) &&& (858993459 : Int32)) + (((Int32.toUInt32 (x0 - (((Int32.toUInt32 x0 >>> (Int32.toUInt32 1 &&& Int32.toUInt32 31)).toInt32) &&& (1431655765 : Int32))) >>> (Int32.toUInt32 2 &&& Int32.toUInt32 31)).toInt32) &&& (858993459 : Int32))) >>> (Int32.toUInt32 4 &&& Int32.toUInt32 31)).toInt32)) &&& (252645135 : Int32)) + ((Int32.toUInt32 (((((x0 - (((Int32.toUInt32 x0 >>> (Int32.toUInt32 1 &&& Int32.toUInt32 31)).toInt32) &&& (1431655765 : Int32))) &&& (858993459 : Int32)) + (((Int32.toUInt32 (x0 - (((Int32.toUInt32 x0 >>> (Int32.toUInt32 1 &&& Int32.toUInt32 31)).toInt32) &&& (1431655765 : Int32))) >>> (Int32.toUInt32 2 &&& Int32.toUInt32 31)).toInt32) &&& (858993459 : Int32))) + ((Int32.toUInt32 (((x0 - (((Int32.toUInt32 x0 >>> (Int32.toUInt32 1 &&& Int32.toUInt32 31)).toInt32) &&& (1431655765 : Int32))) &&& (858993459 : Int32)) + (((Int32.toUInt32 (x0 - (((Int32.toUInt32 x0 >>> (Int32.toUInt32 1 &&& Int32.toUInt32 31)).toInt32) &&& (1431655765 : Int32))) >>> (Int32.toUInt32 2 &&& Int32.toUInt32 31)).toInt32) &&& (858993459 : Int32))) >>> (Int32.toUInt32 4 &&& Int32.toUInt32 31)).toInt32)) &&& (252645135 : Int32)) >>> (Int32.toUInt32 8 &&& Int32.toUInt32 31)).toInt32)) >>> (Int32.toUInt32 16 &&& Int32.toUInt32 31)).toInt32)))]) hx hb dJ6_bitCount_0f7a4_47 rfl hl (by decide) rfl (fun ls hl => ?_)
  refine lv_iload_n hx hb dJ6_bitCount_0f7a4_48 rfl (lv_at hl 0 rfl) ?_
  refine lv_bipush (v := 63) hx hb dJ6_bitCount_0f7a4_49 (by decide) ?_
  refine lv_iand hx hb dJ6_bitCount_0f7a4_51 ?_
  exact W.iret (v := (((((((x0 - (((Int32.toUInt32 x0 >>> (Int32.toUInt32 1 &&& Int32.toUInt32 31)).toInt32) &&& (1431655765 : Int32))) &&& (858993459 : Int32)) + (((Int32.toUInt32 (x0 - (((Int32.toUInt32 x0 >>> (Int32.toUInt32 1 &&& Int32.toUInt32 31)).toInt32) &&& (1431655765 : Int32))) >>> (Int32.toUInt32 2 &&& Int32.toUInt32 31)).toInt32) &&& (858993459 : Int32))) + ((Int32.toUInt32 (((x0 - (((Int32.toUInt32 x0 >>> (Int32.toUInt32 1 &&& Int32.toUInt32 31)).toInt32) &&& (1431655765 : Int32))) &&& (858993459 : Int32)) + (((Int32.toUInt32 (x0 - (((Int32.toUInt32 x0 >>> (Int32.toUInt32 1 &&& Int32.toUInt32 31)).toInt32) &&& (1431655765 : Int32))) >>> (Int32.toUInt32 2 &&& Int32.toUInt32 31)).toInt32) &&& (858993459 : Int32))) >>> (Int32.toUInt32 4 &&& Int32.toUInt32 31)).toInt32)) &&& (252645135 : Int32)) + ((Int32.toUInt32 (((((x0 - (((Int32.toUInt32 x0 >>> (Int32.toUInt32 1 &&& Int32.toUInt32 31)).toInt32) &&& (1431655765 : Int32))) &&& (858993459 : Int32)) + (((Int32.toUInt32 (x0 - (((Int32.toUInt32 x0 >>> (Int32.toUInt32 1 &&& Int32.toUInt32 31)).toInt32) &&& (1431655765 : Int32))) >>> (Int32.toUInt32 2 &&& Int32.toUInt32 31)).toInt32) &&& (858993459 : Int32))) + ((Int32.toUInt32 (((x0 - (((Int32.toUInt32 x0 >>> (Int32.toUInt32 1 &&& Int32.toUInt32 31)).toInt32) &&& (1431655765 : Int32))) &&& (858993459 : Int32)) + (((Int32.toUInt32 (x0 - (((Int32.toUInt32 x0 >>> (Int32.toUInt32 1 &&& Int32.toUInt32 31)).toInt32) &&& (1431655765 : Int32))) >>> (Int32.toUInt32 2 &&& Int32.toUInt32 31)).toInt32) &&& (858993459 : Int32))) >>> (Int32.toUInt32 4 &&& Int32.toUInt32 31)).toInt32)) &&& (252645135 : Int32)) >>> (Int32.toUInt32 8 &&& Int32.toUInt32 31)).toInt32)) + ((Int32.toUInt32 ((((((x0 - (((Int32.toUInt32 x0 >>> (Int32.toUInt32 1 &&& Int32.toUInt32 31)).toInt32) &&& (1431655765 : Int32))) &&& (858993459 : Int32)) + (((Int32.toUInt32 (x0 - (((Int32.toUInt32 x0 >>> (Int32.toUInt32 1 &&& Int32.toUInt32 31)).toInt32) &&& (1431655765 : Int32))) >>> (Int32.toUInt32 2 &&& Int32.toUInt32 31)).toInt32) &&& (858993459 : Int32))) + ((Int32.toUInt32 (((x0 - (((Int32.toUInt32 x0 >>> (Int32.toUInt32 1 &&& Int32.toUInt32 31)).toInt32) &&& (1431655765 : Int32))) &&& (858993459 : Int32)) + (((Int32.toUInt32 (x0 - (((Int32.toUInt32 x0 >>> (Int32.toUInt32 1 &&& Int32.toUInt32 31)).toInt32) &&& (1431655765 : Int32))) >>> (Int32.toUInt32 2 &&& Int32.toUInt32 31)).toInt32) &&& (858993459 : Int32))) >>> (Int32.toUInt32 4 &&& Int32.toUInt32 31)).toInt32)) &&& (252645135 : Int32)) + ((Int32.toUInt32 (((((x0 - (((Int32.toUInt32 x0 >>> (Int32.toUInt32 1 &&& Int32.toUInt32 31)).toInt32) &&& (1431655765 : Int32))) &&& (858993459 : Int32)) + (((Int32.toUInt32 (x0 - (((Int32.toUInt32 x0 >>> (Int32.toUInt32 1 &&& Int32.toUInt32 31)).toInt32) &&& (1431655765 : Int32))) >>> (Int32.toUInt32 2 &&& Int32.toUInt32 31)).toInt32) &&& (858993459 : Int32))) + ((Int32.toUInt32 (((x0 - (((Int32.toUInt32 x0 >>> (Int32.toUInt32 1 &&& Int32.toUInt32 31)).toInt32) &&& (1431655765 : Int32))) &&& (858993459 : Int32)) + (((Int32.toUInt32 (x0 - (((Int32.toUInt32 x0 >>> (Int32.toUInt32 1 &&& Int32.toUInt32 31)).toInt32) &&& (1431655765 : Int32))) >>> (Int32.toUInt32 2 &&& Int32.toUInt32 31)).toInt32) &&& (858993459 : Int32))) >>> (Int32.toUInt32 4 &&& Int32.toUInt32 31)).toInt32)) &&& (252645135 : Int32)) >>> (Int32.toUInt32 8 &&& Int32.toUInt32 31)).toInt32)) >>> (Int32.toUInt32 16 &&& Int32.toUInt32 31)).toInt32)) &&& (63 : Int32)) hx hb hr (fun t ht hW => ⟨_, rfl, rfl, ht⟩) (fun q hq => absurd hq List.not_mem_nil) dJ6_bitCount_0f7a4_52
set_option maxHeartbeats 4000000 in
set_option maxRecDepth 100000 in
theorem c_X12_in_14 (l : Launch) (D : va_G) (cI cS : ClassId) (x0 : Int32) : Met l yX12_in wsX12_in ({ frames := 0, cells := 0, slots := 0, locals := 0 }) (PS D cI cS [] [.int x0, .int 0, .int 12]) (vp_Si (fun r => r = if x0 < 0 then (0 : Int32) else (if (12 : Int32) < x0 then (0 : Int32) else (1 : Int32)))) 0 0 (fun _ => False) := by
  refine Met.ofW (cc := cX12_in) (maxL := 3) (ret := (some .boolean)) (by decide) rfl ?_
  intro p e s m args below meth c s₁ B hml hv
  obtain ⟨rfl, hP, hKK⟩ := hv
  have hx := B.exec
  have hb := B.bytes
  have hr := B.returns
  have hts := atoms_spec (ws := wsX12_in) B.pre
  have hown : s.vm.findClass RX12 = some m.cls := findClass_of_methodNamed B.named
  have hlocks := B.notSynchronized
  have hK := hKK.1
  have hN := hKK.2
  have hl := lv_entry ([.int x0, .int 0, .int 12]) (n := 3) (Nat.le_of_ble_eq_true rfl)
  rw [lg_entry_eq]
  generalize (lg_sl ([.int x0, .int 0, .int 12]) ++ List.replicate (3 - (lg_sl ([.int x0, .int 0, .int 12])).length) Slot.unset).toArray = ls at hl ⊢
  have hl : lv_has ls 3 [(0, .int x0), (1, .int 0), (2, .int 12)] := hl
  refine lv_iload_n hx hb dX12_in_0 rfl (lv_at hl 0 rfl) ?_
  refine lv_iload_n hx hb dX12_in_1 rfl (lv_at hl 1 rfl) ?_
  refine lv_icmp_lt (tgt := 14) hx hb dX12_in_2 (by decide) (fun c5093 => ?_) (fun c5093 => ?_)
  · refine lv_iconst (v := 0) hx hb dX12_in_14 (by decide) ?_
    exact W.zret (v := 0) hx hb hr (by decide) (fun t ht hW => ⟨_, rfl, by rw [if_pos c5093], ht⟩) (fun q hq => absurd hq List.not_mem_nil) dX12_in_15
  · refine lv_iload_n hx hb dX12_in_5 rfl (lv_at hl 0 rfl) ?_
    refine lv_iload_n hx hb dX12_in_6 rfl (lv_at hl 2 rfl) ?_
    refine lv_icmp_gt (tgt := 14) hx hb dX12_in_7 (by decide) (fun c5094 => ?_) (fun c5094 => ?_)
    · refine lv_iconst (v := 0) hx hb dX12_in_14 (by decide) ?_
      exact W.zret (v := 0) hx hb hr (by decide) (fun t ht hW => ⟨_, rfl, by rw [if_neg c5093, if_pos c5094], ht⟩) (fun q hq => absurd hq List.not_mem_nil) dX12_in_15
    · refine lv_iconst (v := 1) hx hb dX12_in_10 (by decide) ?_
      refine lv_goto (tgt := 15) hx hb dX12_in_11 (by decide) ?_
      exact W.zret (v := 1) hx hb hr (by decide) (fun t ht hW => ⟨_, rfl, by rw [if_neg c5093, if_neg c5094], ht⟩) (fun q hq => absurd hq List.not_mem_nil) dX12_in_15
set_option maxHeartbeats 4000000 in
set_option maxRecDepth 100000 in
theorem c_X12_in_15 (l : Launch) (D : va_G) (cI cS : ClassId) (x0 : Int32) : Met l yX12_in wsX12_in ({ frames := 0, cells := 0, slots := 0, locals := 0 }) (PS D cI cS [] [.int x0, .int 0, .int 10]) (vp_Si (fun r => r = if x0 < 0 then (0 : Int32) else (if (10 : Int32) < x0 then (0 : Int32) else (1 : Int32)))) 0 0 (fun _ => False) := by
  refine Met.ofW (cc := cX12_in) (maxL := 3) (ret := (some .boolean)) (by decide) rfl ?_
  intro p e s m args below meth c s₁ B hml hv
  obtain ⟨rfl, hP, hKK⟩ := hv
  have hx := B.exec
  have hb := B.bytes
  have hr := B.returns
  have hts := atoms_spec (ws := wsX12_in) B.pre
  have hown : s.vm.findClass RX12 = some m.cls := findClass_of_methodNamed B.named
  have hlocks := B.notSynchronized
  have hK := hKK.1
  have hN := hKK.2
  have hl := lv_entry ([.int x0, .int 0, .int 10]) (n := 3) (Nat.le_of_ble_eq_true rfl)
  rw [lg_entry_eq]
  generalize (lg_sl ([.int x0, .int 0, .int 10]) ++ List.replicate (3 - (lg_sl ([.int x0, .int 0, .int 10])).length) Slot.unset).toArray = ls at hl ⊢
  have hl : lv_has ls 3 [(0, .int x0), (1, .int 0), (2, .int 10)] := hl
  refine lv_iload_n hx hb dX12_in_0 rfl (lv_at hl 0 rfl) ?_
  refine lv_iload_n hx hb dX12_in_1 rfl (lv_at hl 1 rfl) ?_
  refine lv_icmp_lt (tgt := 14) hx hb dX12_in_2 (by decide) (fun c5103 => ?_) (fun c5103 => ?_)
  · refine lv_iconst (v := 0) hx hb dX12_in_14 (by decide) ?_
    exact W.zret (v := 0) hx hb hr (by decide) (fun t ht hW => ⟨_, rfl, by rw [if_pos c5103], ht⟩) (fun q hq => absurd hq List.not_mem_nil) dX12_in_15
  · refine lv_iload_n hx hb dX12_in_5 rfl (lv_at hl 0 rfl) ?_
    refine lv_iload_n hx hb dX12_in_6 rfl (lv_at hl 2 rfl) ?_
    refine lv_icmp_gt (tgt := 14) hx hb dX12_in_7 (by decide) (fun c5104 => ?_) (fun c5104 => ?_)
    · refine lv_iconst (v := 0) hx hb dX12_in_14 (by decide) ?_
      exact W.zret (v := 0) hx hb hr (by decide) (fun t ht hW => ⟨_, rfl, by rw [if_neg c5103, if_pos c5104], ht⟩) (fun q hq => absurd hq List.not_mem_nil) dX12_in_15
    · refine lv_iconst (v := 1) hx hb dX12_in_10 (by decide) ?_
      refine lv_goto (tgt := 15) hx hb dX12_in_11 (by decide) ?_
      exact W.zret (v := 1) hx hb hr (by decide) (fun t ht hW => ⟨_, rfl, by rw [if_neg c5103, if_neg c5104], ht⟩) (fun q hq => absurd hq List.not_mem_nil) dX12_in_15
set_option maxHeartbeats 4000000 in
set_option maxRecDepth 100000 in
theorem c_X11_canDeal_0 (l : Launch) (D : va_G) (cI cS : ClassId) (x0 x1 : Int32) : Met l yX11_canDeal wsX11_canDeal ({ frames := 0, cells := 0, slots := 0, locals := 0 }) (PS D cI cS [] [.int x0, .int x1]) (vp_Si (fun r => r = if x0 < 0 then (0 : Int32) else (if (12 : Int32) < x0 then (0 : Int32) else (if x1 < 0 then (0 : Int32) else (if (10 : Int32) < x1 then (0 : Int32) else (1 : Int32)))))) 0 0 (fun _ => False) := by
  refine Met.ofW (cc := cX11_canDeal) (maxL := 2) (ret := (some .boolean)) (by decide) rfl ?_
  intro p e s m args below meth c s₁ B hml hv
  obtain ⟨rfl, hP, hKK⟩ := hv
  have hx := B.exec
  have hb := B.bytes
  have hr := B.returns
  have hts := atoms_spec (ws := wsX11_canDeal) B.pre
  have hown : s.vm.findClass RX11 = some m.cls := findClass_of_methodNamed B.named
  have hlocks := B.notSynchronized
  have hK := hKK.1
  have hN := hKK.2
  have hl := lv_entry ([.int x0, .int x1]) (n := 2) (Nat.le_of_ble_eq_true rfl)
  rw [lg_entry_eq]
  generalize (lg_sl ([.int x0, .int x1]) ++ List.replicate (2 - (lg_sl ([.int x0, .int x1])).length) Slot.unset).toArray = ls at hl ⊢
  have hl : lv_has ls 2 [(0, .int x0), (1, .int x1)] := hl
  refine lv_iload_n hx hb dX11_canDeal_0 rfl (lv_at hl 0 rfl) ?_
  refine lv_if_lt (tgt := 24) hx hb dX11_canDeal_1 (by decide) (fun c5115 => ?_) (fun c5115 => ?_)
  · refine lv_iconst (v := 0) hx hb dX11_canDeal_24 (by decide) ?_
    exact W.zret (v := 0) hx hb hr (by decide) (fun t ht hW => ⟨_, rfl, by rw [if_pos c5115], ht⟩) (fun q hq => absurd hq List.not_mem_nil) dX11_canDeal_25
  · refine lv_iload_n hx hb dX11_canDeal_4 rfl (lv_at hl 0 rfl) ?_
    refine lv_bipush (v := 12) hx hb dX11_canDeal_5 (by decide) ?_
    refine lv_icmp_gt (tgt := 24) hx hb dX11_canDeal_7 (by decide) (fun c5116 => ?_) (fun c5116 => ?_)
    · refine lv_iconst (v := 0) hx hb dX11_canDeal_24 (by decide) ?_
      exact W.zret (v := 0) hx hb hr (by decide) (fun t ht hW => ⟨_, rfl, by rw [if_neg c5115, if_pos c5116], ht⟩) (fun q hq => absurd hq List.not_mem_nil) dX11_canDeal_25
    · refine lv_iload_n hx hb dX11_canDeal_10 rfl (lv_at hl 1 rfl) ?_
      refine lv_if_lt (tgt := 24) hx hb dX11_canDeal_11 (by decide) (fun c5117 => ?_) (fun c5117 => ?_)
      · refine lv_iconst (v := 0) hx hb dX11_canDeal_24 (by decide) ?_
        exact W.zret (v := 0) hx hb hr (by decide) (fun t ht hW => ⟨_, rfl, by rw [if_neg c5115, if_neg c5116, if_pos c5117], ht⟩) (fun q hq => absurd hq List.not_mem_nil) dX11_canDeal_25
      · refine lv_iload_n hx hb dX11_canDeal_14 rfl (lv_at hl 1 rfl) ?_
        refine lv_bipush (v := 10) hx hb dX11_canDeal_15 (by decide) ?_
        refine lv_icmp_gt (tgt := 24) hx hb dX11_canDeal_17 (by decide) (fun c5118 => ?_) (fun c5118 => ?_)
        · refine lv_iconst (v := 0) hx hb dX11_canDeal_24 (by decide) ?_
          exact W.zret (v := 0) hx hb hr (by decide) (fun t ht hW => ⟨_, rfl, by rw [if_neg c5115, if_neg c5116, if_neg c5117, if_pos c5118], ht⟩) (fun q hq => absurd hq List.not_mem_nil) dX11_canDeal_25
        · refine lv_iconst (v := 1) hx hb dX11_canDeal_20 (by decide) ?_
          refine lv_goto (tgt := 25) hx hb dX11_canDeal_21 (by decide) ?_
          exact W.zret (v := 1) hx hb hr (by decide) (fun t ht hW => ⟨_, rfl, by rw [if_neg c5115, if_neg c5116, if_neg c5117, if_neg c5118], ht⟩) (fun q hq => absurd hq List.not_mem_nil) dX11_canDeal_25
/-- Integer.bitCount, as its code has it -/
def bc (x0 : Int32) : Int32 := (((((((x0 - (((Int32.toUInt32 x0 >>> (Int32.toUInt32 1 &&& Int32.toUInt32 31)).toInt32) &&& (1431655765 : Int32))) &&& (858993459 : Int32)) + (((Int32.toUInt32 (x0 - (((Int32.toUInt32 x0 >>> (Int32.toUInt32 1 &&& Int32.toUInt32 31)).toInt32) &&& (1431655765 : Int32))) >>> (Int32.toUInt32 2 &&& Int32.toUInt32 31)).toInt32) &&& (858993459 : Int32))) + ((Int32.toUInt32 (((x0 - (((Int32.toUInt32 x0 >>> (Int32.toUInt32 1 &&& Int32.toUInt32 31)).toInt32) &&& (1431655765 : Int32))) &&& (858993459 : Int32)) + (((Int32.toUInt32 (x0 - (((Int32.toUInt32 x0 >>> (Int32.toUInt32 1 &&& Int32.toUInt32 31)).toInt32) &&& (1431655765 : Int32))) >>> (Int32.toUInt32 2 &&& Int32.toUInt32 31)).toInt32) &&& (858993459 : Int32))) >>> (Int32.toUInt32 4 &&& Int32.toUInt32 31)).toInt32)) &&& (252645135 : Int32)) + ((Int32.toUInt32 (((((x0 - (((Int32.toUInt32 x0 >>> (Int32.toUInt32 1 &&& Int32.toUInt32 31)).toInt32) &&& (1431655765 : Int32))) &&& (858993459 : Int32)) + (((Int32.toUInt32 (x0 - (((Int32.toUInt32 x0 >>> (Int32.toUInt32 1 &&& Int32.toUInt32 31)).toInt32) &&& (1431655765 : Int32))) >>> (Int32.toUInt32 2 &&& Int32.toUInt32 31)).toInt32) &&& (858993459 : Int32))) + ((Int32.toUInt32 (((x0 - (((Int32.toUInt32 x0 >>> (Int32.toUInt32 1 &&& Int32.toUInt32 31)).toInt32) &&& (1431655765 : Int32))) &&& (858993459 : Int32)) + (((Int32.toUInt32 (x0 - (((Int32.toUInt32 x0 >>> (Int32.toUInt32 1 &&& Int32.toUInt32 31)).toInt32) &&& (1431655765 : Int32))) >>> (Int32.toUInt32 2 &&& Int32.toUInt32 31)).toInt32) &&& (858993459 : Int32))) >>> (Int32.toUInt32 4 &&& Int32.toUInt32 31)).toInt32)) &&& (252645135 : Int32)) >>> (Int32.toUInt32 8 &&& Int32.toUInt32 31)).toInt32)) + ((Int32.toUInt32 ((((((x0 - (((Int32.toUInt32 x0 >>> (Int32.toUInt32 1 &&& Int32.toUInt32 31)).toInt32) &&& (1431655765 : Int32))) &&& (858993459 : Int32)) + (((Int32.toUInt32 (x0 - (((Int32.toUInt32 x0 >>> (Int32.toUInt32 1 &&& Int32.toUInt32 31)).toInt32) &&& (1431655765 : Int32))) >>> (Int32.toUInt32 2 &&& Int32.toUInt32 31)).toInt32) &&& (858993459 : Int32))) + ((Int32.toUInt32 (((x0 - (((Int32.toUInt32 x0 >>> (Int32.toUInt32 1 &&& Int32.toUInt32 31)).toInt32) &&& (1431655765 : Int32))) &&& (858993459 : Int32)) + (((Int32.toUInt32 (x0 - (((Int32.toUInt32 x0 >>> (Int32.toUInt32 1 &&& Int32.toUInt32 31)).toInt32) &&& (1431655765 : Int32))) >>> (Int32.toUInt32 2 &&& Int32.toUInt32 31)).toInt32) &&& (858993459 : Int32))) >>> (Int32.toUInt32 4 &&& Int32.toUInt32 31)).toInt32)) &&& (252645135 : Int32)) + ((Int32.toUInt32 (((((x0 - (((Int32.toUInt32 x0 >>> (Int32.toUInt32 1 &&& Int32.toUInt32 31)).toInt32) &&& (1431655765 : Int32))) &&& (858993459 : Int32)) + (((Int32.toUInt32 (x0 - (((Int32.toUInt32 x0 >>> (Int32.toUInt32 1 &&& Int32.toUInt32 31)).toInt32) &&& (1431655765 : Int32))) >>> (Int32.toUInt32 2 &&& Int32.toUInt32 31)).toInt32) &&& (858993459 : Int32))) + ((Int32.toUInt32 (((x0 - (((Int32.toUInt32 x0 >>> (Int32.toUInt32 1 &&& Int32.toUInt32 31)).toInt32) &&& (1431655765 : Int32))) &&& (858993459 : Int32)) + (((Int32.toUInt32 (x0 - (((Int32.toUInt32 x0 >>> (Int32.toUInt32 1 &&& Int32.toUInt32 31)).toInt32) &&& (1431655765 : Int32))) >>> (Int32.toUInt32 2 &&& Int32.toUInt32 31)).toInt32) &&& (858993459 : Int32))) >>> (Int32.toUInt32 4 &&& Int32.toUInt32 31)).toInt32)) &&& (252645135 : Int32)) >>> (Int32.toUInt32 8 &&& Int32.toUInt32 31)).toInt32)) >>> (Int32.toUInt32 16 &&& Int32.toUInt32 31)).toInt32)) &&& (63 : Int32)
theorem fa_and (a b : Nat) : nI a &&& nI b = nI (a &&& b) := by
  apply Int32.toBitVec_inj.1
  show BitVec.ofNat 32 a &&& BitVec.ofNat 32 b = BitVec.ofNat 32 (a &&& b)
  apply BitVec.eq_of_getLsbD_eq
  intro i hi
  simp [hi]
theorem fa_or (a b : Nat) : nI a ||| nI b = nI (a ||| b) := by
  apply Int32.toBitVec_inj.1
  show BitVec.ofNat 32 a ||| BitVec.ofNat 32 b = BitVec.ofNat 32 (a ||| b)
  apply BitVec.eq_of_getLsbD_eq
  intro i hi
  simp [hi]
set_option maxRecDepth 1000000 in
theorem bc_all : (List.range 4096).all (fun n => decide (n = 0 ∨ bc (nI (n &&& (n - 1))) + 1 = bc (nI n))) = true := by decide +kernel
theorem bc_step {n : Nat} (h : n < 4096) (h0 : n ≠ 0) : bc (nI (n &&& (n - 1))) + 1 = bc (nI n) := (co_dec (P := fun n => n = 0 ∨ bc (nI (n &&& (n - 1))) + 1 = bc (nI n)) bc_all h).resolve_left h0
theorem bc_0 : bc (nI 0) = 0 := by decide
def sB (f : Nat → Int32) : Nat → Int32
  | 0 => 0
  | p + 1 => sB f p + bc (f p)
theorem sB_cong {f g : Nat → Int32} : ∀ {k : Nat}, Like k f g → sB f k = sB g k
  | 0, _ => rfl
  | k + 1, h => by
    show sB f k + bc (f k) = sB g k + bc (g k)
    rw [sB_cong (fun j hj => h j (by omega)), h k (by omega)]
/-- all rows are numbers below 4096 -/
def Lo (k : Nat) (f : Nat → Int32) : Prop := ∀ j, j < k → ∃ v, v < 4096 ∧ f j = nI v
theorem bt1_eq : ∀ b, b < 12 → bt1 b = nI (2 ^ b) := by decide +kernel
theorem Lo.lay {k : Nat} (hk : k ≤ 12) {f : Nat → Int32} (h : Lo k f) {a b : Nat} (ha : a < k) (hb : b < k) : Lo k (lay1 f a b) := by
  have orl : ∀ {x : Int32} {c : Nat}, c < 12 → (∃ v, v < 4096 ∧ x = nI v) → ∃ v, v < 4096 ∧ x ||| bt1 c = nI v := fun {x c} hc hv => by
    obtain ⟨v, hv, rfl⟩ := hv
    refine ⟨v ||| 2 ^ c, ?_, by rw [bt1_eq c hc, fa_or]⟩
    exact Nat.or_lt_two_pow (n := 12) hv (Nat.pow_lt_pow_right (by decide) hc)
  have h1 : ∀ j, j < k → ∃ v, v < 4096 ∧ upd f a (f a ||| bt1 b) j = nI v := fun j hj => by
    simp only [upd]
    split
    · exact orl (by omega) (h a ha)
    · exact h j hj
  intro j hj
  simp only [lay1]
  show ∃ v, v < 4096 ∧ (if j = b then _ else _) = nI v
  split
  · exact orl (by omega) (h1 b hb)
  · exact h1 j hj
theorem dI_lo {k : Nat} (hk : k ≤ 12) {od : Int32} {a : Nat} (ha : a < k) {p : (Nat → Int32) × Int32} (h : Lo k p.1) : ∀ m, a + 1 + m ≤ k → Lo k (dI od a p m).1
  | 0, _ => h
  | m + 1, hm => by
    have h1 := dI_lo hk ha h m (by omega) (od := od)
    show Lo k (dst od a (a + 1 + m) (dI od a p m)).1
    unfold dst
    by_cases c : od ≤ zr (dI od a p m).2
    · rw [if_pos c]
      exact h1
    · rw [if_neg c]
      exact h1.lay hk ha (by omega)
theorem dO_lo {k : Nat} (hk : k ≤ 12) {od z : Int32} : ∀ a, a ≤ k → Lo k (dO od k z a).1
  | 0, _ => fun j _ => ⟨0, by decide, rfl⟩
  | a + 1, ha => dI_lo hk (by omega) (dO_lo hk a (by omega)) (k - (a + 1)) (by omega)
theorem Lo.like {k : Nat} {f g : Nat → Int32} (h : Lo k g) (e : Like k f g) : Lo k f := fun j hj => by rw [e j hj]; exact h j hj
/-- what deal answers on a new object -/
def dealR (x0 x1 : Int32) : Int32 := if x0 < 0 then -2 else if 12 < x0 then -2 else if x1 < 0 then -2 else if 10 < x1 then -2 else sB (dO x1 x0.toNatClampNeg 1 x0.toNatClampNeg).1 x0.toNatClampNeg / 2

theorem dX12_bits_11 : decode cX12_bits 11 = .ok (.iload_n 2, 1) := by decide +kernel
theorem dX12_bits_12 : decode cX12_bits 12 = .ok (.iload_n 2, 1) := by decide +kernel
theorem dX12_bits_13 : decode cX12_bits 13 = .ok (.iconst 1, 1) := by decide +kernel
theorem dX12_bits_14 : decode cX12_bits 14 = .ok (.isub, 1) := by decide +kernel
theorem dX12_bits_15 : decode cX12_bits 15 = .ok (.iand, 1) := by decide +kernel
theorem dX12_bits_16 : decode cX12_bits 16 = .ok (.istore_n 2, 1) := by decide +kernel
theorem dX12_bits_17 : decode cX12_bits 17 = .ok (.goto (-13), 3) := by decide +kernel
theorem dX12_bits_8 : decode cX12_bits 8 = .ok (.iinc 1 1, 3) := by decide +kernel
set_option maxHeartbeats 4000000 in
set_option maxRecDepth 100000 in
theorem c_bits (l : Launch) (D : va_G) (cI cS : ClassId) (n : Nat) (hn : n < 4096) : Met l yX12_bits wsX12_bits ({ frames := 0, cells := 0, slots := 0, locals := 0 }) (PS D cI cS [] [.int (nI n)]) (vp_Si (fun r => r = bc (nI n))) 0 0 (fun _ => False) := by
  refine Met.ofW (cc := cX12_bits) (maxL := 3) (ret := (some .int)) (by decide) rfl ?_
  intro p e s m args below meth c s₁ B hml hv
  obtain ⟨rfl, hP, hKK⟩ := hv
  have hx := B.exec
  have hb := B.bytes
  have hr := B.returns
  have hts := atoms_spec (ws := wsX12_bits) B.pre
  have hown : s.vm.findClass RX12 = some m.cls := findClass_of_methodNamed B.named
  have hlocks := B.notSynchronized
  have hK := hKK.1
  have hN := hKK.2
  have hl := lv_entry ([.int (nI n)]) (n := 3) (Nat.le_of_ble_eq_true rfl)
  rw [lg_entry_eq]
  generalize (lg_sl ([.int (nI n)]) ++ List.replicate (3 - (lg_sl ([.int (nI n)])).length) Slot.unset).toArray = ls at hl ⊢
  have hl : lv_has ls 3 [(0, .int (nI n))] := hl
  have lp : ∀ (r left : Nat) (cn : Int32), left ≤ r → left < 4096 → cn + bc (nI left) = bc (nI n) → ∀ (ls : Array Slot), lv_has ls 3 [(2, .int (nI left)), (1, .int cn), (0, .int (nI n))] → W p l e (headSpec wsX12_bits ({ frames := 0, cells := 0, slots := 0, locals := 0 })).room s m ([.int (nI n)]).toArray below meth c s.heap [] 0 0 (MQ below (vp_Si (fun r => r = bc (nI n))) ([.int (nI n)]).toArray s 0 0 (fun _ => False)) (F0 m 4 ls []) := by
    intro r
    induction r with
    | zero =>
      intro left cn hr0 hl4 he ls hl
      obtain rfl : left = 0 := by omega
      refine lv_iload_n hx hb dX12_bits_4 rfl (lv_at hl 0 rfl) ?_
      refine lv_if_eq (tgt := 20) hx hb dX12_bits_5 (by decide) (fun c5083 => ?_) (fun c5083 => ?_)
      · refine lv_iload_n hx hb dX12_bits_20 rfl (lv_at hl 1 rfl) ?_
        exact W.iret (v := cn) hx hb hr (fun t ht hW => ⟨_, rfl, by rw [← he, bc_0]; simp, ht⟩) (fun q hq => absurd hq List.not_mem_nil) dX12_bits_21
      · exact absurd nI_0 c5083
    | succ r ih =>
      intro left cn hr0 hl4 he ls hl
      by_cases h0 : left = 0
      · subst h0
        refine lv_iload_n hx hb dX12_bits_4 rfl (lv_at hl 0 rfl) ?_
        refine lv_if_eq (tgt := 20) hx hb dX12_bits_5 (by decide) (fun c5084 => ?_) (fun c5084 => ?_)
        · refine lv_iload_n hx hb dX12_bits_20 rfl (lv_at hl 1 rfl) ?_
          exact W.iret (v := cn) hx hb hr (fun t ht hW => ⟨_, rfl, by rw [← he, bc_0]; simp, ht⟩) (fun q hq => absurd hq List.not_mem_nil) dX12_bits_21
        · exact absurd nI_0 c5084
      · refine lv_iload_n hx hb dX12_bits_4 rfl (lv_at hl 0 rfl) ?_
        refine lv_if_eq (tgt := 20) hx hb dX12_bits_5 (by decide) (fun c5085 => ?_) (fun c5085 => ?_)
        · exact absurd c5085 (nI_ne0 (by omega) (by omega))
        · refine lv_iinc (v := cn + 1) (lv' := [(1, .int (cn + 1)), (2, .int (nI left)), (0, .int (nI n))]) hx hb dX12_bits_8 hl (k := 1) rfl (by rfl) (by decide) rfl (fun ls hl => ?_)
          refine lv_iload_n hx hb dX12_bits_11 rfl (lv_at hl 1 rfl) ?_
          refine lv_iload_n hx hb dX12_bits_12 rfl (lv_at hl 1 rfl) ?_
          refine lv_iconst (v := 1) hx hb dX12_bits_13 (by decide) ?_
          refine lv_isub hx hb dX12_bits_14 ?_
          refine lz_top (y := (nI (left - 1))) ((show nI left - 1 = nI (left - 1) from by rw [show left = (left - 1) + 1 by omega]; exact nI_pred _)) ?_
          refine lv_iand hx hb dX12_bits_15 ?_
          refine lz_top (y := (nI (left &&& (left - 1)))) (fa_and _ _) ?_
          refine lv_istore_n (lv' := [(2, .int (nI (left &&& (left - 1)))), (1, .int (cn + 1)), (0, .int (nI n))]) hx hb dX12_bits_16 rfl hl (by decide) rfl (fun ls hl => ?_)
          refine lv_goto (tgt := 4) hx hb dX12_bits_17 (by decide) ?_
          exact ih (left &&& (left - 1)) (cn + 1) (by have := Nat.and_le_right (n := left) (m := left - 1); omega) (by have := Nat.and_le_left (n := left) (m := left - 1); omega) (by rw [← he, ← bc_step hl4 h0, Int32.add_assoc, Int32.add_comm 1]) ls hl
  refine lv_iconst (v := 0) hx hb dX12_bits_0 (by decide) ?_
  refine lv_istore_n (lv' := [(1, .int 0), (0, .int (nI n))]) hx hb dX12_bits_1 rfl hl (by decide) rfl (fun ls hl => ?_)
  refine lv_iload_n hx hb dX12_bits_2 rfl (lv_at hl 1 rfl) ?_
  refine lv_istore_n (lv' := [(2, .int (nI n)), (1, .int 0), (0, .int (nI n))]) hx hb dX12_bits_3 rfl hl (by decide) rfl (fun ls hl => ?_)
  exact lp n n 0 (Nat.le_refl _) hn (by simp) ls hl
set_option maxRecDepth 20000 in
theorem ggX12_lines_X12_bits : GoodIn wsX12_lines wsX12_bits := goodIn_r _ [6] (by decide +kernel) (by decide +kernel)
set_option maxRecDepth 20000 in
theorem gX12_lines_X12_bits : GoodIn wsX12_lines (va_wsS RX12 85 yX12_bits wsX12_bits) := goodIn_app (goodIn_of _ (by decide +kernel)) ggX12_lines_X12_bits
theorem dX12_lines_12 : decode cX12_lines 12 = .ok (.iload_n 1, 1) := by decide +kernel
theorem dX12_lines_13 : decode cX12_lines 13 = .ok (.aload_n 0, 1) := by decide +kernel
theorem dX12_lines_14 : decode cX12_lines 14 = .ok (.getfield 13, 3) := by decide +kernel
theorem dX12_lines_17 : decode cX12_lines 17 = .ok (.iload_n 2, 1) := by decide +kernel
theorem dX12_lines_18 : decode cX12_lines 18 = .ok (.iaload, 1) := by decide +kernel
theorem dX12_lines_19 : decode cX12_lines 19 = .ok (.invokestatic 85, 3) := by decide +kernel
theorem dX12_lines_22 : decode cX12_lines 22 = .ok (.iadd, 1) := by decide +kernel
theorem dX12_lines_23 : decode cX12_lines 23 = .ok (.istore_n 1, 1) := by decide +kernel
theorem dX12_lines_24 : decode cX12_lines 24 = .ok (.iinc 2 1, 3) := by decide +kernel
theorem dX12_lines_27 : decode cX12_lines 27 = .ok (.goto (-23), 3) := by decide +kernel
set_option maxHeartbeats 4000000 in
set_option maxRecDepth 100000 in
theorem c_lines (l : Launch) (D : va_G) (cI cS : ClassId) (h0 h1 h2 h3 h4 h5 h6 h7 h8 h9 h10 h11 h12 h13 h14 h15 : Nat) (g : Nat → Int32) (zv : Int32) (k : Nat) (hk : k ≤ 12) (hv4 : Lo k g) : Met l yX12_lines wsX12_lines ({ frames := 1, cells := 0, slots := 0, locals := 40 }) (PS D cI cS [(h0, .inr (12, [.int (nI k), .int zv, .ref h1, .ref h2, .ref h3, .ref h4, .ref h5, .ref h6, .ref h7, .ref h8, .int 0, .int 0, .int 0, .int 0, .int 0, .int 0, .ref h9, .ref h10, .ref h11, .ref h12, .ref h13, .ref h14, .ref h15, .int 0])), (h1, .inl (cI, 12, .inl g))] [.ref h0]) (vp_Si (fun r => r = sB g k / 2)) 0 0 (fun _ => False) := by
  refine Met.ofW (cc := cX12_lines) (maxL := 3) (ret := (some .int)) (by decide) rfl ?_
  intro p e s m args below meth c s₁ B hml hv
  obtain ⟨rfl, hP, hKK⟩ := hv
  have hx := B.exec
  have hb := B.bytes
  have hr := B.returns
  have hts := atoms_spec (ws := wsX12_lines) B.pre
  have hown : s.vm.findClass RX12 = some m.cls := findClass_of_methodNamed B.named
  have hlocks := B.notSynchronized
  have hK := hKK.1
  have hN := hKK.2
  have hin12 : ∀ w ∈ wsX120, w ∈ wsX12_lines := by decide +kernel
  have hl := lv_entry ([.ref h0]) (n := 3) (Nat.le_of_ble_eq_true rfl)
  rw [lg_entry_eq]
  generalize (lg_sl ([.ref h0]) ++ List.replicate (3 - (lg_sl ([.ref h0])).length) Slot.unset).toArray = ls at hl ⊢
  have hl : lv_has ls 3 [(0, .ref h0)] := hl
  have lp : ∀ (r i : Nat), i + r = k → ∀ (ls : Array Slot), lv_has ls 3 [(2, .int (nI i)), (1, .int (sB g i)), (0, .ref h0)] → W p l e (headSpec wsX12_lines ({ frames := 1, cells := 0, slots := 0, locals := 40 })).room s m ([.ref h0]).toArray below meth c s.heap [] 0 0 (MQ below (vp_Si (fun r => r = sB g k / 2)) ([.ref h0]).toArray s 0 0 (fun _ => False)) (F0 m 4 ls []) := by
    intro r
    induction r with
    | zero =>
      intro i hi ls hl
      obtain rfl : i = k := by omega
      refine lv_iload_n hx hb dX12_lines_4 rfl (lv_at hl 0 rfl) ?_
      refine lv_aload_n hx hb dX12_lines_5 rfl (lv_at hl 2 rfl) ?_
      refine va_get (D := D) (ci := 12) (v := .int (nI i)) (C := RX12) (T := TX12) (N := 24) hx hb hts hin12 hown hK hP 0 rfl rfl 0 (by decide) (hts (.fieldLink RX12 63 "MissedPointsModel" "many" "I") (by decide +kernel)) (fun _ h9 => h9) rfl dX12_lines_6 ?_
      refine lv_icmp_ge (tgt := 30) hx hb dX12_lines_9 (by decide) (fun c5086 => ?_) (fun c5086 => ?_)
      · refine lv_iload_n hx hb dX12_lines_30 rfl (lv_at hl 1 rfl) ?_
        refine lv_iconst (v := 2) hx hb dX12_lines_31 (by decide) ?_
        refine lv_idiv hx hb dX12_lines_32 (by decide) ?_
        exact W.iret (v := sB g i / 2) hx hb hr (fun t ht hW => ⟨_, rfl, rfl, ht⟩) (fun q hq => absurd hq List.not_mem_nil) dX12_lines_33
      · exact absurd (nI_le (Nat.le_refl _) (by omega)) c5086
    | succ r ih =>
      intro i hi ls hl
      obtain ⟨v, hv, ev⟩ := hv4 i (by omega)
      refine lv_iload_n hx hb dX12_lines_4 rfl (lv_at hl 0 rfl) ?_
      refine lv_aload_n hx hb dX12_lines_5 rfl (lv_at hl 2 rfl) ?_
      refine va_get (D := D) (ci := 12) (v := .int (nI k)) (C := RX12) (T := TX12) (N := 24) hx hb hts hin12 hown hK hP 0 rfl rfl 0 (by decide) (hts (.fieldLink RX12 63 "MissedPointsModel" "many" "I") (by decide +kernel)) (fun _ h9 => h9) rfl dX12_lines_6 ?_
      refine lv_icmp_ge (tgt := 30) hx hb dX12_lines_9 (by decide) (fun c5087 => ?_) (fun c5087 => ?_)
      · exact absurd c5087 (nI_ge (show i < k by omega) (by omega))
      · refine lv_iload_n hx hb dX12_lines_12 rfl (lv_at hl 1 rfl) ?_
        refine lv_aload_n hx hb dX12_lines_13 rfl (lv_at hl 2 rfl) ?_
        refine va_get (D := D) (ci := 12) (v := .ref h1) (C := RX12) (T := TX12) (N := 24) hx hb hts hin12 hown hK hP 0 rfl rfl 2 (by decide) (hts (.fieldLink RX12 13 "MissedPointsModel" "near" "[I") (by decide +kernel)) (fun _ h9 => h9) rfl dX12_lines_14 ?_
        refine lv_iload_n hx hb dX12_lines_17 rfl (lv_at hl 0 rfl) ?_
        refine lz_ald hx hb hK hP 1 0 rfl rfl i ⟨by omega, Nat.le_of_ble_eq_true rfl⟩ dX12_lines_18 ?_
        refine lz_top (y := (nI v)) (ev) ?_
        have hPc := hP.sub (ws' := []) [] rfl
        refine lz_ss (As := [.int (nI v)]) (rest := [.int (sB g i)]) ⟨hx, hb, hml, hown, hts⟩ (c_bits l D cI cS v hv) hKK hPc (va_cwS 1 hts gX12_lines_X12_bits rfl rfl rfl (by decide +kernel) ⟨Nat.le_of_ble_eq_true rfl, Nat.le_of_ble_eq_true rfl⟩) rfl hl.1 rfl (Nat.le_of_ble_eq_true rfl) dX12_lines_19 ⟨Nat.le_of_ble_eq_true rfl, Nat.le_of_ble_eq_true rfl⟩ (fun r9 hw => ?_)
        subst hw
        refine lz_top (y := (bc (g i))) (by rw [ev]) ?_
        refine lv_iadd hx hb dX12_lines_22 ?_
        refine lz_top (y := (sB g (i + 1))) (rfl) ?_
        refine lv_istore_n (lv' := [(1, .int (sB g (i + 1))), (2, .int (nI i)), (0, .ref h0)]) hx hb dX12_lines_23 rfl hl (by decide) rfl (fun ls hl => ?_)
        refine lv_iinc (v := (nI (i + 1))) (lv' := [(2, .int (nI (i + 1))), (1, .int (sB g (i + 1))), (0, .ref h0)]) hx hb dX12_lines_24 hl (k := 1) rfl (nI_1 _) (by decide) rfl (fun ls hl => ?_)
        refine lv_goto (tgt := 4) hx hb dX12_lines_27 (by decide) ?_
        exact ih (i + 1) (by omega) ls (lv_sub hl [0, 1, 2] rfl)
  refine lv_iconst (v := 0) hx hb dX12_lines_0 (by decide) ?_
  refine lv_istore_n (lv' := [(1, .int 0), (0, .ref h0)]) hx hb dX12_lines_1 rfl hl (by decide) rfl (fun ls hl => ?_)
  refine lv_iconst (v := 0) hx hb dX12_lines_2 (by decide) ?_
  refine lv_istore_n (lv' := [(2, .int 0), (1, .int 0), (0, .ref h0)]) hx hb dX12_lines_3 rfl hl (by decide) rfl (fun ls hl => ?_)
  exact lp k 0 (by omega) ls (by rw [nI_0]; exact hl)
set_option maxRecDepth 20000 in
theorem ggX2_lineCount_J6_bitCount_0f7a4 : GoodIn wsX2_lineCount wsJ6_bitCount_0f7a4 := goodIn_r _ [6, 7, 8, 9] (by decide +kernel) (by decide +kernel)
set_option maxRecDepth 20000 in
theorem gX2_lineCount_J6_bitCount_0f7a4 : GoodIn wsX2_lineCount (va_wsS RX2 65 yJ6_bitCount_0f7a4 wsJ6_bitCount_0f7a4) := goodIn_app (goodIn_of _ (by decide +kernel)) ggX2_lineCount_J6_bitCount_0f7a4
theorem dX2_lineCount_12 : decode cX2_lineCount 12 = .ok (.iload_n 1, 1) := by decide +kernel
theorem dX2_lineCount_13 : decode cX2_lineCount 13 = .ok (.aload_n 0, 1) := by decide +kernel
theorem dX2_lineCount_14 : decode cX2_lineCount 14 = .ok (.getfield 9, 3) := by decide +kernel
theorem dX2_lineCount_17 : decode cX2_lineCount 17 = .ok (.iload_n 2, 1) := by decide +kernel
theorem dX2_lineCount_18 : decode cX2_lineCount 18 = .ok (.iaload, 1) := by decide +kernel
theorem dX2_lineCount_19 : decode cX2_lineCount 19 = .ok (.invokestatic 65, 3) := by decide +kernel
theorem dX2_lineCount_22 : decode cX2_lineCount 22 = .ok (.iadd, 1) := by decide +kernel
theorem dX2_lineCount_23 : decode cX2_lineCount 23 = .ok (.istore_n 1, 1) := by decide +kernel
theorem dX2_lineCount_24 : decode cX2_lineCount 24 = .ok (.iinc 2 1, 3) := by decide +kernel
theorem dX2_lineCount_27 : decode cX2_lineCount 27 = .ok (.goto (-23), 3) := by decide +kernel
set_option maxHeartbeats 4000000 in
set_option maxRecDepth 100000 in
theorem c_lineCount (l : Launch) (D : va_G) (cI cS : ClassId) (h0 h1 : Nat) (g : Nat → Int32) (ch : Int32) (k : Nat) (hk : k ≤ 12) : Met l yX2_lineCount wsX2_lineCount ({ frames := 1, cells := 0, slots := 0, locals := 40 }) (PS D cI cS [(h0, .inr (2, [.ref h1, .int (nI k), .int ch])), (h1, .inl (cI, 12, .inl g))] [.ref h0]) (vp_Si (fun r => r = sB g k / 2)) 0 0 (fun _ => False) := by
  refine Met.ofW (cc := cX2_lineCount) (maxL := 3) (ret := (some .int)) (by decide) rfl ?_
  intro p e s m args below meth c s₁ B hml hv
  obtain ⟨rfl, hP, hKK⟩ := hv
  have hx := B.exec
  have hb := B.bytes
  have hr := B.returns
  have hts := atoms_spec (ws := wsX2_lineCount) B.pre
  have hown : s.vm.findClass RX2 = some m.cls := findClass_of_methodNamed B.named
  have hlocks := B.notSynchronized
  have hK := hKK.1
  have hN := hKK.2
  have hin2 : ∀ w ∈ wsX20, w ∈ wsX2_lineCount := by decide +kernel
  have hl := lv_entry ([.ref h0]) (n := 3) (Nat.le_of_ble_eq_true rfl)
  rw [lg_entry_eq]
  generalize (lg_sl ([.ref h0]) ++ List.replicate (3 - (lg_sl ([.ref h0])).length) Slot.unset).toArray = ls at hl ⊢
  have hl : lv_has ls 3 [(0, .ref h0)] := hl
  have lp : ∀ (r i : Nat), i + r = k → ∀ (ls : Array Slot), lv_has ls 3 [(2, .int (nI i)), (1, .int (sB g i)), (0, .ref h0)] → W p l e (headSpec wsX2_lineCount ({ frames := 1, cells := 0, slots := 0, locals := 40 })).room s m ([.ref h0]).toArray below meth c s.heap [] 0 0 (MQ below (vp_Si (fun r => r = sB g k / 2)) ([.ref h0]).toArray s 0 0 (fun _ => False)) (F0 m 4 ls []) := by
    intro r
    induction r with
    | zero =>
      intro i hi ls hl
      obtain rfl : i = k := by omega
      refine lv_iload_n hx hb dX2_lineCount_4 rfl (lv_at hl 0 rfl) ?_
      refine lv_aload_n hx hb dX2_lineCount_5 rfl (lv_at hl 2 rfl) ?_
      refine va_get (D := D) (ci := 2) (v := .int (nI i)) (C := RX2) (T := TX2) (N := 3) hx hb hts hin2 hown hK hP 0 rfl rfl 1 (by decide) (hts (.fieldLink RX2 15 "MissedPoints$Net" "size" "I") (by decide +kernel)) (fun _ h9 => h9) rfl dX2_lineCount_6 ?_
      refine lv_icmp_ge (tgt := 30) hx hb dX2_lineCount_9 (by decide) (fun c5088 => ?_) (fun c5088 => ?_)
      · refine lv_iload_n hx hb dX2_lineCount_30 rfl (lv_at hl 1 rfl) ?_
        refine lv_iconst (v := 2) hx hb dX2_lineCount_31 (by decide) ?_
        refine lv_idiv hx hb dX2_lineCount_32 (by decide) ?_
        exact W.iret (v := sB g i / 2) hx hb hr (fun t ht hW => ⟨_, rfl, rfl, ht⟩) (fun q hq => absurd hq List.not_mem_nil) dX2_lineCount_33
      · exact absurd (nI_le (Nat.le_refl _) (by omega)) c5088
    | succ r ih =>
      intro i hi ls hl
      refine lv_iload_n hx hb dX2_lineCount_4 rfl (lv_at hl 0 rfl) ?_
      refine lv_aload_n hx hb dX2_lineCount_5 rfl (lv_at hl 2 rfl) ?_
      refine va_get (D := D) (ci := 2) (v := .int (nI k)) (C := RX2) (T := TX2) (N := 3) hx hb hts hin2 hown hK hP 0 rfl rfl 1 (by decide) (hts (.fieldLink RX2 15 "MissedPoints$Net" "size" "I") (by decide +kernel)) (fun _ h9 => h9) rfl dX2_lineCount_6 ?_
      refine lv_icmp_ge (tgt := 30) hx hb dX2_lineCount_9 (by decide) (fun c5089 => ?_) (fun c5089 => ?_)
      · exact absurd c5089 (nI_ge (show i < k by omega) (by omega))
      · refine lv_iload_n hx hb dX2_lineCount_12 rfl (lv_at hl 1 rfl) ?_
        refine lv_aload_n hx hb dX2_lineCount_13 rfl (lv_at hl 2 rfl) ?_
        refine va_get (D := D) (ci := 2) (v := .ref h1) (C := RX2) (T := TX2) (N := 3) hx hb hts hin2 hown hK hP 0 rfl rfl 0 (by decide) (hts (.fieldLink RX2 9 "MissedPoints$Net" "links" "[I") (by decide +kernel)) (fun _ h9 => h9) rfl dX2_lineCount_14 ?_
        refine lv_iload_n hx hb dX2_lineCount_17 rfl (lv_at hl 0 rfl) ?_
        refine lz_ald hx hb hK hP 1 0 rfl rfl i ⟨by omega, Nat.le_of_ble_eq_true rfl⟩ dX2_lineCount_18 ?_
        have hPc := hP.sub (ws' := []) [] rfl
        refine lz_ss (As := [.int (g i)]) (rest := [.int (sB g i)]) ⟨hx, hb, hml, hown, hts⟩ (c_J6_bitCount_0f7a4_1 l D cI cS (g i)) hKK hPc (va_cwS 1 hts gX2_lineCount_J6_bitCount_0f7a4 rfl rfl rfl (by decide +kernel) ⟨Nat.le_of_ble_eq_true rfl, Nat.le_of_ble_eq_true rfl⟩) rfl hl.1 rfl (Nat.le_of_ble_eq_true rfl) dX2_lineCount_19 ⟨Nat.le_of_ble_eq_true rfl, Nat.le_of_ble_eq_true rfl⟩ (fun r5090 hw => ?_)
        subst hw
        refine lz_top (y := (bc (g i))) (rfl) ?_
        refine lv_iadd hx hb dX2_lineCount_22 ?_
        refine lz_top (y := (sB g (i + 1))) (rfl) ?_
        refine lv_istore_n (lv' := [(1, .int (sB g (i + 1))), (2, .int (nI i)), (0, .ref h0)]) hx hb dX2_lineCount_23 rfl hl (by decide) rfl (fun ls hl => ?_)
        refine lv_iinc (v := (nI (i + 1))) (lv' := [(2, .int (nI (i + 1))), (1, .int (sB g (i + 1))), (0, .ref h0)]) hx hb dX2_lineCount_24 hl (k := 1) rfl (nI_1 _) (by decide) rfl (fun ls hl => ?_)
        refine lv_goto (tgt := 4) hx hb dX2_lineCount_27 (by decide) ?_
        exact ih (i + 1) (by omega) ls (lv_sub hl [0, 1, 2] rfl)
  refine lv_iconst (v := 0) hx hb dX2_lineCount_0 (by decide) ?_
  refine lv_istore_n (lv' := [(1, .int 0), (0, .ref h0)]) hx hb dX2_lineCount_1 rfl hl (by decide) rfl (fun ls hl => ?_)
  refine lv_iconst (v := 0) hx hb dX2_lineCount_2 (by decide) ?_
  refine lv_istore_n (lv' := [(2, .int 0), (1, .int 0), (0, .ref h0)]) hx hb dX2_lineCount_3 rfl hl (by decide) rfl (fun ls hl => ?_)
  exact lp k 0 (by omega) ls (by rw [nI_0]; exact hl)
set_option maxRecDepth 20000 in
theorem ggX12_deal_X12_in : GoodIn wsX12_deal wsX12_in := goodIn_r _ [4] (by decide +kernel) (by decide +kernel)
set_option maxRecDepth 20000 in
theorem gX12_deal_X12_in : GoodIn wsX12_deal (va_wsS RX12 66 yX12_in wsX12_in) := goodIn_app (goodIn_of _ (by decide +kernel)) ggX12_deal_X12_in
theorem dX12_deal_0 : decode cX12_deal 0 = .ok (.iload_n 1, 1) := by decide +kernel
theorem dX12_deal_1 : decode cX12_deal 1 = .ok (.iconst 0, 1) := by decide +kernel
theorem dX12_deal_10 : decode cX12_deal 10 = .ok (.iload_n 2, 1) := by decide +kernel
theorem dX12_deal_11 : decode cX12_deal 11 = .ok (.iconst 0, 1) := by decide +kernel
theorem dX12_deal_12 : decode cX12_deal 12 = .ok (.bipush 10, 2) := by decide +kernel
theorem dX12_deal_14 : decode cX12_deal 14 = .ok (.invokestatic 66, 3) := by decide +kernel
theorem dX12_deal_17 : decode cX12_deal 17 = .ok (.ifCond .ne 6, 3) := by decide +kernel
theorem dX12_deal_2 : decode cX12_deal 2 = .ok (.bipush 12, 2) := by decide +kernel
theorem dX12_deal_20 : decode cX12_deal 20 = .ok (.bipush (-2), 2) := by decide +kernel
theorem dX12_deal_22 : decode cX12_deal 22 = .ok (.ireturn, 1) := by decide +kernel
theorem dX12_deal_4 : decode cX12_deal 4 = .ok (.invokestatic 66, 3) := by decide +kernel
theorem dX12_deal_7 : decode cX12_deal 7 = .ok (.ifCond .eq 13, 3) := by decide +kernel
set_option maxRecDepth 20000 in
theorem ggX12_deal_X12_deals : GoodIn wsX12_deal wsX12_deals := goodIn_r _ (8 :: 9 :: 10 :: 11 :: 12 :: 13 :: 3 :: 14 :: 15 :: 16 :: 17 :: 18 :: 19 :: 20 :: 28 :: 29 :: 30 :: 31 :: 32 :: 33 :: 34 :: 35 :: 36 :: 37 :: 38 :: 39 :: 40 :: 41 :: 42 :: 43 :: 44 :: 45 :: 46 :: 47 :: 48 :: 49 :: 50 :: 51 :: []) (by decide +kernel) (by decide +kernel)
set_option maxRecDepth 20000 in
theorem gX12_deal_X12_deals : GoodIn wsX12_deal (wsV RX12 219 RX12 yX12_deals wsX12_deals) := goodIn_app (goodIn_of _ (by decide +kernel)) ggX12_deal_X12_deals
set_option maxRecDepth 20000 in
theorem ggX12_deal_X12_lines : GoodIn wsX12_deal wsX12_lines := goodIn_r _ (24 :: 9 :: 10 :: 25 :: 26 :: 3 :: 27 :: 28 :: 29 :: 30 :: 31 :: 32 :: 33 :: 34 :: 35 :: 36 :: 37 :: 38 :: 39 :: 40 :: 41 :: 42 :: 43 :: 44 :: 45 :: 46 :: 47 :: 48 :: 49 :: 50 :: 51 :: []) (by decide +kernel) (by decide +kernel)
set_option maxRecDepth 20000 in
theorem gX12_deal_X12_lines : GoodIn wsX12_deal (wsV RX12 89 RX12 yX12_lines wsX12_lines) := goodIn_app (goodIn_of _ (by decide +kernel)) ggX12_deal_X12_lines
theorem dX12_deal_23 : decode cX12_deal 23 = .ok (.aload_n 0, 1) := by decide +kernel
theorem dX12_deal_24 : decode cX12_deal 24 = .ok (.iload_n 1, 1) := by decide +kernel
theorem dX12_deal_25 : decode cX12_deal 25 = .ok (.iload_n 2, 1) := by decide +kernel
theorem dX12_deal_26 : decode cX12_deal 26 = .ok (.invokevirtual 219, 3) := by decide +kernel
theorem dX12_deal_29 : decode cX12_deal 29 = .ok (.aload_n 0, 1) := by decide +kernel
theorem dX12_deal_30 : decode cX12_deal 30 = .ok (.invokevirtual 89, 3) := by decide +kernel
theorem dX12_deal_33 : decode cX12_deal 33 = .ok (.ireturn, 1) := by decide +kernel
set_option maxHeartbeats 4000000 in
set_option maxRecDepth 100000 in
theorem c_X12_deal (l : Launch) (D : va_G) (cI cS : ClassId) (sz : Nat) (h0 h1 h2 h3 h4 h5 h6 h7 h8 h9 h10 h11 h12 h13 h14 h15 : Nat) (x0 x1 : Int32) : Met l yX12_deal wsX12_deal ({ frames := 2, cells := 0, slots := 0, locals := 80 }) (PQ D cI cS [(h0, .inr (12, [.int 0, .int 1, .ref h1, .ref h2, .ref h3, .ref h4, .ref h5, .ref h6, .ref h7, .ref h8, .int 0, .int 0, .int 0, .int 0, .int 0, .int 0, .ref h9, .ref h10, .ref h11, .ref h12, .ref h13, .ref h14, .ref h15, .int 0])), (h1, .inl (cI, 12, .inl (fun _ => 0)))] sz [.ref h0, .int x0, .int x1]) (QI D [(h0, .inr (12, [.int 0, .int 1, .ref h1, .ref h2, .ref h3, .ref h4, .ref h5, .ref h6, .ref h7, .ref h8, .int 0, .int 0, .int 0, .int 0, .int 0, .int 0, .ref h9, .ref h10, .ref h11, .ref h12, .ref h13, .ref h14, .ref h15, .int 0])), (h1, .inl (cI, 12, .inl (fun _ => 0)))] [] sz (fun r => r = dealR x0 x1)) 0 0 (va_A [(h0, .inr (12, [.int 0, .int 1, .ref h1, .ref h2, .ref h3, .ref h4, .ref h5, .ref h6, .ref h7, .ref h8, .int 0, .int 0, .int 0, .int 0, .int 0, .int 0, .ref h9, .ref h10, .ref h11, .ref h12, .ref h13, .ref h14, .ref h15, .int 0])), (h1, .inl (cI, 12, .inl (fun _ => 0)))] sz) := by
  refine Met.ofW (cc := cX12_deal) (maxL := 3) (ret := (some .int)) (by decide) rfl ?_
  intro p e s m args below meth c s₁ B hml hv
  obtain ⟨rfl, hsz, hP, hKK, hD0⟩ := hv
  have hx := B.exec
  have hb := B.bytes
  have hr := B.returns
  have hts := atoms_spec (ws := wsX12_deal) B.pre
  have hown : s.vm.findClass RX12 = some m.cls := findClass_of_methodNamed B.named
  have hlocks := B.notSynchronized
  have hK := hKK.1
  have hN := hKK.2
  have hin12 : ∀ w ∈ wsX120, w ∈ wsX12_deal := by decide +kernel
  subst hsz
  have hD := hD0.self (sz := s.heap.size)
  obtain ⟨A, hAe⟩ : ∃ A, A = va_A [(h0, .inr (12, [.int 0, .int 1, .ref h1, .ref h2, .ref h3, .ref h4, .ref h5, .ref h6, .ref h7, .ref h8, .int 0, .int 0, .int 0, .int 0, .int 0, .int 0, .ref h9, .ref h10, .ref h11, .ref h12, .ref h13, .ref h14, .ref h15, .int 0])), (h1, .inl (cI, 12, .inl (fun _ => 0)))] s.heap.size := ⟨_, rfl⟩
  rw [← hAe] at hD
  have hA : ∀ q : Nat, s.heap.size ≤ q → A q := fun q h => by rw [hAe]; exact Or.inr h
  have hS : va_S A s.heap s.heap [] := va_S.rf
  have hl := lv_entry ([.ref h0, .int x0, .int x1]) (n := 3) (Nat.le_of_ble_eq_true rfl)
  rw [lg_entry_eq]
  generalize (lg_sl ([.ref h0, .int x0, .int x1]) ++ List.replicate (3 - (lg_sl ([.ref h0, .int x0, .int x1])).length) Slot.unset).toArray = ls at hl ⊢
  have hl : lv_has ls 3 [(0, .ref h0), (1, .int x0), (2, .int x1)] := hl
  refine lv_iload_n hx hb dX12_deal_0 rfl (lv_at hl 1 rfl) ?_
  refine lv_iconst (v := 0) hx hb dX12_deal_1 (by decide) ?_
  refine lv_bipush (v := 12) hx hb dX12_deal_2 (by decide) ?_
  have hPc := hP.sub (ws' := []) [] rfl
  refine lz_ss (As := [.int x0, .int 0, .int 12]) (rest := []) ⟨hx, hb, hml, hown, hts⟩ (c_X12_in_14 l D cI cS x0) hKK hPc (va_cwS 3 hts gX12_deal_X12_in rfl rfl rfl (by decide +kernel) ⟨Nat.le_of_ble_eq_true rfl, Nat.le_of_ble_eq_true rfl⟩) rfl hl.1 rfl (Nat.le_of_ble_eq_true rfl) dX12_deal_4 ⟨Nat.le_of_ble_eq_true rfl, Nat.le_of_ble_eq_true rfl⟩ (fun r5095 hw => ?_)
  by_cases k5096 : x0 < 0
  · rw [if_pos k5096] at hw
    subst hw
    refine lv_if_eq (tgt := 20) hx hb dX12_deal_7 (by decide) (fun c5097 => ?_) (fun c5097 => ?_)
    · refine lv_bipush (v := (-2)) hx hb dX12_deal_20 (by decide) ?_
      have hP9 := hP.sub (ws' := []) [] rfl
      have hD9 := hD.sub (ws' := []) [] (by decide) rfl
      subst hAe
      exact W.iret (v := (-2)) hx hb hr (fun t ht hW => ⟨⟨_, (), rfl, by unfold dealR; rw [if_pos k5096], by rw [ht]; exact hP9, hD9⟩, hS.F ht⟩) hS.2.2 dX12_deal_22
    · exact absurd c5097 (by decide)
  · rw [if_neg k5096] at hw
    by_cases k5098 : (12 : Int32) < x0
    · rw [if_pos k5098] at hw
      subst hw
      refine lv_if_eq (tgt := 20) hx hb dX12_deal_7 (by decide) (fun c5099 => ?_) (fun c5099 => ?_)
      · refine lv_bipush (v := (-2)) hx hb dX12_deal_20 (by decide) ?_
        have hP9 := hP.sub (ws' := []) [] rfl
        have hD9 := hD.sub (ws' := []) [] (by decide) rfl
        subst hAe
        exact W.iret (v := (-2)) hx hb hr (fun t ht hW => ⟨⟨_, (), rfl, by unfold dealR; rw [if_neg k5096, if_pos k5098], by rw [ht]; exact hP9, hD9⟩, hS.F ht⟩) hS.2.2 dX12_deal_22
      · exact absurd c5099 (by decide)
    · rw [if_neg k5098] at hw
      subst hw
      refine lv_if_eq (tgt := 20) hx hb dX12_deal_7 (by decide) (fun c5100 => ?_) (fun c5100 => ?_)
      · exact absurd c5100 (by decide)
      · refine lv_iload_n hx hb dX12_deal_10 rfl (lv_at hl 2 rfl) ?_
        refine lv_iconst (v := 0) hx hb dX12_deal_11 (by decide) ?_
        refine lv_bipush (v := 10) hx hb dX12_deal_12 (by decide) ?_
        have hPc := hP.sub (ws' := []) [] rfl
        refine lz_ss (As := [.int x1, .int 0, .int 10]) (rest := []) ⟨hx, hb, hml, hown, hts⟩ (c_X12_in_15 l D cI cS x1) hKK hPc (va_cwS 3 hts gX12_deal_X12_in rfl rfl rfl (by decide +kernel) ⟨Nat.le_of_ble_eq_true rfl, Nat.le_of_ble_eq_true rfl⟩) rfl hl.1 rfl (Nat.le_of_ble_eq_true rfl) dX12_deal_14 ⟨Nat.le_of_ble_eq_true rfl, Nat.le_of_ble_eq_true rfl⟩ (fun r5105 hw => ?_)
        by_cases k5106 : x1 < 0
        · rw [if_pos k5106] at hw
          subst hw
          refine lv_if_ne (tgt := 23) hx hb dX12_deal_17 (by decide) (fun c5107 => ?_) (fun c5107 => ?_)
          · exact absurd c5107 (by decide)
          · refine lv_bipush (v := (-2)) hx hb dX12_deal_20 (by decide) ?_
            have hP9 := hP.sub (ws' := []) [] rfl
            have hD9 := hD.sub (ws' := []) [] (by decide) rfl
            subst hAe
            exact W.iret (v := (-2)) hx hb hr (fun t ht hW => ⟨⟨_, (), rfl, by unfold dealR; rw [if_neg k5096, if_neg k5098, if_pos k5106], by rw [ht]; exact hP9, hD9⟩, hS.F ht⟩) hS.2.2 dX12_deal_22
        · rw [if_neg k5106] at hw
          by_cases k5108 : (10 : Int32) < x1
          · rw [if_pos k5108] at hw
            subst hw
            refine lv_if_ne (tgt := 23) hx hb dX12_deal_17 (by decide) (fun c5109 => ?_) (fun c5109 => ?_)
            · exact absurd c5109 (by decide)
            · refine lv_bipush (v := (-2)) hx hb dX12_deal_20 (by decide) ?_
              have hP9 := hP.sub (ws' := []) [] rfl
              have hD9 := hD.sub (ws' := []) [] (by decide) rfl
              subst hAe
              exact W.iret (v := (-2)) hx hb hr (fun t ht hW => ⟨⟨_, (), rfl, by unfold dealR; rw [if_neg k5096, if_neg k5098, if_neg k5106, if_pos k5108], by rw [ht]; exact hP9, hD9⟩, hS.F ht⟩) hS.2.2 dX12_deal_22
          · rw [if_neg k5108] at hw
            subst hw
            refine lv_if_ne (tgt := 23) hx hb dX12_deal_17 (by decide) (fun c5110 => ?_) (fun c5110 => ?_)
            · have hR : dealR x0 x1 = sB (dO x1 x0.toNatClampNeg 1 x0.toNatClampNeg).1 x0.toNatClampNeg / 2 := by unfold dealR; rw [if_neg k5096, if_neg k5098, if_neg k5106, if_neg k5108]
              obtain ⟨k, hk, rfl⟩ := nI_of2 (M := 12) (n := 12) (by decide) k5096 (Int32.not_lt.mp k5098)
              rw [nI_clamp (by omega)] at hR
              refine lv_aload_n hx hb dX12_deal_23 rfl (lv_at hl 0 rfl) ?_
              refine lv_iload_n hx hb dX12_deal_24 rfl (lv_at hl 1 rfl) ?_
              refine lv_iload_n hx hb dX12_deal_25 rfl (lv_at hl 2 rfl) ?_
              have hPc := hP.sub (ws' := [(h0, .inr (12, [.int 0, .int 1, .ref h1, .ref h2, .ref h3, .ref h4, .ref h5, .ref h6, .ref h7, .ref h8, .int 0, .int 0, .int 0, .int 0, .int 0, .int 0, .ref h9, .ref h10, .ref h11, .ref h12, .ref h13, .ref h14, .ref h15, .int 0])), (h1, .inl (cI, 12, .inl (fun _ => 0)))]) [0, 1] rfl
              have hDc := hD.sub (ws' := [(h0, .inr (12, [.int 0, .int 1, .ref h1, .ref h2, .ref h3, .ref h4, .ref h5, .ref h6, .ref h7, .ref h8, .int 0, .int 0, .int 0, .int 0, .int 0, .int 0, .ref h9, .ref h10, .ref h11, .ref h12, .ref h13, .ref h14, .ref h15, .int 0])), (h1, .inl (cI, 12, .inl (fun _ => 0)))]) [0, 1] (by decide) rfl
              refine lz_qe (wr := []) (w1 := fun g => [(h0, .inr (12, [.int (nI k), .int ((dO x1 k 1 k).2), .ref h1, .ref h2, .ref h3, .ref h4, .ref h5, .ref h6, .ref h7, .ref h8, .int 0, .int 0, .int 0, .int 0, .int 0, .int 0, .ref h9, .ref h10, .ref h11, .ref h12, .ref h13, .ref h14, .ref h15, .int 0])), (h1, .inl (cI, 12, .inl g))]) (As := [.int (nI k), .int x1]) (rest := []) ⟨hx, hb, hml, hown, hts⟩ (c_deals l D cI cS _ h0 h1 h2 h3 h4 h5 h6 h7 h8 h9 h10 h11 h12 h13 h14 h15 (fun _ => 0) 0 1 x1 k hk) hKK hP hD hS hA [0, 1] [] (by decide) rfl rfl (by decide) (by decide) hPc hDc (ci := 12) rfl rfl (cwV 2 hts gX12_deal_X12_deals rfl rfl rfl (by decide +kernel) ⟨Nat.le_of_ble_eq_true rfl, Nat.le_of_ble_eq_true rfl⟩) rfl hl.1 rfl (Nat.le_of_ble_eq_true rfl) dX12_deal_26 ⟨Nat.le_of_ble_eq_true rfl, Nat.le_of_ble_eq_true rfl⟩ (fun u H locs hu hP hD hS => ?_)
              have hP : va_P D cls [(h0, .inr (12, [.int (nI k), .int ((dO x1 k 1 k).2), .ref h1, .ref h2, .ref h3, .ref h4, .ref h5, .ref h6, .ref h7, .ref h8, .int 0, .int 0, .int 0, .int 0, .int 0, .int 0, .ref h9, .ref h10, .ref h11, .ref h12, .ref h13, .ref h14, .ref h15, .int 0])), (h1, .inl (cI, 12, .inl u))] H := hP
              have hD : va_D A [(h0, .inr (12, [.int (nI k), .int ((dO x1 k 1 k).2), .ref h1, .ref h2, .ref h3, .ref h4, .ref h5, .ref h6, .ref h7, .ref h8, .int 0, .int 0, .int 0, .int 0, .int 0, .int 0, .ref h9, .ref h10, .ref h11, .ref h12, .ref h13, .ref h14, .ref h15, .int 0])), (h1, .inl (cI, 12, .inl u))] := hD
              refine lv_aload_n hx hb dX12_deal_29 rfl (lv_at hl 0 rfl) ?_
              have hPc := hP.sub (ws' := [(h0, .inr (12, [.int (nI k), .int ((dO x1 k 1 k).2), .ref h1, .ref h2, .ref h3, .ref h4, .ref h5, .ref h6, .ref h7, .ref h8, .int 0, .int 0, .int 0, .int 0, .int 0, .int 0, .ref h9, .ref h10, .ref h11, .ref h12, .ref h13, .ref h14, .ref h15, .int 0])), (h1, .inl (cI, 12, .inl u))]) [0, 1] rfl
              refine lz_sv (As := []) (rest := []) ⟨hx, hb, hml, hown, hts⟩ (c_lines l D cI cS h0 h1 h2 h3 h4 h5 h6 h7 h8 h9 h10 h11 h12 h13 h14 h15 u (dO x1 k 1 k).2 k hk ((dO_lo hk k (Nat.le_refl _)).like hu)) hKK hPc (ci := 12) rfl rfl (cwV 0 hts gX12_deal_X12_lines rfl rfl rfl (by decide +kernel) ⟨Nat.le_of_ble_eq_true rfl, Nat.le_of_ble_eq_true rfl⟩) rfl hl.1 rfl (Nat.le_of_ble_eq_true rfl) dX12_deal_30 ⟨Nat.le_of_ble_eq_true rfl, Nat.le_of_ble_eq_true rfl⟩ (fun r9 hw => ?_)
              subst hw
              have hP9 := hP.sub (ws' := []) [] rfl
              have hD9 := hD.sub (ws' := []) [] (by decide) rfl
              subst hAe
              exact W.iret (v := sB u k / 2) hx hb hr (fun t ht hW => ⟨⟨_, (), rfl, by rw [hR, sB_cong hu], by rw [ht]; exact hP9, hD9⟩, hS.F ht⟩) hS.2.2 dX12_deal_33
            · exact absurd c5110 (by decide)
set_option maxRecDepth 20000 in
theorem ggX11_deal_X11_canDeal : GoodIn wsX11_deal wsX11_canDeal := goodIn_r _ [6] (by decide +kernel) (by decide +kernel)
set_option maxRecDepth 20000 in
theorem gX11_deal_X11_canDeal : GoodIn wsX11_deal (va_wsS RX11 279 yX11_canDeal wsX11_canDeal) := goodIn_app (goodIn_of _ (by decide +kernel)) ggX11_deal_X11_canDeal
theorem dX11_deal_0 : decode cX11_deal 0 = .ok (.iload_n 1, 1) := by decide +kernel
theorem dX11_deal_1 : decode cX11_deal 1 = .ok (.iload_n 2, 1) := by decide +kernel
theorem dX11_deal_10 : decode cX11_deal 10 = .ok (.ireturn, 1) := by decide +kernel
theorem dX11_deal_2 : decode cX11_deal 2 = .ok (.invokestatic 279, 3) := by decide +kernel
theorem dX11_deal_5 : decode cX11_deal 5 = .ok (.ifCond .ne 6, 3) := by decide +kernel
theorem dX11_deal_8 : decode cX11_deal 8 = .ok (.bipush (-2), 2) := by decide +kernel
set_option maxRecDepth 20000 in
theorem ggX11_deal_X2_dealAnew : GoodIn wsX11_deal wsX2_dealAnew := goodIn_r _ (11 :: 12 :: 13 :: 14 :: 15 :: 10 :: 16 :: 17 :: 18 :: 19 :: 20 :: 21 :: 22 :: 23 :: 24 :: 25 :: 26 :: 27 :: 28 :: 29 :: 30 :: 31 :: 32 :: 33 :: 34 :: 35 :: 36 :: 37 :: 38 :: 39 :: 40 :: 41 :: 42 :: 43 :: 44 :: 45 :: 73 :: 74 :: 75 :: 76 :: []) (by decide +kernel) (by decide +kernel)
set_option maxRecDepth 20000 in
theorem gX11_deal_X2_dealAnew : GoodIn wsX11_deal (wsV RX11 282 RX2 yX2_dealAnew wsX2_dealAnew) := goodIn_app (goodIn_of _ (by decide +kernel)) ggX11_deal_X2_dealAnew
set_option maxRecDepth 20000 in
theorem ggX11_deal_X2_lineCount : GoodIn wsX11_deal wsX2_lineCount := goodIn_r _ [49, 12, 17, 50, 51, 52, 53, 54, 55, 56, 73, 74, 75] (by decide +kernel) (by decide +kernel)
set_option maxRecDepth 20000 in
theorem gX11_deal_X2_lineCount : GoodIn wsX11_deal (wsV RX11 124 RX2 yX2_lineCount wsX2_lineCount) := goodIn_app (goodIn_of _ (by decide +kernel)) ggX11_deal_X2_lineCount
theorem dX11_deal_11 : decode cX11_deal 11 = .ok (.aload_n 0, 1) := by decide +kernel
theorem dX11_deal_12 : decode cX11_deal 12 = .ok (.getfield 12, 3) := by decide +kernel
theorem dX11_deal_15 : decode cX11_deal 15 = .ok (.iload_n 1, 1) := by decide +kernel
theorem dX11_deal_16 : decode cX11_deal 16 = .ok (.iload_n 2, 1) := by decide +kernel
theorem dX11_deal_17 : decode cX11_deal 17 = .ok (.aload_n 0, 1) := by decide +kernel
theorem dX11_deal_18 : decode cX11_deal 18 = .ok (.getfield 53, 3) := by decide +kernel
theorem dX11_deal_21 : decode cX11_deal 21 = .ok (.invokevirtual 282, 3) := by decide +kernel
theorem dX11_deal_24 : decode cX11_deal 24 = .ok (.aload_n 0, 1) := by decide +kernel
theorem dX11_deal_25 : decode cX11_deal 25 = .ok (.getfield 12, 3) := by decide +kernel
theorem dX11_deal_28 : decode cX11_deal 28 = .ok (.invokevirtual 124, 3) := by decide +kernel
theorem dX11_deal_31 : decode cX11_deal 31 = .ok (.ireturn, 1) := by decide +kernel
set_option maxHeartbeats 4000000 in
set_option maxRecDepth 100000 in
theorem c_X11_deal (l : Launch) (D : va_G) (cI cS : ClassId) (sz : Nat) (h0 h1 h2 h3 h4 h5 h6 h7 h8 h9 h10 h11 h12 h13 h14 n1 : Nat) (x0 x1 : Int32) : Met l yX11_deal wsX11_deal ({ frames := 5, cells := 0, slots := 0, locals := 200 }) (PQ D cI cS [(h0, .inr (11, [.ref h1, .ref h2, .ref h3, .ref h4, .ref h5, .ref h6, .ref h7, .int 0, .int 0, .ref h8, .ref h9, .ref h10, .ref h11, .ref h12, .ref h13, .ref h14])), (h1, .inr (2, [.ref n1, .int 0, .int 0])), (n1, .inl (cI, 12, .inl (fun _ => 0))), (h8, .inr (0, [.int 1]))] sz [.ref h0, .int x0, .int x1]) (QI D [(h0, .inr (11, [.ref h1, .ref h2, .ref h3, .ref h4, .ref h5, .ref h6, .ref h7, .int 0, .int 0, .ref h8, .ref h9, .ref h10, .ref h11, .ref h12, .ref h13, .ref h14])), (h1, .inr (2, [.ref n1, .int 0, .int 0])), (n1, .inl (cI, 12, .inl (fun _ => 0))), (h8, .inr (0, [.int 1]))] [] sz (fun r => r = dealR x0 x1)) 0 0 (va_A [(h0, .inr (11, [.ref h1, .ref h2, .ref h3, .ref h4, .ref h5, .ref h6, .ref h7, .int 0, .int 0, .ref h8, .ref h9, .ref h10, .ref h11, .ref h12, .ref h13, .ref h14])), (h1, .inr (2, [.ref n1, .int 0, .int 0])), (n1, .inl (cI, 12, .inl (fun _ => 0))), (h8, .inr (0, [.int 1]))] sz) := by
  refine Met.ofW (cc := cX11_deal) (maxL := 3) (ret := (some .int)) (by decide) rfl ?_
  intro p e s m args below meth c s₁ B hml hv
  obtain ⟨rfl, hsz, hP, hKK, hD0⟩ := hv
  have hx := B.exec
  have hb := B.bytes
  have hr := B.returns
  have hts := atoms_spec (ws := wsX11_deal) B.pre
  have hown : s.vm.findClass RX11 = some m.cls := findClass_of_methodNamed B.named
  have hlocks := B.notSynchronized
  have hK := hKK.1
  have hN := hKK.2
  have hin11 : ∀ w ∈ wsX110, w ∈ wsX11_deal := by decide +kernel
  subst hsz
  have hD := hD0.self (sz := s.heap.size)
  obtain ⟨A, hAe⟩ : ∃ A, A = va_A [(h0, .inr (11, [.ref h1, .ref h2, .ref h3, .ref h4, .ref h5, .ref h6, .ref h7, .int 0, .int 0, .ref h8, .ref h9, .ref h10, .ref h11, .ref h12, .ref h13, .ref h14])), (h1, .inr (2, [.ref n1, .int 0, .int 0])), (n1, .inl (cI, 12, .inl (fun _ => 0))), (h8, .inr (0, [.int 1]))] s.heap.size := ⟨_, rfl⟩
  rw [← hAe] at hD
  have hA : ∀ q : Nat, s.heap.size ≤ q → A q := fun q h => by rw [hAe]; exact Or.inr h
  have hS : va_S A s.heap s.heap [] := va_S.rf
  have hl := lv_entry ([.ref h0, .int x0, .int x1]) (n := 3) (Nat.le_of_ble_eq_true rfl)
  rw [lg_entry_eq]
  generalize (lg_sl ([.ref h0, .int x0, .int x1]) ++ List.replicate (3 - (lg_sl ([.ref h0, .int x0, .int x1])).length) Slot.unset).toArray = ls at hl ⊢
  have hl : lv_has ls 3 [(0, .ref h0), (1, .int x0), (2, .int x1)] := hl
  refine lv_iload_n hx hb dX11_deal_0 rfl (lv_at hl 1 rfl) ?_
  refine lv_iload_n hx hb dX11_deal_1 rfl (lv_at hl 2 rfl) ?_
  have hPc := hP.sub (ws' := []) [] rfl
  refine lz_ss (As := [.int x0, .int x1]) (rest := []) ⟨hx, hb, hml, hown, hts⟩ (c_X11_canDeal_0 l D cI cS x0 x1) hKK hPc (va_cwS 2 hts gX11_deal_X11_canDeal rfl rfl rfl (by decide +kernel) ⟨Nat.le_of_ble_eq_true rfl, Nat.le_of_ble_eq_true rfl⟩) rfl hl.1 rfl (Nat.le_of_ble_eq_true rfl) dX11_deal_2 ⟨Nat.le_of_ble_eq_true rfl, Nat.le_of_ble_eq_true rfl⟩ (fun r5119 hw => ?_)
  by_cases k5120 : x0 < 0
  · rw [if_pos k5120] at hw
    subst hw
    refine lv_if_ne (tgt := 11) hx hb dX11_deal_5 (by decide) (fun c5121 => ?_) (fun c5121 => ?_)
    · exact absurd c5121 (by decide)
    · refine lv_bipush (v := (-2)) hx hb dX11_deal_8 (by decide) ?_
      have hP9 := hP.sub (ws' := []) [] rfl
      have hD9 := hD.sub (ws' := []) [] (by decide) rfl
      subst hAe
      exact W.iret (v := (-2)) hx hb hr (fun t ht hW => ⟨⟨_, (), rfl, by unfold dealR; rw [if_pos k5120], by rw [ht]; exact hP9, hD9⟩, hS.F ht⟩) hS.2.2 dX11_deal_10
  · rw [if_neg k5120] at hw
    by_cases k5122 : (12 : Int32) < x0
    · rw [if_pos k5122] at hw
      subst hw
      refine lv_if_ne (tgt := 11) hx hb dX11_deal_5 (by decide) (fun c5123 => ?_) (fun c5123 => ?_)
      · exact absurd c5123 (by decide)
      · refine lv_bipush (v := (-2)) hx hb dX11_deal_8 (by decide) ?_
        have hP9 := hP.sub (ws' := []) [] rfl
        have hD9 := hD.sub (ws' := []) [] (by decide) rfl
        subst hAe
        exact W.iret (v := (-2)) hx hb hr (fun t ht hW => ⟨⟨_, (), rfl, by unfold dealR; rw [if_neg k5120, if_pos k5122], by rw [ht]; exact hP9, hD9⟩, hS.F ht⟩) hS.2.2 dX11_deal_10
    · rw [if_neg k5122] at hw
      by_cases k5124 : x1 < 0
      · rw [if_pos k5124] at hw
        subst hw
        refine lv_if_ne (tgt := 11) hx hb dX11_deal_5 (by decide) (fun c5125 => ?_) (fun c5125 => ?_)
        · exact absurd c5125 (by decide)
        · refine lv_bipush (v := (-2)) hx hb dX11_deal_8 (by decide) ?_
          have hP9 := hP.sub (ws' := []) [] rfl
          have hD9 := hD.sub (ws' := []) [] (by decide) rfl
          subst hAe
          exact W.iret (v := (-2)) hx hb hr (fun t ht hW => ⟨⟨_, (), rfl, by unfold dealR; rw [if_neg k5120, if_neg k5122, if_pos k5124], by rw [ht]; exact hP9, hD9⟩, hS.F ht⟩) hS.2.2 dX11_deal_10
      · rw [if_neg k5124] at hw
        by_cases k5126 : (10 : Int32) < x1
        · rw [if_pos k5126] at hw
          subst hw
          refine lv_if_ne (tgt := 11) hx hb dX11_deal_5 (by decide) (fun c5127 => ?_) (fun c5127 => ?_)
          · exact absurd c5127 (by decide)
          · refine lv_bipush (v := (-2)) hx hb dX11_deal_8 (by decide) ?_
            have hP9 := hP.sub (ws' := []) [] rfl
            have hD9 := hD.sub (ws' := []) [] (by decide) rfl
            subst hAe
            exact W.iret (v := (-2)) hx hb hr (fun t ht hW => ⟨⟨_, (), rfl, by unfold dealR; rw [if_neg k5120, if_neg k5122, if_neg k5124, if_pos k5126], by rw [ht]; exact hP9, hD9⟩, hS.F ht⟩) hS.2.2 dX11_deal_10
        · rw [if_neg k5126] at hw
          subst hw
          refine lv_if_ne (tgt := 11) hx hb dX11_deal_5 (by decide) (fun c5128 => ?_) (fun c5128 => ?_)
          · have hR : dealR x0 x1 = sB (dO x1 x0.toNatClampNeg 1 x0.toNatClampNeg).1 x0.toNatClampNeg / 2 := by unfold dealR; rw [if_neg k5120, if_neg k5122, if_neg k5124, if_neg k5126]
            obtain ⟨k, hk, rfl⟩ := nI_of2 (M := 12) (n := 12) (by decide) k5120 (Int32.not_lt.mp k5122)
            rw [nI_clamp (by omega)] at hR
            refine lv_aload_n hx hb dX11_deal_11 rfl (lv_at hl 0 rfl) ?_
            refine va_get (D := D) (ci := 11) (v := .ref h1) (C := RX11) (T := TX11) (N := 16) hx hb hts hin11 hown hK hP 0 rfl rfl 0 (by decide) (hts (.fieldLink RX11 12 "MissedPoints" "net" "LMissedPoints$Net;") (by decide +kernel)) (fun _ h9 => h9) rfl dX11_deal_12 ?_
            refine lv_iload_n hx hb dX11_deal_15 rfl (lv_at hl 1 rfl) ?_
            refine lv_iload_n hx hb dX11_deal_16 rfl (lv_at hl 2 rfl) ?_
            refine lv_aload_n hx hb dX11_deal_17 rfl (lv_at hl 0 rfl) ?_
            refine va_get (D := D) (ci := 11) (v := .ref h8) (C := RX11) (T := TX11) (N := 16) hx hb hts hin11 hown hK hP 0 rfl rfl 9 (by decide) (hts (.fieldLink RX11 53 "MissedPoints" "draws" "LMissedPoints$Draws;") (by decide +kernel)) (fun _ h9 => h9) rfl dX11_deal_18 ?_
            have hPc := hP.sub (ws' := [(h1, .inr (2, [.ref n1, .int 0, .int 0])), (n1, .inl (cI, 12, .inl (fun _ => 0))), (h8, .inr (0, [.int 1]))]) [1, 2, 3] rfl
            have hDc := hD.sub (ws' := [(h1, .inr (2, [.ref n1, .int 0, .int 0])), (n1, .inl (cI, 12, .inl (fun _ => 0))), (h8, .inr (0, [.int 1]))]) [1, 2, 3] (by decide) rfl
            refine lz_qe (wr := [(h0, .inr (11, [.ref h1, .ref h2, .ref h3, .ref h4, .ref h5, .ref h6, .ref h7, .int 0, .int 0, .ref h8, .ref h9, .ref h10, .ref h11, .ref h12, .ref h13, .ref h14]))]) (w1 := fun (u : (Nat → Int32) × Nat) => [(h1, .inr (2, [.ref n1, .int (nI k), .int (nI (u.2))])), (n1, .inl (cI, 12, .inl u.1)), (h8, .inr (0, [.int ((dO x1 k 1 k).2)]))]) (As := [.int (nI k), .int x1, .ref h8]) (rest := []) ⟨hx, hb, hml, hown, hts⟩ (c_dealAnew l D cI cS _ h1 n1 h8 (fun _ => 0) 0 1 x1 k 0 hk) hKK hP hD hS hA [1, 2, 3] [0] (by decide) rfl rfl (by decide) (by decide) hPc hDc (ci := 2) rfl rfl (cwV 3 hts gX11_deal_X2_dealAnew rfl rfl rfl (by decide +kernel) ⟨Nat.le_of_ble_eq_true rfl, Nat.le_of_ble_eq_true rfl⟩) rfl hl.1 rfl (Nat.le_of_ble_eq_true rfl) dX11_deal_21 ⟨Nat.le_of_ble_eq_true rfl, Nat.le_of_ble_eq_true rfl⟩ (fun u H locs hu hP hD hS => ?_)
            have hP : va_P D cls [(h0, .inr (11, [.ref h1, .ref h2, .ref h3, .ref h4, .ref h5, .ref h6, .ref h7, .int 0, .int 0, .ref h8, .ref h9, .ref h10, .ref h11, .ref h12, .ref h13, .ref h14])), (h1, .inr (2, [.ref n1, .int (nI k), .int (nI (u.2))])), (n1, .inl (cI, 12, .inl u.1)), (h8, .inr (0, [.int ((dO x1 k 1 k).2)]))] H := hP
            have hD : va_D A [(h0, .inr (11, [.ref h1, .ref h2, .ref h3, .ref h4, .ref h5, .ref h6, .ref h7, .int 0, .int 0, .ref h8, .ref h9, .ref h10, .ref h11, .ref h12, .ref h13, .ref h14])), (h1, .inr (2, [.ref n1, .int (nI k), .int (nI (u.2))])), (n1, .inl (cI, 12, .inl u.1)), (h8, .inr (0, [.int ((dO x1 k 1 k).2)]))] := hD
            refine lv_aload_n hx hb dX11_deal_24 rfl (lv_at hl 0 rfl) ?_
            refine va_get (D := D) (ci := 11) (v := .ref h1) (C := RX11) (T := TX11) (N := 16) hx hb hts hin11 hown hK hP 0 rfl rfl 0 (by decide) (hts (.fieldLink RX11 12 "MissedPoints" "net" "LMissedPoints$Net;") (by decide +kernel)) (fun _ h9 => h9) rfl dX11_deal_25 ?_
            have hPc := hP.sub (ws' := [(h1, .inr (2, [.ref n1, .int (nI k), .int (nI (u.2))])), (n1, .inl (cI, 12, .inl u.1))]) [1, 2] rfl
            refine lz_sv (As := []) (rest := []) ⟨hx, hb, hml, hown, hts⟩ (c_lineCount l D cI cS h1 n1 u.1 (nI u.2) k hk) hKK hPc (ci := 2) rfl rfl (cwV 0 hts gX11_deal_X2_lineCount rfl rfl rfl (by decide +kernel) ⟨Nat.le_of_ble_eq_true rfl, Nat.le_of_ble_eq_true rfl⟩) rfl hl.1 rfl (Nat.le_of_ble_eq_true rfl) dX11_deal_28 ⟨Nat.le_of_ble_eq_true rfl, Nat.le_of_ble_eq_true rfl⟩ (fun r9 hw => ?_)
            subst hw
            have hP9 := hP.sub (ws' := []) [] rfl
            have hD9 := hD.sub (ws' := []) [] (by decide) rfl
            subst hAe
            exact W.iret (v := sB u.1 k / 2) hx hb hr (fun t ht hW => ⟨⟨_, (), rfl, by rw [hR, sB_cong hu.1], by rw [ht]; exact hP9, hD9⟩, hS.F ht⟩) hS.2.2 dX11_deal_31
          · exact absurd c5128 (by decide)
