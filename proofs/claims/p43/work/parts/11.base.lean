theorem dX11_canDeal_0 : decode cX11_canDeal 0 = .ok (.iload_n 0, 1) := by decide +kernel
theorem dX11_canDeal_1 : decode cX11_canDeal 1 = .ok (.ifCond .lt 23, 3) := by decide +kernel
theorem dX11_canDeal_10 : decode cX11_canDeal 10 = .ok (.iload_n 1, 1) := by decide +kernel
theorem dX11_canDeal_11 : decode cX11_canDeal 11 = .ok (.ifCond .lt 13, 3) := by decide +kernel
theorem dX11_canDeal_14 : decode cX11_canDeal 14 = .ok (.iload_n 1, 1) := by decide +kernel
theorem dX11_canDeal_15 : decode cX11_canDeal 15 = .ok (.bipush 10, 2) := by decide +kernel
theorem dX11_canDeal_17 : decode cX11_canDeal 17 = .ok (.if_icmp .gt 7, 3) := by decide +kernel
theorem dX11_canDeal_20 : decode cX11_canDeal 20 = .ok (.iconst 1, 1) := by decide +kernel
theorem dX11_canDeal_21 : decode cX11_canDeal 21 = .ok (.goto 4, 3) := by decide +kernel
theorem dX11_canDeal_24 : decode cX11_canDeal 24 = .ok (.iconst 0, 1) := by decide +kernel
theorem dX11_canDeal_25 : decode cX11_canDeal 25 = .ok (.ireturn, 1) := by decide +kernel
theorem dX11_canDeal_4 : decode cX11_canDeal 4 = .ok (.iload_n 0, 1) := by decide +kernel
theorem dX11_canDeal_5 : decode cX11_canDeal 5 = .ok (.bipush 12, 2) := by decide +kernel
theorem dX11_canDeal_7 : decode cX11_canDeal 7 = .ok (.if_icmp .gt 17, 3) := by decide +kernel
set_option maxHeartbeats 4000000 in
set_option maxRecDepth 100000 in
theorem c_J6_bitCount_0f7a4_1 (l : Launch) (D : va_G) (cI cS : ClassId) (x0 : Int32) : Met l yJ6_bitCount_0f7a4 wsJ6_bitCount_0f7a4 ({ frames := 0, cells := 0, slots := 0, locals := 0 }) (PS D cI cS [] [.int x0]) (vp_Si (fun r => r = (((((((x0 - (((Int32.toUInt32 x0 >>> (Int32.toUInt32 1 &&& Int32.toUInt32 31)).toInt32) &&& (1431655765 : Int32))) &&& (858993459 : Int32)) + (((Int32.toUInt32 (x0 - (((Int32.toUInt32 x0 >>> (Int32.toUInt32 1 &&& Int32.toUInt32 31)).toInt32) &&& (1431655765 : Int32))) >>> (Int32.toUInt32 2 &&& Int32.toUInt32 31)).toInt32) &&& (858993459 : Int32))) + ((Int32.toUInt32 (((x0 - (((Int32.toUInt32 x0 >>> (Int32.toUInt32 1 &&& Int32.toUInt32 31)).toInt32) &&& (1431655765 : Int32))) &&& (858993459 : Int32)) + (((Int32.toUInt32 (x0 - (((Int32.toUInt32 x0 >>> (Int32.toUInt32 1 &&& Int32.toUInt32 31)).toInt32) &&& (1431655765 : Int32))) >>> (Int32.toUInt32 2 &&& Int32.toUInt32 31)).toInt32) &&& (858993459 : Int32))) >>> (Int32.toUInt32 4 &&& Int32.toUInt32 31)).toInt32)) &&& (252645135 : Int32)) + ((Int32.toUInt32 (((((x0 - (((Int32.toUInt32 x0 >>> (Int32.toUInt32 1 &&& Int32.toUInt32 31)).toInt32) &&& (1431655765 : Int32))) &&& (858993459 : Int32)) + (((Int32.toUInt32 (x0 - (((Int32.toUInt32 x0 >>> (Int32.toUInt32 1 &&& Int32.toUInt32 31)).toInt32) &&& (1431655765 : Int32))) >>> (Int32.toUInt32 2 &&& Int32.toUInt32 31)).toInt32) &&& (858993459 : Int32))) + ((Int32.toUInt32 (((x0 - (((Int32.toUInt32 x0 >>> (Int32.toUInt32 1 &&& Int32.toUInt32 31)).toInt32) &&& (1431655765 : Int32))) &&& (858993459 : Int32)) + (((Int32.toUInt32 (x0 - (((Int32.toUInt32 x0 >>> (Int32.toUInt32 1 &&& Int32.toUInt32 31)).toInt32) &&& (1431655765 : Int32))) >>> (Int32.toUInt32 2 &&& Int32.toUInt32 31)).toInt32) &&& (858993459 : Int32))) >>> (Int32.toUInt32 4 &&& Int32.toUInt32 31)).toInt32)) &&& (252645135 : Int32)) >>> (Int32.toUInt32 8 &&& Int32.toUInt32 31)).toInt32)) + ((Int32.toUInt32 ((((((x0 - (((Int32.toUInt32 x0 >>> (Int32.toUInt32 1 &&& Int32.toUInt32 31)).toInt32) &&& (1431655765 : Int32))) &&& (858993459 : Int32)) + (((Int32.toUInt32 (x0 - (((Int32.toUInt32 x0 >>> (Int32.toUInt32 1 &&& Int32.toUInt32 31)).toInt32) &&& (1431655765 : Int32))) >>> (Int32.toUInt32 2 &&& Int32.toUInt32 31)).toInt32) &&& (858993459 : Int32))) + ((Int32.toUInt32 (((x0 - (((Int32.toUInt32 x0 >>> (Int32.toUInt32 1 &&& Int32.toUInt32 31)).toInt32) &&& (1431655765 : Int32))) &&& (858993459 : Int32)) + (((Int32.toUInt32 (x0 - (((Int32.toUInt32 x0 >>> (Int32.toUInt32 1 &&& Int32.toUInt32 31)).toInt32) &&& (1431655765 : Int32))) >>> (Int32.toUInt32 2 &&& Int32.toUInt32 31)).toInt32) &&& (858993459 : Int32))) >>> (Int32.toUInt32 4 &&& Int32.toUInt32 31)).toInt32)) &&& (252645135 : Int32)) + ((Int32.toUInt32 (((((x0 - (((Int32.toUInt32 x0 >>> (Int32.toUInt32 1 &&& Int32.toUInt32 31)).toInt32) &&& (1431655765 : Int32))) &&& (858993459 : Int32)) + (((Int32.toUInt32 (x0 - (((Int32.toUInt32 x0 >>> (Int32.toUInt32 1 &&& Int32.toUInt32 31)).toInt32) &&& (1431655765 : Int32))) >>> (Int32.toUInt32 2 &&& Int32.toUInt32 31)).toInt32) &&& (858993459 : Int32))) + ((Int32.toUInt32 (((x0 - (((Int32.toUInt32 x0 >>> (Int32.toUInt32 1 &&& Int32.toUInt32 31)).toInt32) &&& (1431655765 : Int32))) &&& (858993459 : Int32)) + (((Int32.toUInt32 (x0 - (((Int32.toUInt32 x0 >>> (Int32.toUInt32 1 &&& Int32.toUInt32 31)).toInt32) &&& (1431655765 : Int32))) >>> (Int32.toUInt32 2 &&& Int32.toUInt32 31)).toInt32) &&& (858993459 : Int32))) >>> (Int32.toUInt32 4 &&& Int32.toUInt32 31)).toInt32)) &&& (252645135 : Int32)) >>> (Int32.toUInt32 8 &&& Int32.toUInt32 31)).toInt32)) >>> (Int32.toUInt32 16 &&& Int32.toUInt32 31)).toInt32)) &&& (63 : Int32))) 0 0 (fun _ => False) := by
  refine Met.ofW (cc := cJ6_bitCount_0f7a4) (maxL := 1) (ret := (some .int)) (by decide) rfl ?_
  intro p e s m args below meth c s₁ B hml hv
  obtain ⟨rfl, hP, hKK⟩ := hv
  have hx := B.exec
  have hb := B.bytes
  have hr := B.returns
  have hts := atoms_spec (ws := wsJ6_bitCount_0f7a4) B.pre
  have hown : s.vm.findClass RJ6 = some m.cls := findClass_of_methodNamed B.named
  have hlocks := B.notSynchronized
  have hK := hKK.1
  have hN := hKK.2
  have hl := lv_entry ([.int x0]) (n := 1) (Nat.le_of_ble_eq_true rfl)
  rw [lg_entry_eq]
  generalize (lg_sl ([.int x0]) ++ List.replicate (1 - (lg_sl ([.int x0])).length) Slot.unset).toArray = ls at hl ⊢
  have hl : lv_has ls 1 [(0, .int x0)] := hl
  refine lv_iload_n hx hb dJ6_bitCount_0f7a4_0 rfl (lv_at hl 0 rfl) ?_
  refine lv_iload_n hx hb dJ6_bitCount_0f7a4_1 rfl (lv_at hl 0 rfl) ?_
  refine lv_iconst (v := 1) hx hb dJ6_bitCount_0f7a4_2 (by decide) ?_
  refine lv_iushr (v := (Int32.toUInt32 x0 >>> (Int32.toUInt32 1 &&& Int32.toUInt32 31)).toInt32) hx hb dJ6_bitCount_0f7a4_3 rfl ?_
  refine lv_ldcw hx hb hown (hts (.constant RJ6 265 (1431655765)) (by decide +kernel)) dJ6_bitCount_0f7a4_4 ?_
  refine lv_iand hx hb dJ6_bitCount_0f7a4_7 ?_
  refine lv_isub hx hb dJ6_bitCount_0f7a4_8 ?_
  refine lv_istore_n (lv' := [(0, .int (x0 - (((Int32.toUInt32 x0 >>> (Int32.toUInt32 1 &&& Int32.toUInt32 31)).toInt32) &&& (1431655765 : Int32))))]) hx hb dJ6_bitCount_0f7a4_9 rfl hl (by decide) rfl (fun ls hl => ?_)
  refine lv_iload_n hx hb dJ6_bitCount_0f7a4_10 rfl (lv_at hl 0 rfl) ?_
  refine lv_ldcw hx hb hown (hts (.constant RJ6 266 (858993459)) (by decide +kernel)) dJ6_bitCount_0f7a4_11 ?_
  refine lv_iand hx hb dJ6_bitCount_0f7a4_14 ?_
  refine lv_iload_n hx hb dJ6_bitCount_0f7a4_15 rfl (lv_at hl 0 rfl) ?_
  refine lv_iconst (v := 2) hx hb dJ6_bitCount_0f7a4_16 (by decide) ?_
  refine lv_iushr (v := (Int32.toUInt32 (x0 - (((Int32.toUInt32 x0 >>> (Int32.toUInt32 1 &&& Int32.toUInt32 31)).toInt32) &&& (1431655765 : Int32))) >>> (Int32.toUInt32 2 &&& Int32.toUInt32 31)).toInt32) hx hb dJ6_bitCount_0f7a4_17 rfl ?_
  refine lv_ldcw hx hb hown (hts (.constant RJ6 266 (858993459)) (by decide +kernel)) dJ6_bitCount_0f7a4_18 ?_
  refine lv_iand hx hb dJ6_bitCount_0f7a4_21 ?_
  refine lv_iadd hx hb dJ6_bitCount_0f7a4_22 ?_
  refine lv_istore_n (lv' := [(0, .int (((x0 - (((Int32.toUInt32 x0 >>> (Int32.toUInt32 1 &&& Int32.toUInt32 31)).toInt32) &&& (1431655765 : Int32))) &&& (858993459 : Int32)) + (((Int32.toUInt32 (x0 - (((Int32.toUInt32 x0 >>> (Int32.toUInt32 1 &&& Int32.toUInt32 31)).toInt32) &&& (1431655765 : Int32))) >>> (Int32.toUInt32 2 &&& Int32.toUInt32 31)).toInt32) &&& (858993459 : Int32))))]) hx hb dJ6_bitCount_0f7a4_23 rfl hl (by decide) rfl (fun ls hl => ?_)
  refine lv_iload_n hx hb dJ6_bitCount_0f7a4_24 rfl (lv_at hl 0 rfl) ?_
  refine lv_iload_n hx hb dJ6_bitCount_0f7a4_25 rfl (lv_at hl 0 rfl) ?_
  refine lv_iconst (v := 4) hx hb dJ6_bitCount_0f7a4_26 (by decide) ?_
  refine lv_iushr (v := (Int32.toUInt32 (((x0 - (((Int32.toUInt32 x0 >>> (Int32.toUInt32 1 &&& Int32.toUInt32 31)).toInt32) &&& (1431655765 : Int32))) &&& (858993459 : Int32)) + (((Int32.toUInt32 (x0 - (((Int32.toUInt32 x0 >>> (Int32.toUInt32 1 &&& Int32.toUInt32 31)).toInt32) &&& (1431655765 : Int32))) >>> (Int32.toUInt32 2 &&& Int32.toUInt32 31)).toInt32) &&& (858993459 : Int32))) >>> (Int32.toUInt32 4 &&& Int32.toUInt32 31)).toInt32) hx hb dJ6_bitCount_0f7a4_27 rfl ?_
  refine lv_iadd hx hb dJ6_bitCount_0f7a4_28 ?_
  refine lv_ldcw hx hb hown (hts (.constant RJ6 267 (252645135)) (by decide +kernel)) dJ6_bitCount_0f7a4_29 ?_
  refine lv_iand hx hb dJ6_bitCount_0f7a4_32 ?_
  refine lv_istore_n (lv' := [(0, .int (((((x0 - (((Int32.toUInt32 x0 >>> (Int32.toUInt32 1 &&& Int32.toUInt32 31)).toInt32) &&& (1431655765 : Int32))) &&& (858993459 : Int32)) + (((Int32.toUInt32 (x0 - (((Int32.toUInt32 x0 >>> (Int32.toUInt32 1 &&& Int32.toUInt32 31)).toInt32) &&& (1431655765 : Int32))) >>> (Int32.toUInt32 2 &&& Int32.toUInt32 31)).toInt32) &&& (858993459 : Int32))) + ((Int32.toUInt32 (((x0 - (((Int32.toUInt32 x0 >>> (Int32.toUInt32 1 &&& Int32.toUInt32 31)).toInt32) &&& (1431655765 : Int32))) &&& (858993459 : Int32)) + (((Int32.toUInt32 (x0 - (((Int32.toUInt32 x0 >>> (Int32.toUInt32 1 &&& Int32.toUInt32 31)).toInt32) &&& (1431655765 : Int32))) >>> (Int32.toUInt32 2 &&& Int32.toUInt32 31)).toInt32) &&& (858993459 : Int32))) >>> (Int32.toUInt32 4 &&& Int32.toUInt32 31)).toInt32)) &&& (252645135 : Int32)))]) hx hb dJ6_bitCount_0f7a4_33 rfl hl (by decide) rfl (fun ls hl => ?_)
  refine lv_iload_n hx hb dJ6_bitCount_0f7a4_34 rfl (lv_at hl 0 rfl) ?_
  refine lv_iload_n hx hb dJ6_bitCount_0f7a4_35 rfl (lv_at hl 0 rfl) ?_
  refine lv_bipush (v := 8) hx hb dJ6_bitCount_0f7a4_36 (by decide) ?_
  refine lv_iushr (v := (Int32.toUInt32 (((((x0 - (((Int32.toUInt32 x0 >>> (Int32.toUInt32 1 &&& Int32.toUInt32 31)).toInt32) &&& (1431655765 : Int32))) &&& (858993459 : Int32)) + (((Int32.toUInt32 (x0 - (((Int32.toUInt32 x0 >>> (Int32.toUInt32 1 &&& Int32.toUInt32 31)).toInt32) &&& (1431655765 : Int32))) >>> (Int32.toUInt32 2 &&& Int32.toUInt32 31)).toInt32) &&& (858993459 : Int32))) + ((Int32.toUInt32 (((x0 - (((Int32.toUInt32 x0 >>> (Int32.toUInt32 1 &&& Int32.toUInt32 31)).toInt32) &&& (1431655765 : Int32))) &&& (858993459 : Int32)) + (((Int32.toUInt32 (x0 - (((Int32.toUInt32 x0 >>> (Int32.toUInt32 1 &&& Int32.toUInt32 31)).toInt32) &&& (1431655765 : Int32))) >>> (Int32.toUInt32 2 &&& Int32.toUInt32 31)).toInt32) &&& (858993459 : Int32))) >>> (Int32.toUInt32 4 &&& Int32.toUInt32 31)).toInt32)) &&& (252645135 : Int32)) >>> (Int32.toUInt32 8 &&& Int32.toUInt32 31)).toInt32) hx hb dJ6_bitCount_0f7a4_38 rfl ?_
  refine lv_iadd hx hb dJ6_bitCount_0f7a4_39 ?_
  refine lv_istore_n (lv' := [(0, .int ((((((x0 - (((Int32.toUInt32 x0 >>> (Int32.toUInt32 1 &&& Int32.toUInt32 31)).toInt32) &&& (1431655765 : Int32))) &&& (858993459 : Int32)) + (((Int32.toUInt32 (x0 - (((Int32.toUInt32 x0 >>> (Int32.toUInt32 1 &&& Int32.toUInt32 31)).toInt32) &&& (1431655765 : Int32))) >>> (Int32.toUInt32 2 &&& Int32.toUInt32 31)).toInt32) &&& (858993459 : Int32))) + ((Int32.toUInt32 (((x0 - (((Int32.toUInt32 x0 >>> (Int32.toUInt32 1 &&& Int32.toUInt32 31)).toInt32) &&& (1431655765 : Int32))) &&& (858993459 : Int32)) + (((Int32.toUInt32 (x0 - (((Int32.toUInt32 x0 >>> (Int32.toUInt32 1 &&& Int32.toUInt32 31)).toInt32) &&& (1431655765 : Int32))) >>> (Int32.toUInt32 2 &&& Int32.toUInt32 31)).toInt32) &&& (858993459 : Int32))) >>> (Int32.toUInt32 4 &&& Int32.toUInt32 31)).toInt32)) &&& (252645135 : Int32)) + ((Int32.toUInt32 (((((x0 - (((Int32.toUInt32 x0 >>> (Int32.toUInt32 1 &&& Int32.toUInt32 31)).toInt32) &&& (1431655765 : Int32))) &&& (858993459 : Int32)) + (((Int32.toUInt32 (x0 - (((Int32.toUInt32 x0 >>> (Int32.toUInt32 1 &&& Int32.toUInt32 31)).toInt32) &&& (1431655765 : Int32))) >>> (Int32.toUInt32 2 &&& Int32.toUInt32 31)).toInt32) &&& (858993459 : Int32))) + ((Int32.toUInt32 (((x0 - (((Int32.toUInt32 x0 >>> (Int32.toUInt32 1 &&& Int32.toUInt32 31)).toInt32) &&& (1431655765 : Int32))) &&& (858993459 : Int32)) + (((Int32.toUInt32 (x0 - (((Int32.toUInt32 x0 >>> (Int32.toUInt32 1 &&& Int32.toUInt32 31)).toInt32) &&& (1431655765 : Int32))) >>> (Int32.toUInt32 2 &&& Int32.toUInt32 31)).toInt32) &&& (858993459 : Int32))) >>> (Int32.toUInt32 4 &&& Int32.toUInt32 31)).toInt32)) &&& (252645135 : Int32)) >>> (Int32.toUInt32 8 &&& Int32.toUInt32 31)).toInt32)))]) hx hb dJ6_bitCount_0f7a4_40 rfl hl (by decide) rfl (fun ls hl => ?_)
  refine lv_iload_n hx hb dJ6_bitCount_0f7a4_41 rfl (lv_at hl 0 rfl) ?_
  refine lv_iload_n hx hb dJ6_bitCount_0f7a4_42 rfl (lv_at hl 0 rfl) ?_
  refine lv_bipush (v := 16) hx hb dJ6_bitCount_0f7a4_43 (by decide) ?_
  refine lv_iushr (v := (Int32.toUInt32 ((((((x0 - (((Int32.toUInt32 x0 >>> (Int32.toUInt32 1 &&& Int32.toUInt32 31)).toInt32) &&& (1431655765 : Int32))) &&& (858993459 : Int32)) + (((Int32.toUInt32 (x0 - (((Int32.toUInt32 x0 >>> (Int32.toUInt32 1 &&& Int32.toUInt32 31)).toInt32) &&& (1431655765 : Int32))) >>> (Int32.toUInt32 2 &&& Int32.toUInt32 31)).toInt32) &&& (858993459 : Int32))) + ((Int32.toUInt32 (((x0 - (((Int32.toUInt32 x0 >>> (Int32.toUInt32 1 &&& Int32.toUInt32 31)).toInt32) &&& (1431655765 : Int32))) &&& (858993459 : Int32)) + (((Int32.toUInt32 (x0 - (((Int32.toUInt32 x0 >>> (Int32.toUInt32 1 &&& Int32.toUInt32 31)).toInt32) &&& (1431655765 : Int32))) >>> (Int32.toUInt32 2 &&& Int32.toUInt32 31)).toInt32) &&& (858993459 : Int32))) >>> (Int32.toUInt32 4 &&& Int32.toUInt32 31)).toInt32)) &&& (252645135 : Int32)) + ((Int32.toUInt32 (((((x0 - (((Int32.toUInt32 x0 >>> (Int32.toUInt32 1 &&& Int32.toUInt32 31)).toInt32) &&& (1431655765 : Int32))) &&& (858993459 : Int32)) + (((Int32.toUInt32 (x0 - (((Int32.toUInt32 x0 >>> (Int32.toUInt32 1 &&& Int32.toUInt32 31)).toInt32) &&& (1431655765 : Int32))) >>> (Int32.toUInt32 2 &&& Int32.toUInt32 31)).toInt32) &&& (858993459 : Int32))) + ((Int32.toUInt32 (((x0 - (((Int32.toUInt32 x0 >>> (Int32.toUInt32 1 &&& Int32.toUInt32 31)).toInt32) &&& (1431655765 : Int32))) &&& (858993459 : Int32)) + (((Int32.toUInt32 (x0 - (((Int32.toUInt32 x0 >>> (Int32.toUInt32 1 &&& Int32.toUInt32 31)).toInt32) &&& (1431655765 : Int32))) >>> (Int32.toUInt32 2 &&& Int32.toUInt32 31)).toInt32) &&& (858993459 : Int32))) >>> (Int32.toUInt32 4 &&& Int32.toUInt32 31)).toInt32)) &&& (252645135 : Int32)) >>> (Int32.toUInt32 8 &&& Int32.toUInt32 31)).toInt32)) >>> (Int32.toUInt32 16 &&& Int32.toUInt32 31)).toInt32) hx hb dJ6_bitCount_0f7a4_45 rfl ?_
  refine lv_iadd hx hb dJ6_bitCount_0f7a4_46 ?_
  refine lv_istore_n (lv' := [(0, .int (((((((x0 - (((Int32.toUInt32 x0 >>> (Int32.toUInt32 1 &&& Int32.toUInt32 31)).toInt32) &&& (1431655765 : Int32))) &&& (858993459 : Int32)) + (((Int32.toUInt32 (x0 - (((Int32.toUInt32 x0 >>> (Int32.toUInt32 1 &&& Int32.toUInt32 31)).toInt32) &&& (1431655765 : Int32))) >>> (Int32.toUInt32 2 &&& Int32.toUInt32 31)).toInt32) &&& (858993459 : Int32))) + ((Int32.toUInt32 (((x0 - (((Int32.toUInt32 x0 >>> (Int32.toUInt32 1 &&& Int32.toUInt32 31)).toInt32) &&& (1431655765 : Int32))) &&& (858993459 : Int32)) + (((Int32.toUInt32 (x0 - (((Int32.toUInt32 x0 >>> (Int32.toUInt32 1 &&& Int32.toUInt32 31)).toInt32) &&& (1431655765 : Int32))) >>> (Int32.toUInt32 2 &&& Int32.toUInt32 31)).toInt32) &&& (858993459 : Int32))) >>> (Int32.toUInt32 4 &&& Int32.toUInt32 31)).toInt32)) &&& (252645135 : Int32)) + ((Int32.toUInt32 (((((x0 - (((Int32.toUInt32 x0 >>> (Int32.toUInt32 1 &&& Int32.toUInt32 31)).toInt32) &&& (1431655765 : Int32))) &&& (858993459 : Int32)) + (((Int32.toUInt32 (x0 - (((Int32.toUInt32 x0 >>> (Int32.toUInt32 1 &&& Int32.toUInt32 31)).toInt32) &&& (1431655765 : Int32))) >>> (Int32.toUInt32 2 &&& Int32.toUInt32 31)).toInt32) &&& (858993459 : Int32))) + ((Int32.toUInt32 (((x0 - (((Int32.toUInt32 x0 >>> (Int32.toUInt32 1 &&& Int32.toUInt32 31)).toInt32) &&& (1431655765 : Int32))) &&& (858993459 : Int32)) + (((Int32.toUInt32 (x0 - (((Int32.toUInt32 x0 >>> (Int32.toUInt32 1 &&& Int32.toUInt32 31)).toInt32) &&& (1431655765 : Int32))) >>> (Int32.toUInt32 2 &&& Int32.toUInt32 31)).toInt32) &&& (858993459 : Int32))) >>> (Int32.toUInt32 4 &&& Int32.toUInt32 31)).toInt32)) &&& (252645135 : Int32)) >>> (Int32.toUInt32 8 &&& Int32.toUInt32 31)).toInt32)) + ((Int32.toUInt32 ((((((x0 - (((Int32.toUInt32 x0 >>> (Int32.toUInt32 1 &&& Int32.toUInt32 31)).toInt32) &&& (1431655765 : Int32))) &&& (858993459 : Int32)) + (((Int32.toUInt32 (x0 - (((Int32.toUInt32 x0 >>> (Int32.toUInt32 1 &&& Int32.toUInt32 31)).toInt32) &&& (1431655765 : Int32))) >>> (Int32.toUInt32 2 &&& Int32.toUInt32 31)).toInt32) &&& (858993459 : Int32))) + ((Int32.toUInt32 (((x0 - (((Int32.toUInt32 x0 >>> (Int32.toUInt32 1 &&& Int32.toUInt32 31)).toInt32) &&& (1431655765 : Int32))) &&& (858993459 : Int32)) + (((Int32.toUInt32 (x0 - (((Int32.toUInt32 x0 >>> (Int32.toUInt32 1 &&& Int32.toUInt32 31)).toInt32) &&& (1431655765 : Int32))) >>> (Int32.toUInt32 2 &&& Int32.toUInt32 31)).toInt32) &&& (858993459 : Int32))) >>> (Int32.toUInt32 4 &&& Int32.toUInt32 31)).toInt32)) &&& (252645135 : Int32)) + ((Int32.toUInt32 (((((x0 - (((Int32.toUInt32 x0 >>> (Int32.toUInt32 1 &&& Int32.toUInt32 31)).toInt32) &&& (1431655765 : Int32))) &&& (858993459 : Int32)) + (((Int32.toUInt32 (x0 - (((Int32.toUInt32 x0 >>> (Int32.toUInt32 1 &&& Int32.toUInt32 31)).toInt32) &&& (1431655765 : Int32))) >>> (Int32.toUInt32 2 &&& Int32.toUInt32 31)).toInt32) &&& (858993459 : Int32))) + ((Int32.toUInt32 (((x0 - (((Int32.toUInt32 x0 >>> (Int32.toUInt32 1 &&& Int32.toUInt32 31)).toInt32) &&& (1431655765 : Int32))) &&& (858993459 : Int32)) + (((Int32.toUInt32 (x0 - (((Int32.toUInt32 x0 >>> (Int32.toUInt32 1 &&& Int32.toUInt32 31)).toInt32) &&& (1431655765 : Int32))) >>> (Int32.toUInt32 2 &&& Int32.toUInt32 31)).toInt32) &&& (858993459 : Int32))) >>> (Int32.toUInt32 4 &&& Int32.toUInt32 31)).toInt32)) &&& (252645135 : Int32)) >>> (Int32.toUInt32 8 &&& Int32.toUInt32 31)).toInt32)) >>> (Int32.toUInt32 16 &&& Int32.toUInt32 31)).toInt32)))]) hx hb dJ6_bitCount_0f7a4_47 rfl hl (by decide) rfl (fun ls hl => ?_)
  refine lv_iload_n hx hb dJ6_bitCount_0f7a4_48 rfl (lv_at hl 0 rfl) ?_
  refine lv_bipush (v := 63) hx hb dJ6_bitCount_0f7a4_49 (by decide) ?_
  refine lv_iand hx hb dJ6_bitCount_0f7a4_51 ?_
  exact W.iret (v := (((((((x0 - (((Int32.toUInt32 x0 >>> (Int32.toUInt32 1 &&& Int32.toUInt32 31)).toInt32) &&& (1431655765 : Int32))) &&& (858993459 : Int32)) + (((Int32.toUInt32 (x0 - (((Int32.toUInt32 x0 >>> (Int32.toUInt32 1 &&& Int32.toUInt32 31)).toInt32) &&& (1431655765 : Int32))) >>> (Int32.toUInt32 2 &&& Int32.toUInt32 31)).toInt32) &&& (858993459 : Int32))) + ((Int32.toUInt32 (((x0 - (((Int32.toUInt32 x0 >>> (Int32.toUInt32 1 &&& Int32.toUInt32 31)).toInt32) &&& (1431655765 : Int32))) &&& (858993459 : Int32)) + (((Int32.toUInt32 (x0 - (((Int32.toUInt32 x0 >>> (Int32.toUInt32 1 &&& Int32.toUInt32 31)).toInt32) &&& (1431655765 : Int32))) >>> (Int32.toUInt32 2 &&& Int32.toUInt32 31)).toInt32) &&& (858993459 : Int32))) >>> (Int32.toUInt32 4 &&& Int32.toUInt32 31)).toInt32)) &&& (252645135 : Int32)) + ((Int32.toUInt32 (((((x0 - (((Int32.toUInt32 x0 >>> (Int32.toUInt32 1 &&& Int32.toUInt32 31)).toInt32) &&& (1431655765 : Int32))) &&& (858993459 : Int32)) + (((Int32.toUInt32 (x0 - (((Int32.toUInt32 x0 >>> (Int32.toUInt32 1 &&& Int32.toUInt32 31)).toInt32) &&& (1431655765 : Int32))) >>> (Int32.toUInt32 2 &&& Int32.toUInt32 31)).toInt32) &&& (858993459 : Int32))) + ((Int32.toUInt32 (((x0 - (((Int32.toUInt32 x0 >>> (Int32.toUInt32 1 &&& Int32.toUInt32 31)).toInt32) &&& (1431655765 : Int32))) &&& (858993459 : Int32)) + (((Int32.toUInt32 (x0 - (((Int32.toUInt32 x0 >>> (Int32.toUInt32 1 &&& Int32.toUInt32 31)).toInt32) &&& (1431655765 : Int32))) >>> (Int32.toUInt32 2 &&& Int32.toUInt32 31)).toInt32) &&& (858993459 : Int32))) >>> (Int32.toUInt32 4 &&& Int32.toUInt32 31)).toInt32)) &&& (252645135 : Int32)) >>> (Int32.toUInt32 8 &&& Int32.toUInt32 31)).toInt32)) + ((Int32.toUInt32 ((((((x0 - (((Int32.toUInt32 x0 >>> (Int32.toUInt32 1 &&& Int32.toUInt32 31)).toInt32) &&& (1431655765 : Int32))) &&& (858993459 : Int32)) + (((Int32.toUInt32 (x0 - (((Int32.toUInt32 x0 >>> (Int32.toUInt32 1 &&& Int32.toUInt32 31)).toInt32) &&& (1431655765 : Int32))) >>> (Int32.toUInt32 2 &&& Int32.toUInt32 31)).toInt32) &&& (858993459 : Int32))) + ((Int32.toUInt32 (((x0 - (((Int32.toUInt32 x0 >>> (Int32.toUInt32 1 &&& Int32.toUInt32 31)).toInt32) &&& (1431655765 : Int32))) &&& (858993459 : Int32)) + (((Int32.toUInt32 (x0 - (((Int32.toUInt32 x0 >>> (Int32.toUInt32 1 &&& Int32.toUInt32 31)).toInt32) &&& (1431655765 : Int32))) >>> (Int32.toUInt32 2 &&& Int32.toUInt32 31)).toInt32) &&& (858993459 : Int32))) >>> (Int32.toUInt32 4 &&& Int32.toUInt32 31)).toInt32)) &&& (252645135 : Int32)) + ((Int32.toUInt32 (((((x0 - (((Int32.toUInt32 x0 >>> (Int32.toUInt32 1 &&& Int32.toUInt32 31)).toInt32) &&& (1431655765 : Int32))) &&& (858993459 : Int32)) + (((Int32.toUInt32 (x0 - (((Int32.toUInt32 x0 >>> (Int32.toUInt32 1 &&& Int32.toUInt32 31)).toInt32) &&& (1431655765 : Int32))) >>> (Int32.toUInt32 2 &&& Int32.toUInt32 31)).toInt32) &&& (858993459 : Int32))) + ((Int32.toUInt32 (((x0 - (((Int32.toUInt32 x0 >>> (Int32.toUInt32 1 &&& Int32.toUInt32 31)).toInt32) &&& (1431655765 : Int32))) &&& (858993459 : Int32)) + (((Int32.toUInt32 (x0 - (((Int32.toUInt32 x0 >>> (Int32.toUInt32 1 &&& Int32.toUInt32 31)).toInt32) &&& (1431655765 : Int32))) >>> (Int32.toUInt32 2 &&& Int32.toUInt32 31)).toInt32) &&& (858993459 : Int32))) >>> (Int32.toUInt32 4 &&& Int32.toUInt32 31)).toInt32)) &&& (252645135 : Int32)) >>> (Int32.toUInt32 8 &&& Int32.toUInt32 31)).toInt32)) >>> (Int32.toUInt32 16 &&& Int32.toUInt32 31)).toInt32)) &&& (63 : Int32)) hx hb hr (fun t ht hW => ⟨_, rfl, rfl, ht⟩) (fun q hq => absurd hq List.not_mem_nil) dJ6_bitCount_0f7a4_52
/-- Integer.bitCount, as its code has it -/
def bc (x0 : Int32) : Int32 := (((((((x0 - (((Int32.toUInt32 x0 >>> (Int32.toUInt32 1 &&& Int32.toUInt32 31)).toInt32) &&& (1431655765 : Int32))) &&& (858993459 : Int32)) + (((Int32.toUInt32 (x0 - (((Int32.toUInt32 x0 >>> (Int32.toUInt32 1 &&& Int32.toUInt32 31)).toInt32) &&& (1431655765 : Int32))) >>> (Int32.toUInt32 2 &&& Int32.toUInt32 31)).toInt32) &&& (858993459 : Int32))) + ((Int32.toUInt32 (((x0 - (((Int32.toUInt32 x0 >>> (Int32.toUInt32 1 &&& Int32.toUInt32 31)).toInt32) &&& (1431655765 : Int32))) &&& (858993459 : Int32)) + (((Int32.toUInt32 (x0 - (((Int32.toUInt32 x0 >>> (Int32.toUInt32 1 &&& Int32.toUInt32 31)).toInt32) &&& (1431655765 : Int32))) >>> (Int32.toUInt32 2 &&& Int32.toUInt32 31)).toInt32) &&& (858993459 : Int32))) >>> (Int32.toUInt32 4 &&& Int32.toUInt32 31)).toInt32)) &&& (252645135 : Int32)) + ((Int32.toUInt32 (((((x0 - (((Int32.toUInt32 x0 >>> (Int32.toUInt32 1 &&& Int32.toUInt32 31)).toInt32) &&& (1431655765 : Int32))) &&& (858993459 : Int32)) + (((Int32.toUInt32 (x0 - (((Int32.toUInt32 x0 >>> (Int32.toUInt32 1 &&& Int32.toUInt32 31)).toInt32) &&& (1431655765 : Int32))) >>> (Int32.toUInt32 2 &&& Int32.toUInt32 31)).toInt32) &&& (858993459 : Int32))) + ((Int32.toUInt32 (((x0 - (((Int32.toUInt32 x0 >>> (Int32.toUInt32 1 &&& Int32.toUInt32 31)).toInt32) &&& (1431655765 : Int32))) &&& (858993459 : Int32)) + (((Int32.toUInt32 (x0 - (((Int32.toUInt32 x0 >>> (Int32.toUInt32 1 &&& Int32.toUInt32 31)).toInt32) &&& (1431655765 : Int32))) >>> (Int32.toUInt32 2 &&& Int32.toUInt32 31)).toInt32) &&& (858993459 : Int32))) >>> (Int32.toUInt32 4 &&& Int32.toUInt32 31)).toInt32)) &&& (252645135 : Int32)) >>> (Int32.toUInt32 8 &&& Int32.toUInt32 31)).toInt32)) + ((Int32.toUInt32 ((((((x0 - (((Int32.toUInt32 x0 >>> (Int32.toUInt32 1 &&& Int32.toUInt32 31)).toInt32) &&& (1431655765 : Int32))) &&& (858993459 : Int32)) + (((Int32.toUInt32 (x0 - (((Int32.toUInt32 x0 >>> (Int32.toUInt32 1 &&& Int32.toUInt32 31)).toInt32) &&& (1431655765 : Int32))) >>> (Int32.toUInt32 2 &&& Int32.toUInt32 31)).toInt32) &&& (858993459 : Int32))) + ((Int32.toUInt32 (((x0 - (((Int32.toUInt32 x0 >>> (Int32.toUInt32 1 &&& Int32.toUInt32 31)).toInt32) &&& (1431655765 : Int32))) &&& (858993459 : Int32)) + (((Int32.toUInt32 (x0 - (((Int32.toUInt32 x0 >>> (Int32.toUInt32 1 &&& Int32.toUInt32 31)).toInt32) &&& (1431655765 : Int32))) >>> (Int32.toUInt32 2 &&& Int32.toUInt32 31)).toInt32) &&& (858993459 : Int32))) >>> (Int32.toUInt32 4 &&& Int32.toUInt32 31)).toInt32)) &&& (252645135 : Int32)) + ((Int32.toUInt32 (((((x0 - (((Int32.toUInt32 x0 >>> (Int32.toUInt32 1 &&& Int32.toUInt32 31)).toInt32) &&& (1431655765 : Int32))) &&& (858993459 : Int32)) + (((Int32.toUInt32 (x0 - (((Int32.toUInt32 x0 >>> (Int32.toUInt32 1 &&& Int32.toUInt32 31)).toInt32) &&& (1431655765 : Int32))) >>> (Int32.toUInt32 2 &&& Int32.toUInt32 31)).toInt32) &&& (858993459 : Int32))) + ((Int32.toUInt32 (((x0 - (((Int32.toUInt32 x0 >>> (Int32.toUInt32 1 &&& Int32.toUInt32 31)).toInt32) &&& (1431655765 : Int32))) &&& (858993459 : Int32)) + (((Int32.toUInt32 (x0 - (((Int32.toUInt32 x0 >>> (Int32.toUInt32 1 &&& Int32.toUInt32 31)).toInt32) &&& (1431655765 : Int32))) >>> (Int32.toUInt32 2 &&& Int32.toUInt32 31)).toInt32) &&& (858993459 : Int32))) >>> (Int32.toUInt32 4 &&& Int32.toUInt32 31)).toInt32)) &&& (252645135 : Int32)) >>> (Int32.toUInt32 8 &&& Int32.toUInt32 31)).toInt32)) >>> (Int32.toUInt32 16 &&& Int32.toUInt32 31)).toInt32)) &&& (63 : Int32)
theorem fa_and (a b : Nat) : nI a &&& nI b = nI (a &&& b) := by
  apply Int32.toBitVec_inj.1
  show BitVec.ofNat 32 a &&& BitVec.ofNat 32 b = BitVec.ofNat 32 (a &&& b)
  apply BitVec.eq_of_getLsbD_eq
  intro i hi
  simp [hi]
set_option maxRecDepth 1000000 in
theorem bc_all : (List.range 4096).all (fun n => decide (n = 0 ∨ bc (nI (n &&& (n - 1))) + 1 = bc (nI n))) = true := by decide +kernel
theorem bc_step {n : Nat} (h : n < 4096) (h0 : n ≠ 0) : bc (nI (n &&& (n - 1))) + 1 = bc (nI n) := (co_dec (P := fun n => n = 0 ∨ bc (nI (n &&& (n - 1))) + 1 = bc (nI n)) bc_all h).resolve_left h0
theorem bc_0 : bc (nI 0) = 0 := by decide
theorem bt1_eq : ∀ b, b < 12 → bt1 b = nI (2 ^ b) := by decide +kernel
theorem dX12_bits_11 : decode cX12_bits 11 = .ok (.iload_n 2, 1) := by decide +kernel
theorem dX12_bits_12 : decode cX12_bits 12 = .ok (.iload_n 2, 1) := by decide +kernel
theorem dX12_bits_13 : decode cX12_bits 13 = .ok (.iconst 1, 1) := by decide +kernel
theorem dX12_bits_14 : decode cX12_bits 14 = .ok (.isub, 1) := by decide +kernel
theorem dX12_bits_15 : decode cX12_bits 15 = .ok (.iand, 1) := by decide +kernel
theorem dX12_bits_16 : decode cX12_bits 16 = .ok (.istore_n 2, 1) := by decide +kernel
theorem dX12_bits_17 : decode cX12_bits 17 = .ok (.goto (-13), 3) := by decide +kernel
theorem dX12_bits_8 : decode cX12_bits 8 = .ok (.iinc 1 1, 3) := by decide +kernel
set_option maxHeartbeats 4000000 in
set_option maxRecDepth 100000 in
theorem c_bits (l : Launch) (D : va_G) (cI cS : ClassId) (n : Nat) (hn : n < 4096) : Met l yX12_bits wsX12_bits ({ frames := 0, cells := 0, slots := 0, locals := 0 }) (PS D cI cS [] [.int (nI n)]) (vp_Si (fun r => r = bc (nI n))) 0 0 (fun _ => False) := by
  refine Met.ofW (cc := cX12_bits) (maxL := 3) (ret := (some .int)) (by decide) rfl ?_
  intro p e s m args below meth c s₁ B hml hv
  obtain ⟨rfl, hP, hKK⟩ := hv
  have hx := B.exec
  have hb := B.bytes
  have hr := B.returns
  have hts := atoms_spec (ws := wsX12_bits) B.pre
  have hown : s.vm.findClass RX12 = some m.cls := findClass_of_methodNamed B.named
  have hlocks := B.notSynchronized
  have hK := hKK.1
  have hN := hKK.2
  have hl := lv_entry ([.int (nI n)]) (n := 3) (Nat.le_of_ble_eq_true rfl)
  rw [lg_entry_eq]
  generalize (lg_sl ([.int (nI n)]) ++ List.replicate (3 - (lg_sl ([.int (nI n)])).length) Slot.unset).toArray = ls at hl ⊢
  have hl : lv_has ls 3 [(0, .int (nI n))] := hl
  have lp : ∀ (r left : Nat) (cn : Int32), left ≤ r → left < 4096 → cn + bc (nI left) = bc (nI n) → ∀ (ls : Array Slot), lv_has ls 3 [(2, .int (nI left)), (1, .int cn), (0, .int (nI n))] → W p l e (headSpec wsX12_bits ({ frames := 0, cells := 0, slots := 0, locals := 0 })).room s m ([.int (nI n)]).toArray below meth c s.heap [] 0 0 (MQ below (vp_Si (fun r => r = bc (nI n))) ([.int (nI n)]).toArray s 0 0 (fun _ => False)) (F0 m 4 ls []) := by
    intro r
    induction r with
    | zero =>
      intro left cn hr0 hl4 he ls hl
      obtain rfl : left = 0 := by omega
      refine lv_iload_n hx hb dX12_bits_4 rfl (lv_at hl 0 rfl) ?_
      refine lv_if_eq (tgt := 20) hx hb dX12_bits_5 (by decide) (fun c5083 => ?_) (fun c5083 => ?_)
      · refine lv_iload_n hx hb dX12_bits_20 rfl (lv_at hl 1 rfl) ?_
        exact W.iret (v := cn) hx hb hr (fun t ht hW => ⟨_, rfl, by rw [← he, bc_0]; simp, ht⟩) (fun q hq => absurd hq List.not_mem_nil) dX12_bits_21
      · exact absurd nI_0 c5083
    | succ r ih =>
      intro left cn hr0 hl4 he ls hl
      by_cases h0 : left = 0
      · subst h0
        refine lv_iload_n hx hb dX12_bits_4 rfl (lv_at hl 0 rfl) ?_
        refine lv_if_eq (tgt := 20) hx hb dX12_bits_5 (by decide) (fun c5084 => ?_) (fun c5084 => ?_)
        · refine lv_iload_n hx hb dX12_bits_20 rfl (lv_at hl 1 rfl) ?_
          exact W.iret (v := cn) hx hb hr (fun t ht hW => ⟨_, rfl, by rw [← he, bc_0]; simp, ht⟩) (fun q hq => absurd hq List.not_mem_nil) dX12_bits_21
        · exact absurd nI_0 c5084
      · refine lv_iload_n hx hb dX12_bits_4 rfl (lv_at hl 0 rfl) ?_
        refine lv_if_eq (tgt := 20) hx hb dX12_bits_5 (by decide) (fun c5085 => ?_) (fun c5085 => ?_)
        · exact absurd c5085 (nI_ne0 (by omega) (by omega))
        · refine lv_iinc (v := cn + 1) (lv' := [(1, .int (cn + 1)), (2, .int (nI left)), (0, .int (nI n))]) hx hb dX12_bits_8 hl (k := 1) rfl (by rfl) (by decide) rfl (fun ls hl => ?_)
          refine lv_iload_n hx hb dX12_bits_11 rfl (lv_at hl 1 rfl) ?_
          refine lv_iload_n hx hb dX12_bits_12 rfl (lv_at hl 1 rfl) ?_
          refine lv_iconst (v := 1) hx hb dX12_bits_13 (by decide) ?_
          refine lv_isub hx hb dX12_bits_14 ?_
          refine lz_top (y := (nI (left - 1))) ((show nI left - 1 = nI (left - 1) from by rw [show left = (left - 1) + 1 by omega]; exact nI_pred _)) ?_
          refine lv_iand hx hb dX12_bits_15 ?_
          refine lz_top (y := (nI (left &&& (left - 1)))) (fa_and _ _) ?_
          refine lv_istore_n (lv' := [(2, .int (nI (left &&& (left - 1)))), (1, .int (cn + 1)), (0, .int (nI n))]) hx hb dX12_bits_16 rfl hl (by decide) rfl (fun ls hl => ?_)
          refine lv_goto (tgt := 4) hx hb dX12_bits_17 (by decide) ?_
          exact ih (left &&& (left - 1)) (cn + 1) (by have := Nat.and_le_right (n := left) (m := left - 1); omega) (by have := Nat.and_le_left (n := left) (m := left - 1); omega) (by rw [← he, ← bc_step hl4 h0, Int32.add_assoc, Int32.add_comm 1]) ls hl
  refine lv_iconst (v := 0) hx hb dX12_bits_0 (by decide) ?_
  refine lv_istore_n (lv' := [(1, .int 0), (0, .int (nI n))]) hx hb dX12_bits_1 rfl hl (by decide) rfl (fun ls hl => ?_)
  refine lv_iload_n hx hb dX12_bits_2 rfl (lv_at hl 1 rfl) ?_
  refine lv_istore_n (lv' := [(2, .int (nI n)), (1, .int 0), (0, .int (nI n))]) hx hb dX12_bits_3 rfl hl (by decide) rfl (fun ls hl => ?_)
  exact lp n n 0 (Nat.le_refl _) hn (by simp) ls hl
set_option maxRecDepth 20000 in
theorem ggX12_lines_X12_bits : GoodIn wsX12_lines wsX12_bits := goodIn_r _ [6] rfl (by decide +kernel)
set_option maxRecDepth 20000 in
theorem gX12_lines_X12_bits : GoodIn wsX12_lines (va_wsS RX12 85 yX12_bits wsX12_bits) := goodIn_app (goodIn_of _ (by decide +kernel)) ggX12_lines_X12_bits
theorem dX12_lines_12 : decode cX12_lines 12 = .ok (.iload_n 1, 1) := by decide +kernel
theorem dX12_lines_13 : decode cX12_lines 13 = .ok (.aload_n 0, 1) := by decide +kernel
theorem dX12_lines_14 : decode cX12_lines 14 = .ok (.getfield 13, 3) := by decide +kernel
theorem dX12_lines_17 : decode cX12_lines 17 = .ok (.iload_n 2, 1) := by decide +kernel
theorem dX12_lines_18 : decode cX12_lines 18 = .ok (.iaload, 1) := by decide +kernel
theorem dX12_lines_19 : decode cX12_lines 19 = .ok (.invokestatic 85, 3) := by decide +kernel
theorem dX12_lines_22 : decode cX12_lines 22 = .ok (.iadd, 1) := by decide +kernel
theorem dX12_lines_23 : decode cX12_lines 23 = .ok (.istore_n 1, 1) := by decide +kernel
theorem dX12_lines_24 : decode cX12_lines 24 = .ok (.iinc 2 1, 3) := by decide +kernel
theorem dX12_lines_27 : decode cX12_lines 27 = .ok (.goto (-23), 3) := by decide +kernel
set_option maxRecDepth 20000 in
theorem ggX2_lineCount_J6_bitCount_0f7a4 : GoodIn wsX2_lineCount wsJ6_bitCount_0f7a4 := goodIn_r _ [6, 7, 8, 9] rfl (by decide +kernel)
set_option maxRecDepth 20000 in
theorem gX2_lineCount_J6_bitCount_0f7a4 : GoodIn wsX2_lineCount (va_wsS RX2 65 yJ6_bitCount_0f7a4 wsJ6_bitCount_0f7a4) := goodIn_app (goodIn_of _ (by decide +kernel)) ggX2_lineCount_J6_bitCount_0f7a4
theorem dX2_lineCount_12 : decode cX2_lineCount 12 = .ok (.iload_n 1, 1) := by decide +kernel
theorem dX2_lineCount_13 : decode cX2_lineCount 13 = .ok (.aload_n 0, 1) := by decide +kernel
theorem dX2_lineCount_14 : decode cX2_lineCount 14 = .ok (.getfield 9, 3) := by decide +kernel
theorem dX2_lineCount_17 : decode cX2_lineCount 17 = .ok (.iload_n 2, 1) := by decide +kernel
theorem dX2_lineCount_18 : decode cX2_lineCount 18 = .ok (.iaload, 1) := by decide +kernel
theorem dX2_lineCount_19 : decode cX2_lineCount 19 = .ok (.invokestatic 65, 3) := by decide +kernel
theorem dX2_lineCount_22 : decode cX2_lineCount 22 = .ok (.iadd, 1) := by decide +kernel
theorem dX2_lineCount_23 : decode cX2_lineCount 23 = .ok (.istore_n 1, 1) := by decide +kernel
theorem dX2_lineCount_24 : decode cX2_lineCount 24 = .ok (.iinc 2 1, 3) := by decide +kernel
theorem dX2_lineCount_27 : decode cX2_lineCount 27 = .ok (.goto (-23), 3) := by decide +kernel
set_option maxRecDepth 20000 in
theorem ggX12_deal_X12_in : GoodIn wsX12_deal wsX12_in := goodIn_r _ [4] rfl (by decide +kernel)
set_option maxRecDepth 20000 in
theorem gX12_deal_X12_in : GoodIn wsX12_deal (va_wsS RX12 66 yX12_in wsX12_in) := goodIn_app (goodIn_of _ (by decide +kernel)) ggX12_deal_X12_in
theorem dX12_deal_0 : decode cX12_deal 0 = .ok (.iload_n 1, 1) := by decide +kernel
theorem dX12_deal_1 : decode cX12_deal 1 = .ok (.iconst 0, 1) := by decide +kernel
theorem dX12_deal_10 : decode cX12_deal 10 = .ok (.iload_n 2, 1) := by decide +kernel
theorem dX12_deal_11 : decode cX12_deal 11 = .ok (.iconst 0, 1) := by decide +kernel
theorem dX12_deal_12 : decode cX12_deal 12 = .ok (.bipush 10, 2) := by decide +kernel
theorem dX12_deal_14 : decode cX12_deal 14 = .ok (.invokestatic 66, 3) := by decide +kernel
theorem dX12_deal_17 : decode cX12_deal 17 = .ok (.ifCond .ne 6, 3) := by decide +kernel
theorem dX12_deal_2 : decode cX12_deal 2 = .ok (.bipush 12, 2) := by decide +kernel
theorem dX12_deal_20 : decode cX12_deal 20 = .ok (.bipush (-2), 2) := by decide +kernel
theorem dX12_deal_22 : decode cX12_deal 22 = .ok (.ireturn, 1) := by decide +kernel
theorem dX12_deal_4 : decode cX12_deal 4 = .ok (.invokestatic 66, 3) := by decide +kernel
theorem dX12_deal_7 : decode cX12_deal 7 = .ok (.ifCond .eq 13, 3) := by decide +kernel
set_option maxRecDepth 20000 in
theorem ggX12_deal_X12_deals : GoodIn wsX12_deal wsX12_deals := goodIn_r _ (8 :: 9 :: 10 :: 11 :: 12 :: 13 :: 3 :: 14 :: 15 :: 16 :: 17 :: 18 :: 19 :: 20 :: 28 :: 29 :: 30 :: 31 :: 32 :: 33 :: 34 :: 35 :: 36 :: 37 :: 38 :: 39 :: 40 :: 41 :: 42 :: 43 :: 44 :: 45 :: 46 :: 47 :: 48 :: 49 :: 50 :: 51 :: []) rfl (by decide +kernel)
set_option maxRecDepth 20000 in
theorem gX12_deal_X12_deals : GoodIn wsX12_deal (wsV RX12 219 RX12 yX12_deals wsX12_deals) := goodIn_app (goodIn_of _ (by decide +kernel)) ggX12_deal_X12_deals
set_option maxRecDepth 20000 in
theorem ggX12_deal_X12_lines : GoodIn wsX12_deal wsX12_lines := goodIn_r _ (24 :: 9 :: 10 :: 25 :: 26 :: 3 :: 27 :: 28 :: 29 :: 30 :: 31 :: 32 :: 33 :: 34 :: 35 :: 36 :: 37 :: 38 :: 39 :: 40 :: 41 :: 42 :: 43 :: 44 :: 45 :: 46 :: 47 :: 48 :: 49 :: 50 :: 51 :: []) rfl (by decide +kernel)
set_option maxRecDepth 20000 in
theorem gX12_deal_X12_lines : GoodIn wsX12_deal (wsV RX12 89 RX12 yX12_lines wsX12_lines) := goodIn_app (goodIn_of _ (by decide +kernel)) ggX12_deal_X12_lines
theorem dX12_deal_23 : decode cX12_deal 23 = .ok (.aload_n 0, 1) := by decide +kernel
theorem dX12_deal_24 : decode cX12_deal 24 = .ok (.iload_n 1, 1) := by decide +kernel
theorem dX12_deal_25 : decode cX12_deal 25 = .ok (.iload_n 2, 1) := by decide +kernel
theorem dX12_deal_26 : decode cX12_deal 26 = .ok (.invokevirtual 219, 3) := by decide +kernel
theorem dX12_deal_29 : decode cX12_deal 29 = .ok (.aload_n 0, 1) := by decide +kernel
theorem dX12_deal_30 : decode cX12_deal 30 = .ok (.invokevirtual 89, 3) := by decide +kernel
theorem dX12_deal_33 : decode cX12_deal 33 = .ok (.ireturn, 1) := by decide +kernel
def tb (s : Nat) : Nat → Bool := fun i => s.testBit i
/-- a set without a point -/
def rmN (s q : Nat) : Nat := s &&& (4095 ^^^ 2 ^ q)
theorem rmN_bit {s q i : Nat} (hi : i < 12) : (rmN s q).testBit i = (s.testBit i && decide (i ≠ q)) := by
  unfold rmN
  rw [Nat.testBit_and, Nat.testBit_xor, Nat.testBit_two_pow, show (4095 : Nat) = 2 ^ 12 - 1 from rfl, Nat.testBit_two_pow_sub_one]
  by_cases h : q = i
  · simp [h, hi]
  · simp [h, hi, Ne.symm h]
theorem rmN_lt {s q : Nat} (h : s < 4096) : rmN s q < 4096 := Nat.lt_of_le_of_lt Nat.and_le_left h
theorem rmN_I {s q : Nat} (hs : s < 4096) (hq : q < 12) : nI s &&& (bt1 q ^^^ (-1)) = nI (rmN s q) := by
  apply Int32.toBitVec_inj.1
  show BitVec.ofNat 32 s &&& ((bt1 q).toBitVec ^^^ (-1 : Int32).toBitVec) = BitVec.ofNat 32 (rmN s q)
  apply BitVec.eq_of_getLsbD_eq
  intro i hi
  have h1 : ((-1 : Int32).toBitVec).getLsbD i = true := by
    have e : (-1 : Int32).toBitVec = BitVec.allOnes 32 := by decide
    rw [e, BitVec.getLsbD_allOnes]
    exact decide_eq_true hi
  have h2 : (bt1 q).toBitVec.getLsbD i = (2 ^ q).testBit i := by
    rw [bt1_eq q hq]
    show (BitVec.ofNat 32 (2 ^ q)).getLsbD i = _
    rw [BitVec.getLsbD_ofNat, decide_eq_true hi, Bool.true_and]
  simp only [BitVec.getLsbD_and, BitVec.getLsbD_xor, h1, h2, BitVec.getLsbD_ofNat, hi, decide_true, Bool.true_and]
  by_cases h12 : i < 12
  · rw [rmN_bit h12, Nat.testBit_two_pow]
    by_cases e : q = i
    · simp [e]
    · simp [e, Ne.symm e]
  · have z : s.testBit i = false := Nat.testBit_lt_two_pow (Nat.lt_of_lt_of_le hs (Nat.pow_le_pow_right (show 2 > 0 by decide) (show 12 ≤ i by omega) : 2 ^ 12 ≤ 2 ^ i))
    have z2 : (rmN s q).testBit i = false := Nat.testBit_lt_two_pow (Nat.lt_of_lt_of_le (rmN_lt hs) (Nat.pow_le_pow_right (show 2 > 0 by decide) (show 12 ≤ i by omega) : 2 ^ 12 ≤ 2 ^ i))
    rw [z, z2]
    rfl
/-- a bit, as the machine asks for it -/
theorem bit_ask {v q : Nat} (hv : v < 4096) (hq : q < 12) : (nI v >>> (nI q &&& 31)) &&& 1 = if v.testBit q then 1 else 0 := by
  have e1 : nI v >>> (nI q &&& 31) = nI (v / 2 ^ q) := pk_shrN (by omega) _ q (by
    have : ∀ q, q < 12 → ((nI q &&& 31).toBitVec.smod 32).toNat = q := by decide
    exact this q hq)
  rw [e1, show (1 : Int32) = nI 1 from rfl, fa_and, Nat.and_one_is_mod]
  have e2 : v.testBit q = decide (v / 2 ^ q % 2 = 1) := Nat.testBit_eq_decide_div_mod_eq
  rw [e2]
  rcases Nat.mod_two_eq_zero_or_one (v / 2 ^ q) with h | h <;> simp [h] <;> rfl
/-- the least point of a set -/
def lo (s : Nat) : Nat := (List.range 12).findIdx (fun i => s.testBit i)
set_option maxRecDepth 1000000 in
theorem lo_all : (List.range 4096).all (fun s => decide (s = 0 ∨ (lo s < 12 ∧ s.testBit (lo s) = true ∧ s &&& (s - 1) = rmN s (lo s)))) = true := by decide +kernel
theorem lo_of {s : Nat} (h : s < 4096) (h0 : s ≠ 0) : lo s < 12 ∧ s.testBit (lo s) = true ∧ s &&& (s - 1) = rmN s (lo s) := (co_dec (P := fun s => s = 0 ∨ (lo s < 12 ∧ s.testBit (lo s) = true ∧ s &&& (s - 1) = rmN s (lo s))) lo_all h).resolve_left h0
theorem lo_least {s i : Nat} (h : i < lo s) : s.testBit i = false := by
  have h1 : i < (List.range 12).length := by
    have := List.findIdx_le_length (xs := List.range 12) (p := fun i => s.testBit i)
    unfold lo at h
    omega
  have h2 := List.not_of_lt_findIdx (xs := List.range 12) (p := fun i => s.testBit i) (i := i) h
  simpa using h2
set_option maxRecDepth 1000000 in
theorem bc_cnt_all : (List.range 4096).all (fun s => decide (bc (nI s) = nI (ncn (tb s) 12))) = true := by decide +kernel
theorem bc_cnt {s : Nat} (h : s < 4096) : bc (nI s) = nI (ncn (tb s) 12) := co_dec (P := fun s => bc (nI s) = nI (ncn (tb s) 12)) bc_cnt_all h
theorem all_eq : ∀ k, k < 13 → ((1 : Int32) <<< (nI k &&& 31)) - (1 : Int32) = nI (2 ^ k - 1) := by decide
theorem ncn_le (S : Nat → Bool) : ∀ k, ncn S k ≤ k
  | 0 => Nat.le_refl _
  | k + 1 => by
    show ncn S k + (if S k then 1 else 0) ≤ k + 1
    have := ncn_le S k
    split <;> omega
theorem dX12_has_0 : decode cX12_has 0 = .ok (.iload_n 0, 1) := by decide +kernel
theorem dX12_has_1 : decode cX12_has 1 = .ok (.iload_n 1, 1) := by decide +kernel
theorem dX12_has_10 : decode cX12_has 10 = .ok (.goto 4, 3) := by decide +kernel
theorem dX12_has_14 : decode cX12_has 14 = .ok (.ireturn, 1) := by decide +kernel
theorem dX12_has_2 : decode cX12_has 2 = .ok (.ishr, 1) := by decide +kernel
theorem dX12_has_3 : decode cX12_has 3 = .ok (.iconst 1, 1) := by decide +kernel
theorem dX12_has_4 : decode cX12_has 4 = .ok (.iand, 1) := by decide +kernel
theorem dX12_has_5 : decode cX12_has 5 = .ok (.iconst 1, 1) := by decide +kernel
theorem dX12_has_6 : decode cX12_has 6 = .ok (.if_icmp .ne 7, 3) := by decide +kernel
theorem dX12_has_9 : decode cX12_has 9 = .ok (.iconst 1, 1) := by decide +kernel
theorem dX12_has_13 : decode cX12_has 13 = .ok (.iconst 0, 1) := by decide +kernel
set_option maxHeartbeats 4000000 in
set_option maxRecDepth 100000 in
theorem c_has1 (l : Launch) (D : va_G) (cI cS : ClassId) (v q : Nat) (hv : v < 4096) (hq : q < 12) (hbit : v.testBit q = true) : Met l yX12_has wsX12_has ({ frames := 0, cells := 0, slots := 0, locals := 0 }) (PS D cI cS [] [.int (nI v), .int (nI q)]) (vp_Si (fun r => r = 1)) 0 0 (fun _ => False) := by
  refine Met.ofW (cc := cX12_has) (maxL := 2) (ret := (some .boolean)) (by decide) rfl ?_
  intro p e s m args below meth c s₁ B hml hv
  obtain ⟨rfl, hP, hKK⟩ := hv
  have hx := B.exec
  have hb := B.bytes
  have hr := B.returns
  have hts := atoms_spec (ws := wsX12_has) B.pre
  have hown : s.vm.findClass RX12 = some m.cls := findClass_of_methodNamed B.named
  have hlocks := B.notSynchronized
  have hK := hKK.1
  have hN := hKK.2
  have hl := lv_entry ([.int (nI v), .int (nI q)]) (n := 2) (Nat.le_of_ble_eq_true rfl)
  rw [lg_entry_eq]
  generalize (lg_sl ([.int (nI v), .int (nI q)]) ++ List.replicate (2 - (lg_sl ([.int (nI v), .int (nI q)])).length) Slot.unset).toArray = ls at hl ⊢
  have hl : lv_has ls 2 [(0, .int (nI v)), (1, .int (nI q))] := hl
  refine lv_iload_n hx hb dX12_has_0 rfl (lv_at hl 0 rfl) ?_
  refine lv_iload_n hx hb dX12_has_1 rfl (lv_at hl 1 rfl) ?_
  refine lv_ishr hx hb dX12_has_2 ?_
  refine lv_iconst (v := 1) hx hb dX12_has_3 (by decide) ?_
  refine lv_iand hx hb dX12_has_4 ?_
  refine lz_top (y := 1) (by rw [bit_ask hv hq, hbit]; rfl) ?_
  refine lv_iconst (v := 1) hx hb dX12_has_5 (by decide) ?_
  refine lv_icmp_ne (tgt := 13) hx hb dX12_has_6 (by decide) (fun c5129 => ?_) (fun c5129 => ?_)
  · exact absurd c5129 (by decide)
  · refine lv_iconst (v := 1) hx hb dX12_has_9 (by decide) ?_
    refine lv_goto (tgt := 14) hx hb dX12_has_10 (by decide) ?_
    exact W.zret (v := 1) hx hb hr (by decide) (fun t ht hW => ⟨_, rfl, rfl, ht⟩) (fun q hq => absurd hq List.not_mem_nil) dX12_has_14
set_option maxHeartbeats 4000000 in
set_option maxRecDepth 100000 in
theorem c_has0 (l : Launch) (D : va_G) (cI cS : ClassId) (v q : Nat) (hv : v < 4096) (hq : q < 12) (hbit : v.testBit q = false) : Met l yX12_has wsX12_has ({ frames := 0, cells := 0, slots := 0, locals := 0 }) (PS D cI cS [] [.int (nI v), .int (nI q)]) (vp_Si (fun r => r = 0)) 0 0 (fun _ => False) := by
  refine Met.ofW (cc := cX12_has) (maxL := 2) (ret := (some .boolean)) (by decide) rfl ?_
  intro p e s m args below meth c s₁ B hml hv
  obtain ⟨rfl, hP, hKK⟩ := hv
  have hx := B.exec
  have hb := B.bytes
  have hr := B.returns
  have hts := atoms_spec (ws := wsX12_has) B.pre
  have hown : s.vm.findClass RX12 = some m.cls := findClass_of_methodNamed B.named
  have hlocks := B.notSynchronized
  have hK := hKK.1
  have hN := hKK.2
  have hl := lv_entry ([.int (nI v), .int (nI q)]) (n := 2) (Nat.le_of_ble_eq_true rfl)
  rw [lg_entry_eq]
  generalize (lg_sl ([.int (nI v), .int (nI q)]) ++ List.replicate (2 - (lg_sl ([.int (nI v), .int (nI q)])).length) Slot.unset).toArray = ls at hl ⊢
  have hl : lv_has ls 2 [(0, .int (nI v)), (1, .int (nI q))] := hl
  refine lv_iload_n hx hb dX12_has_0 rfl (lv_at hl 0 rfl) ?_
  refine lv_iload_n hx hb dX12_has_1 rfl (lv_at hl 1 rfl) ?_
  refine lv_ishr hx hb dX12_has_2 ?_
  refine lv_iconst (v := 1) hx hb dX12_has_3 (by decide) ?_
  refine lv_iand hx hb dX12_has_4 ?_
  refine lz_top (y := 0) (by rw [bit_ask hv hq, hbit]; rfl) ?_
  refine lv_iconst (v := 1) hx hb dX12_has_5 (by decide) ?_
  refine lv_icmp_ne (tgt := 13) hx hb dX12_has_6 (by decide) (fun c5130 => ?_) (fun c5130 => ?_)
  · refine lv_iconst (v := 0) hx hb dX12_has_13 (by decide) ?_
    exact W.zret (v := 0) hx hb hr (by decide) (fun t ht hW => ⟨_, rfl, rfl, ht⟩) (fun q hq => absurd hq List.not_mem_nil) dX12_has_14
  · exact absurd c5130 (by decide)
set_option maxRecDepth 20000 in
theorem ggX12_first_X12_has : GoodIn wsX12_first wsX12_has := goodIn_r _ [4] rfl (by decide +kernel)
set_option maxRecDepth 20000 in
theorem gX12_first_X12_has : GoodIn wsX12_first (va_wsS RX12 59 yX12_has wsX12_has) := goodIn_app (goodIn_of _ (by decide +kernel)) ggX12_first_X12_has
theorem dX12_first_16 : decode cX12_first 16 = .ok (.iload_n 1, 1) := by decide +kernel
theorem dX12_first_17 : decode cX12_first 17 = .ok (.ireturn, 1) := by decide +kernel
theorem dX12_first_2 : decode cX12_first 2 = .ok (.iload_n 0, 1) := by decide +kernel
theorem dX12_first_3 : decode cX12_first 3 = .ok (.iload_n 1, 1) := by decide +kernel
theorem dX12_first_4 : decode cX12_first 4 = .ok (.invokestatic 59, 3) := by decide +kernel
theorem dX12_first_7 : decode cX12_first 7 = .ok (.ifCond .ne 9, 3) := by decide +kernel
theorem dX12_first_10 : decode cX12_first 10 = .ok (.iinc 1 1, 3) := by decide +kernel
theorem dX12_first_13 : decode cX12_first 13 = .ok (.goto (-11), 3) := by decide +kernel
theorem dX12_first_0 : decode cX12_first 0 = .ok (.iconst 0, 1) := by decide +kernel
theorem dX12_first_1 : decode cX12_first 1 = .ok (.istore_n 1, 1) := by decide +kernel
set_option maxHeartbeats 4000000 in
set_option maxRecDepth 100000 in
theorem c_first (l : Launch) (D : va_G) (cI cS : ClassId) (n : Nat) (hn : n < 4096) (hn0 : n ≠ 0) : Met l yX12_first wsX12_first ({ frames := 1, cells := 0, slots := 0, locals := 40 }) (PS D cI cS [] [.int (nI n)]) (vp_Si (fun r => r = nI (lo n))) 0 0 (fun _ => False) := by
  refine Met.ofW (cc := cX12_first) (maxL := 2) (ret := (some .int)) (by decide) rfl ?_
  intro p e s m args below meth c s₁ B hml hv
  obtain ⟨rfl, hP, hKK⟩ := hv
  have hx := B.exec
  have hb := B.bytes
  have hr := B.returns
  have hts := atoms_spec (ws := wsX12_first) B.pre
  have hown : s.vm.findClass RX12 = some m.cls := findClass_of_methodNamed B.named
  have hlocks := B.notSynchronized
  have hK := hKK.1
  have hN := hKK.2
  have hl := lv_entry ([.int (nI n)]) (n := 2) (Nat.le_of_ble_eq_true rfl)
  rw [lg_entry_eq]
  generalize (lg_sl ([.int (nI n)]) ++ List.replicate (2 - (lg_sl ([.int (nI n)])).length) Slot.unset).toArray = ls at hl ⊢
  have hl : lv_has ls 2 [(0, .int (nI n))] := hl
  have hlo := lo_of hn hn0
  have lp : ∀ (r q : Nat), q + r = lo n → ∀ (ls : Array Slot), lv_has ls 2 [(1, .int (nI q)), (0, .int (nI n))] → W p l e (headSpec wsX12_first ({ frames := 1, cells := 0, slots := 0, locals := 40 })).room s m ([.int (nI n)]).toArray below meth c s.heap [] 0 0 (MQ below (vp_Si (fun r => r = nI (lo n))) ([.int (nI n)]).toArray s 0 0 (fun _ => False)) (F0 m 2 ls []) := by
    intro r
    induction r with
    | zero =>
      intro q hq ls hl
      refine lv_iload_n hx hb dX12_first_2 rfl (lv_at hl 1 rfl) ?_
      refine lv_iload_n hx hb dX12_first_3 rfl (lv_at hl 0 rfl) ?_
      have hPc := hP.sub (ws' := []) [] rfl
      refine lz_ss (As := [.int (nI n), .int (nI q)]) (rest := []) ⟨hx, hb, hml, hown, hts⟩ (c_has1 l D cI cS n q hn (by omega) (by rw [show q = lo n by omega]; exact hlo.2.1)) hKK hPc (va_cwS 2 hts gX12_first_X12_has rfl rfl rfl (by decide +kernel) ⟨Nat.le_of_ble_eq_true rfl, Nat.le_of_ble_eq_true rfl⟩) rfl hl.1 rfl (Nat.le_of_ble_eq_true rfl) dX12_first_4 ⟨Nat.le_of_ble_eq_true rfl, Nat.le_of_ble_eq_true rfl⟩ (fun r9 hw => ?_)
      subst hw
      refine lv_if_ne (tgt := 16) hx hb dX12_first_7 (by decide) (fun c5131 => ?_) (fun c5131 => ?_)
      · refine lv_iload_n hx hb dX12_first_16 rfl (lv_at hl 0 rfl) ?_
        exact W.iret (v := nI q) hx hb hr (fun t ht hW => ⟨_, rfl, by rw [show q = lo n by omega], ht⟩) (fun q hq => absurd hq List.not_mem_nil) dX12_first_17
      · exact absurd c5131 (by decide)
    | succ r ih =>
      intro q hq ls hl
      refine lv_iload_n hx hb dX12_first_2 rfl (lv_at hl 1 rfl) ?_
      refine lv_iload_n hx hb dX12_first_3 rfl (lv_at hl 0 rfl) ?_
      have hPc := hP.sub (ws' := []) [] rfl
      refine lz_ss (As := [.int (nI n), .int (nI q)]) (rest := []) ⟨hx, hb, hml, hown, hts⟩ (c_has0 l D cI cS n q hn (by omega) (lo_least (by omega))) hKK hPc (va_cwS 2 hts gX12_first_X12_has rfl rfl rfl (by decide +kernel) ⟨Nat.le_of_ble_eq_true rfl, Nat.le_of_ble_eq_true rfl⟩) rfl hl.1 rfl (Nat.le_of_ble_eq_true rfl) dX12_first_4 ⟨Nat.le_of_ble_eq_true rfl, Nat.le_of_ble_eq_true rfl⟩ (fun r9 hw => ?_)
      subst hw
      refine lv_if_ne (tgt := 16) hx hb dX12_first_7 (by decide) (fun c5132 => ?_) (fun c5132 => ?_)
      · exact absurd c5132 (by decide)
      · refine lv_iinc (v := (nI (q + 1))) (lv' := [(1, .int (nI (q + 1))), (0, .int (nI n))]) hx hb dX12_first_10 hl (k := 0) rfl (nI_1 _) (by decide) rfl (fun ls hl => ?_)
        refine lv_goto (tgt := 2) hx hb dX12_first_13 (by decide) ?_
        exact ih (q + 1) (by omega) ls hl
  refine lv_iconst (v := 0) hx hb dX12_first_0 (by decide) ?_
  refine lv_istore_n (lv' := [(1, .int 0), (0, .int (nI n))]) hx hb dX12_first_1 rfl hl (by decide) rfl (fun ls hl => ?_)
  exact lp (lo n) 0 (by omega) ls (by rw [nI_0]; exact hl)
theorem dX12_reckons_155 : decode cX12_reckons 155 = .ok (.iload 4, 2) := by decide +kernel
theorem dX12_reckons_157 : decode cX12_reckons 157 = .ok (.aload_n 0, 1) := by decide +kernel
theorem dX12_reckons_158 : decode cX12_reckons 158 = .ok (.getfield 63, 3) := by decide +kernel
theorem dX12_reckons_161 : decode cX12_reckons 161 = .ok (.if_icmp .ge 71, 3) := by decide +kernel
theorem dX12_reckons_232 : decode cX12_reckons 232 = .ok (.iinc 1 1, 3) := by decide +kernel
theorem dX12_reckons_235 : decode cX12_reckons 235 = .ok (.goto (-226), 3) := by decide +kernel
set_option maxRecDepth 20000 in
theorem ggX12_reckons_X12_has : GoodIn wsX12_reckons wsX12_has := goodIn_r _ [15] rfl (by decide +kernel)
set_option maxRecDepth 20000 in
theorem gX12_reckons_X12_has : GoodIn wsX12_reckons (va_wsS RX12 59 yX12_has wsX12_has) := goodIn_app (goodIn_of _ (by decide +kernel)) ggX12_reckons_X12_has
theorem dX12_reckons_164 : decode cX12_reckons 164 = .ok (.iload_n 3, 1) := by decide +kernel
theorem dX12_reckons_165 : decode cX12_reckons 165 = .ok (.aload_n 0, 1) := by decide +kernel
theorem dX12_reckons_166 : decode cX12_reckons 166 = .ok (.getfield 13, 3) := by decide +kernel
theorem dX12_reckons_169 : decode cX12_reckons 169 = .ok (.iload_n 2, 1) := by decide +kernel
theorem dX12_reckons_170 : decode cX12_reckons 170 = .ok (.iaload, 1) := by decide +kernel
theorem dX12_reckons_171 : decode cX12_reckons 171 = .ok (.iand, 1) := by decide +kernel
theorem dX12_reckons_172 : decode cX12_reckons 172 = .ok (.iload 4, 2) := by decide +kernel
theorem dX12_reckons_174 : decode cX12_reckons 174 = .ok (.invokestatic 59, 3) := by decide +kernel
theorem dX12_reckons_177 : decode cX12_reckons 177 = .ok (.ifCond .eq 49, 3) := by decide +kernel
theorem dX12_reckons_226 : decode cX12_reckons 226 = .ok (.iinc 4 1, 3) := by decide +kernel
theorem dX12_reckons_229 : decode cX12_reckons 229 = .ok (.goto (-74), 3) := by decide +kernel
theorem dX12_reckons_180 : decode cX12_reckons 180 = .ok (.aload_n 0, 1) := by decide +kernel
theorem dX12_reckons_181 : decode cX12_reckons 181 = .ok (.getfield 17, 3) := by decide +kernel
theorem dX12_reckons_184 : decode cX12_reckons 184 = .ok (.iload_n 3, 1) := by decide +kernel
theorem dX12_reckons_185 : decode cX12_reckons 185 = .ok (.iconst 1, 1) := by decide +kernel
theorem dX12_reckons_186 : decode cX12_reckons 186 = .ok (.iload 4, 2) := by decide +kernel
theorem dX12_reckons_188 : decode cX12_reckons 188 = .ok (.ishl, 1) := by decide +kernel
theorem dX12_reckons_189 : decode cX12_reckons 189 = .ok (.iconst (-1), 1) := by decide +kernel
theorem dX12_reckons_190 : decode cX12_reckons 190 = .ok (.ixor, 1) := by decide +kernel
theorem dX12_reckons_191 : decode cX12_reckons 191 = .ok (.iand, 1) := by decide +kernel
theorem dX12_reckons_192 : decode cX12_reckons 192 = .ok (.iaload, 1) := by decide +kernel
theorem dX12_reckons_193 : decode cX12_reckons 193 = .ok (.iconst 1, 1) := by decide +kernel
theorem dX12_reckons_194 : decode cX12_reckons 194 = .ok (.iadd, 1) := by decide +kernel
theorem dX12_reckons_195 : decode cX12_reckons 195 = .ok (.aload_n 0, 1) := by decide +kernel
theorem dX12_reckons_196 : decode cX12_reckons 196 = .ok (.getfield 17, 3) := by decide +kernel
theorem dX12_reckons_199 : decode cX12_reckons 199 = .ok (.iload_n 1, 1) := by decide +kernel
theorem dX12_reckons_200 : decode cX12_reckons 200 = .ok (.iaload, 1) := by decide +kernel
theorem dX12_reckons_201 : decode cX12_reckons 201 = .ok (.if_icmp .ne 25, 3) := by decide +kernel
theorem dX12_reckons_204 : decode cX12_reckons 204 = .ok (.aload_n 0, 1) := by decide +kernel
theorem dX12_reckons_205 : decode cX12_reckons 205 = .ok (.getfield 20, 3) := by decide +kernel
theorem dX12_reckons_208 : decode cX12_reckons 208 = .ok (.iload_n 1, 1) := by decide +kernel
theorem dX12_reckons_209 : decode cX12_reckons 209 = .ok (.dup2, 1) := by decide +kernel
theorem dX12_reckons_210 : decode cX12_reckons 210 = .ok (.iaload, 1) := by decide +kernel
theorem dX12_reckons_211 : decode cX12_reckons 211 = .ok (.aload_n 0, 1) := by decide +kernel
theorem dX12_reckons_212 : decode cX12_reckons 212 = .ok (.getfield 20, 3) := by decide +kernel
theorem dX12_reckons_215 : decode cX12_reckons 215 = .ok (.iload_n 3, 1) := by decide +kernel
theorem dX12_reckons_216 : decode cX12_reckons 216 = .ok (.iconst 1, 1) := by decide +kernel
theorem dX12_reckons_217 : decode cX12_reckons 217 = .ok (.iload 4, 2) := by decide +kernel
theorem dX12_reckons_219 : decode cX12_reckons 219 = .ok (.ishl, 1) := by decide +kernel
theorem dX12_reckons_220 : decode cX12_reckons 220 = .ok (.iconst (-1), 1) := by decide +kernel
theorem dX12_reckons_221 : decode cX12_reckons 221 = .ok (.ixor, 1) := by decide +kernel
theorem dX12_reckons_222 : decode cX12_reckons 222 = .ok (.iand, 1) := by decide +kernel
theorem dX12_reckons_223 : decode cX12_reckons 223 = .ok (.iaload, 1) := by decide +kernel
theorem dX12_reckons_224 : decode cX12_reckons 224 = .ok (.iadd, 1) := by decide +kernel
theorem dX12_reckons_225 : decode cX12_reckons 225 = .ok (.iastore, 1) := by decide +kernel
theorem dX12_reckons_119 : decode cX12_reckons 119 = .ok (.aload_n 0, 1) := by decide +kernel
theorem dX12_reckons_120 : decode cX12_reckons 120 = .ok (.getfield 20, 3) := by decide +kernel
theorem dX12_reckons_123 : decode cX12_reckons 123 = .ok (.iload_n 1, 1) := by decide +kernel
theorem dX12_reckons_124 : decode cX12_reckons 124 = .ok (.aload_n 0, 1) := by decide +kernel
theorem dX12_reckons_125 : decode cX12_reckons 125 = .ok (.getfield 17, 3) := by decide +kernel
theorem dX12_reckons_128 : decode cX12_reckons 128 = .ok (.iload_n 3, 1) := by decide +kernel
theorem dX12_reckons_129 : decode cX12_reckons 129 = .ok (.iaload, 1) := by decide +kernel
theorem dX12_reckons_130 : decode cX12_reckons 130 = .ok (.aload_n 0, 1) := by decide +kernel
theorem dX12_reckons_131 : decode cX12_reckons 131 = .ok (.getfield 17, 3) := by decide +kernel
theorem dX12_reckons_134 : decode cX12_reckons 134 = .ok (.iload_n 1, 1) := by decide +kernel
theorem dX12_reckons_135 : decode cX12_reckons 135 = .ok (.iaload, 1) := by decide +kernel
theorem dX12_reckons_136 : decode cX12_reckons 136 = .ok (.if_icmp .ne 12, 3) := by decide +kernel
theorem dX12_reckons_139 : decode cX12_reckons 139 = .ok (.aload_n 0, 1) := by decide +kernel
theorem dX12_reckons_140 : decode cX12_reckons 140 = .ok (.getfield 20, 3) := by decide +kernel
theorem dX12_reckons_143 : decode cX12_reckons 143 = .ok (.iload_n 3, 1) := by decide +kernel
theorem dX12_reckons_144 : decode cX12_reckons 144 = .ok (.iaload, 1) := by decide +kernel
theorem dX12_reckons_145 : decode cX12_reckons 145 = .ok (.goto 4, 3) := by decide +kernel
theorem dX12_reckons_148 : decode cX12_reckons 148 = .ok (.iconst 0, 1) := by decide +kernel
theorem dX12_reckons_149 : decode cX12_reckons 149 = .ok (.iastore, 1) := by decide +kernel
theorem dX12_reckons_150 : decode cX12_reckons 150 = .ok (.iload_n 2, 1) := by decide +kernel
theorem dX12_reckons_151 : decode cX12_reckons 151 = .ok (.iconst 1, 1) := by decide +kernel
theorem dX12_reckons_152 : decode cX12_reckons 152 = .ok (.iadd, 1) := by decide +kernel
theorem dX12_reckons_153 : decode cX12_reckons 153 = .ok (.istore 4, 2) := by decide +kernel
theorem dX12_reckons_45 : decode cX12_reckons 45 = .ok (.iload 4, 2) := by decide +kernel
theorem dX12_reckons_47 : decode cX12_reckons 47 = .ok (.aload_n 0, 1) := by decide +kernel
theorem dX12_reckons_48 : decode cX12_reckons 48 = .ok (.getfield 63, 3) := by decide +kernel
theorem dX12_reckons_51 : decode cX12_reckons 51 = .ok (.if_icmp .ge 68, 3) := by decide +kernel
theorem dX12_reckons_113 : decode cX12_reckons 113 = .ok (.iinc 4 1, 3) := by decide +kernel
theorem dX12_reckons_116 : decode cX12_reckons 116 = .ok (.goto (-71), 3) := by decide +kernel
theorem dX12_reckons_54 : decode cX12_reckons 54 = .ok (.iload_n 3, 1) := by decide +kernel
theorem dX12_reckons_55 : decode cX12_reckons 55 = .ok (.aload_n 0, 1) := by decide +kernel
theorem dX12_reckons_56 : decode cX12_reckons 56 = .ok (.getfield 13, 3) := by decide +kernel
theorem dX12_reckons_59 : decode cX12_reckons 59 = .ok (.iload_n 2, 1) := by decide +kernel
theorem dX12_reckons_60 : decode cX12_reckons 60 = .ok (.iaload, 1) := by decide +kernel
theorem dX12_reckons_61 : decode cX12_reckons 61 = .ok (.iand, 1) := by decide +kernel
theorem dX12_reckons_62 : decode cX12_reckons 62 = .ok (.iload 4, 2) := by decide +kernel
theorem dX12_reckons_64 : decode cX12_reckons 64 = .ok (.invokestatic 59, 3) := by decide +kernel
theorem dX12_reckons_67 : decode cX12_reckons 67 = .ok (.ifCond .eq 46, 3) := by decide +kernel
theorem dX12_reckons_101 : decode cX12_reckons 101 = .ok (.iload_n 3, 1) := by decide +kernel
theorem dX12_reckons_102 : decode cX12_reckons 102 = .ok (.iconst 1, 1) := by decide +kernel
theorem dX12_reckons_103 : decode cX12_reckons 103 = .ok (.iload 4, 2) := by decide +kernel
theorem dX12_reckons_105 : decode cX12_reckons 105 = .ok (.ishl, 1) := by decide +kernel
theorem dX12_reckons_106 : decode cX12_reckons 106 = .ok (.iconst (-1), 1) := by decide +kernel
theorem dX12_reckons_107 : decode cX12_reckons 107 = .ok (.ixor, 1) := by decide +kernel
theorem dX12_reckons_108 : decode cX12_reckons 108 = .ok (.iand, 1) := by decide +kernel
theorem dX12_reckons_109 : decode cX12_reckons 109 = .ok (.iaload, 1) := by decide +kernel
theorem dX12_reckons_110 : decode cX12_reckons 110 = .ok (.iconst 1, 1) := by decide +kernel
theorem dX12_reckons_111 : decode cX12_reckons 111 = .ok (.iadd, 1) := by decide +kernel
theorem dX12_reckons_112 : decode cX12_reckons 112 = .ok (.iastore, 1) := by decide +kernel
theorem dX12_reckons_70 : decode cX12_reckons 70 = .ok (.aload_n 0, 1) := by decide +kernel
theorem dX12_reckons_71 : decode cX12_reckons 71 = .ok (.getfield 17, 3) := by decide +kernel
theorem dX12_reckons_74 : decode cX12_reckons 74 = .ok (.iload_n 3, 1) := by decide +kernel
theorem dX12_reckons_75 : decode cX12_reckons 75 = .ok (.iconst 1, 1) := by decide +kernel
theorem dX12_reckons_76 : decode cX12_reckons 76 = .ok (.iload 4, 2) := by decide +kernel
theorem dX12_reckons_78 : decode cX12_reckons 78 = .ok (.ishl, 1) := by decide +kernel
theorem dX12_reckons_79 : decode cX12_reckons 79 = .ok (.iconst (-1), 1) := by decide +kernel
theorem dX12_reckons_80 : decode cX12_reckons 80 = .ok (.ixor, 1) := by decide +kernel
theorem dX12_reckons_81 : decode cX12_reckons 81 = .ok (.iand, 1) := by decide +kernel
theorem dX12_reckons_82 : decode cX12_reckons 82 = .ok (.iaload, 1) := by decide +kernel
theorem dX12_reckons_83 : decode cX12_reckons 83 = .ok (.aload_n 0, 1) := by decide +kernel
theorem dX12_reckons_84 : decode cX12_reckons 84 = .ok (.getfield 17, 3) := by decide +kernel
theorem dX12_reckons_87 : decode cX12_reckons 87 = .ok (.iload_n 1, 1) := by decide +kernel
theorem dX12_reckons_88 : decode cX12_reckons 88 = .ok (.iaload, 1) := by decide +kernel
theorem dX12_reckons_89 : decode cX12_reckons 89 = .ok (.if_icmp .lt 24, 3) := by decide +kernel
theorem dX12_reckons_92 : decode cX12_reckons 92 = .ok (.aload_n 0, 1) := by decide +kernel
theorem dX12_reckons_93 : decode cX12_reckons 93 = .ok (.getfield 17, 3) := by decide +kernel
theorem dX12_reckons_96 : decode cX12_reckons 96 = .ok (.iload_n 1, 1) := by decide +kernel
theorem dX12_reckons_97 : decode cX12_reckons 97 = .ok (.aload_n 0, 1) := by decide +kernel
theorem dX12_reckons_98 : decode cX12_reckons 98 = .ok (.getfield 17, 3) := by decide +kernel
set_option maxRecDepth 20000 in
theorem ggX12_reckons_X12_first : GoodIn wsX12_reckons wsX12_first := goodIn_r _ [12, 13, 14, 8, 15] rfl (by decide +kernel)
set_option maxRecDepth 20000 in
theorem gX12_reckons_X12_first : GoodIn wsX12_reckons (va_wsS RX12 104 yX12_first wsX12_first) := goodIn_app (goodIn_of _ (by decide +kernel)) ggX12_reckons_X12_first
theorem dX12_reckons_17 : decode cX12_reckons 17 = .ok (.iload_n 1, 1) := by decide +kernel
theorem dX12_reckons_18 : decode cX12_reckons 18 = .ok (.invokestatic 104, 3) := by decide +kernel
theorem dX12_reckons_21 : decode cX12_reckons 21 = .ok (.istore_n 2, 1) := by decide +kernel
theorem dX12_reckons_22 : decode cX12_reckons 22 = .ok (.iload_n 1, 1) := by decide +kernel
theorem dX12_reckons_23 : decode cX12_reckons 23 = .ok (.iload_n 1, 1) := by decide +kernel
theorem dX12_reckons_24 : decode cX12_reckons 24 = .ok (.iconst 1, 1) := by decide +kernel
theorem dX12_reckons_25 : decode cX12_reckons 25 = .ok (.isub, 1) := by decide +kernel
theorem dX12_reckons_26 : decode cX12_reckons 26 = .ok (.iand, 1) := by decide +kernel
theorem dX12_reckons_27 : decode cX12_reckons 27 = .ok (.istore_n 3, 1) := by decide +kernel
theorem dX12_reckons_28 : decode cX12_reckons 28 = .ok (.aload_n 0, 1) := by decide +kernel
theorem dX12_reckons_29 : decode cX12_reckons 29 = .ok (.getfield 17, 3) := by decide +kernel
theorem dX12_reckons_32 : decode cX12_reckons 32 = .ok (.iload_n 1, 1) := by decide +kernel
theorem dX12_reckons_33 : decode cX12_reckons 33 = .ok (.aload_n 0, 1) := by decide +kernel
theorem dX12_reckons_34 : decode cX12_reckons 34 = .ok (.getfield 17, 3) := by decide +kernel
theorem dX12_reckons_37 : decode cX12_reckons 37 = .ok (.iload_n 3, 1) := by decide +kernel
theorem dX12_reckons_38 : decode cX12_reckons 38 = .ok (.iaload, 1) := by decide +kernel
theorem dX12_reckons_39 : decode cX12_reckons 39 = .ok (.iastore, 1) := by decide +kernel
theorem dX12_reckons_40 : decode cX12_reckons 40 = .ok (.iload_n 2, 1) := by decide +kernel
theorem dX12_reckons_41 : decode cX12_reckons 41 = .ok (.iconst 1, 1) := by decide +kernel
theorem dX12_reckons_42 : decode cX12_reckons 42 = .ok (.iadd, 1) := by decide +kernel
theorem dX12_reckons_43 : decode cX12_reckons 43 = .ok (.istore 4, 2) := by decide +kernel
set_option maxRecDepth 20000 in
theorem ggX12_times_X12_in : GoodIn wsX12_times wsX12_in := goodIn_r _ [4] rfl (by decide +kernel)
set_option maxRecDepth 20000 in
theorem gX12_times_X12_in : GoodIn wsX12_times (va_wsS RX12 66 yX12_in wsX12_in) := goodIn_app (goodIn_of _ (by decide +kernel)) ggX12_times_X12_in
theorem dX12_times_0 : decode cX12_times 0 = .ok (.iload_n 1, 1) := by decide +kernel
theorem dX12_times_1 : decode cX12_times 1 = .ok (.iconst 1, 1) := by decide +kernel
theorem dX12_times_10 : decode cX12_times 10 = .ok (.iload_n 2, 1) := by decide +kernel
theorem dX12_times_11 : decode cX12_times 11 = .ok (.iconst 0, 1) := by decide +kernel
theorem dX12_times_12 : decode cX12_times 12 = .ok (.bipush 12, 2) := by decide +kernel
theorem dX12_times_14 : decode cX12_times 14 = .ok (.invokestatic 66, 3) := by decide +kernel
theorem dX12_times_17 : decode cX12_times 17 = .ok (.ifCond .eq 24, 3) := by decide +kernel
theorem dX12_times_2 : decode cX12_times 2 = .ok (.bipush 20, 2) := by decide +kernel
theorem dX12_times_20 : decode cX12_times 20 = .ok (.iload_n 3, 1) := by decide +kernel
theorem dX12_times_21 : decode cX12_times 21 = .ok (.iconst 0, 1) := by decide +kernel
theorem dX12_times_22 : decode cX12_times 22 = .ok (.bipush 10, 2) := by decide +kernel
theorem dX12_times_24 : decode cX12_times 24 = .ok (.invokestatic 66, 3) := by decide +kernel
theorem dX12_times_27 : decode cX12_times 27 = .ok (.ifCond .eq 14, 3) := by decide +kernel
theorem dX12_times_30 : decode cX12_times 30 = .ok (.iload 4, 2) := by decide +kernel
theorem dX12_times_32 : decode cX12_times 32 = .ok (.iconst 0, 1) := by decide +kernel
theorem dX12_times_33 : decode cX12_times 33 = .ok (.bipush 12, 2) := by decide +kernel
theorem dX12_times_35 : decode cX12_times 35 = .ok (.invokestatic 66, 3) := by decide +kernel
theorem dX12_times_38 : decode cX12_times 38 = .ok (.ifCond .ne 6, 3) := by decide +kernel
theorem dX12_times_4 : decode cX12_times 4 = .ok (.invokestatic 66, 3) := by decide +kernel
theorem dX12_times_41 : decode cX12_times 41 = .ok (.bipush (-2), 2) := by decide +kernel
theorem dX12_times_43 : decode cX12_times 43 = .ok (.ireturn, 1) := by decide +kernel
theorem dX12_times_7 : decode cX12_times 7 = .ok (.ifCond .eq 34, 3) := by decide +kernel
set_option maxRecDepth 20000 in
theorem ggX12_times_X12_keeps : GoodIn wsX12_times wsX12_keeps := goodIn_r _ [8, 9, 10, 11, 12, 54, 55, 56, 57, 58, 59, 60, 61, 62, 63, 64, 65, 66, 67, 68, 69, 70, 71, 72, 73, 74, 75, 76, 77] rfl (by decide +kernel)
set_option maxRecDepth 20000 in
theorem gX12_times_X12_keeps : GoodIn wsX12_times (wsV RX12 205 RX12 yX12_keeps wsX12_keeps) := goodIn_app (goodIn_of _ (by decide +kernel)) ggX12_times_X12_keeps
theorem dX12_times_44 : decode cX12_times 44 = .ok (.aload_n 0, 1) := by decide +kernel
theorem dX12_times_45 : decode cX12_times 45 = .ok (.iconst 1, 1) := by decide +kernel
theorem dX12_times_46 : decode cX12_times 46 = .ok (.invokevirtual 205, 3) := by decide +kernel
theorem dX12_times_49 : decode cX12_times 49 = .ok (.iconst 0, 1) := by decide +kernel
theorem dX12_times_50 : decode cX12_times 50 = .ok (.istore 5, 2) := by decide +kernel
theorem dX12_times_52 : decode cX12_times 52 = .ok (.iconst 0, 1) := by decide +kernel
theorem dX12_times_53 : decode cX12_times 53 = .ok (.istore 6, 2) := by decide +kernel
set_option maxRecDepth 20000 in
theorem ggX12_times_X12_putsBack : GoodIn wsX12_times wsX12_putsBack := goodIn_r _ [53, 9, 10, 11, 12, 54, 55, 56, 57, 58, 59, 60, 61, 62, 63, 64, 65, 66, 67, 68, 69, 70, 71, 72, 73, 74, 75, 76, 77] rfl (by decide +kernel)
set_option maxRecDepth 20000 in
theorem gX12_times_X12_putsBack : GoodIn wsX12_times (wsV RX12 212 RX12 yX12_putsBack wsX12_putsBack) := goodIn_app (goodIn_of _ (by decide +kernel)) ggX12_times_X12_putsBack
theorem dX12_times_55 : decode cX12_times 55 = .ok (.iload 6, 2) := by decide +kernel
theorem dX12_times_57 : decode cX12_times 57 = .ok (.iload_n 1, 1) := by decide +kernel
theorem dX12_times_58 : decode cX12_times 58 = .ok (.if_icmp .ge 34, 3) := by decide +kernel
theorem dX12_times_92 : decode cX12_times 92 = .ok (.aload_n 0, 1) := by decide +kernel
theorem dX12_times_93 : decode cX12_times 93 = .ok (.iconst 1, 1) := by decide +kernel
theorem dX12_times_94 : decode cX12_times 94 = .ok (.invokevirtual 212, 3) := by decide +kernel
theorem dX12_times_97 : decode cX12_times 97 = .ok (.iload 5, 2) := by decide +kernel
theorem dX12_times_99 : decode cX12_times 99 = .ok (.ireturn, 1) := by decide +kernel
set_option maxRecDepth 20000 in
theorem ggX12_times_X12_deals : GoodIn wsX12_times wsX12_deals := goodIn_r _ (16 :: 10 :: 12 :: 17 :: 18 :: 19 :: 3 :: 20 :: 11 :: 21 :: 22 :: 23 :: 24 :: 25 :: 54 :: 55 :: 56 :: 57 :: 58 :: 59 :: 60 :: 61 :: 62 :: 63 :: 64 :: 65 :: 66 :: 67 :: 68 :: 69 :: 70 :: 71 :: 72 :: 73 :: 74 :: 75 :: 76 :: 77 :: []) rfl (by decide +kernel)
set_option maxRecDepth 20000 in
theorem gX12_times_X12_deals : GoodIn wsX12_times (wsV RX12 219 RX12 yX12_deals wsX12_deals) := goodIn_app (goodIn_of _ (by decide +kernel)) ggX12_times_X12_deals
set_option maxRecDepth 20000 in
theorem ggX12_times_X12_lack : GoodIn wsX12_times wsX12_lack := goodIn_r _ (29 :: 10 :: 30 :: 31 :: 32 :: 3 :: 33 :: 34 :: 35 :: 36 :: 37 :: 38 :: 39 :: 12 :: 40 :: 41 :: 42 :: 43 :: 44 :: 45 :: 46 :: 47 :: 48 :: 49 :: 54 :: 55 :: 56 :: 57 :: 58 :: 59 :: 60 :: 61 :: 62 :: 63 :: 64 :: 65 :: 66 :: 67 :: 68 :: 69 :: 70 :: 71 :: 72 :: 73 :: 74 :: 75 :: 76 :: 77 :: []) rfl (by decide +kernel)
set_option maxRecDepth 20000 in
theorem gX12_times_X12_lack : GoodIn wsX12_times (wsV RX12 95 RX12 yX12_lack wsX12_lack) := goodIn_app (goodIn_of _ (by decide +kernel)) ggX12_times_X12_lack
theorem dX12_times_61 : decode cX12_times 61 = .ok (.aload_n 0, 1) := by decide +kernel
theorem dX12_times_62 : decode cX12_times 62 = .ok (.iload_n 2, 1) := by decide +kernel
theorem dX12_times_63 : decode cX12_times 63 = .ok (.iload_n 3, 1) := by decide +kernel
theorem dX12_times_64 : decode cX12_times 64 = .ok (.invokevirtual 219, 3) := by decide +kernel
theorem dX12_times_67 : decode cX12_times 67 = .ok (.iload 5, 2) := by decide +kernel
theorem dX12_times_69 : decode cX12_times 69 = .ok (.aload_n 0, 1) := by decide +kernel
theorem dX12_times_70 : decode cX12_times 70 = .ok (.invokevirtual 95, 3) := by decide +kernel
theorem dX12_times_73 : decode cX12_times 73 = .ok (.iload 4, 2) := by decide +kernel
theorem dX12_times_75 : decode cX12_times 75 = .ok (.if_icmp .ne 7, 3) := by decide +kernel
theorem dX12_times_78 : decode cX12_times 78 = .ok (.iconst 1, 1) := by decide +kernel
theorem dX12_times_79 : decode cX12_times 79 = .ok (.goto 4, 3) := by decide +kernel
theorem dX12_times_82 : decode cX12_times 82 = .ok (.iconst 0, 1) := by decide +kernel
theorem dX12_times_83 : decode cX12_times 83 = .ok (.iadd, 1) := by decide +kernel
theorem dX12_times_84 : decode cX12_times 84 = .ok (.istore 5, 2) := by decide +kernel
theorem dX12_times_86 : decode cX12_times 86 = .ok (.iinc 6 1, 3) := by decide +kernel
theorem dX12_times_89 : decode cX12_times 89 = .ok (.goto (-34), 3) := by decide +kernel
theorem dJ6_numberOfLeadingZeros_0f7a4_13 : decode cJ6_numberOfLeadingZeros_0f7a4 13 = .ok (.iconst 0, 1) := by decide +kernel
theorem dJ6_numberOfLeadingZeros_0f7a4_15 : decode cJ6_numberOfLeadingZeros_0f7a4 15 = .ok (.bipush 31, 2) := by decide +kernel
theorem dJ6_numberOfLeadingZeros_0f7a4_17 : decode cJ6_numberOfLeadingZeros_0f7a4 17 = .ok (.istore_n 1, 1) := by decide +kernel
theorem dJ6_numberOfLeadingZeros_0f7a4_18 : decode cJ6_numberOfLeadingZeros_0f7a4 18 = .ok (.iload_n 0, 1) := by decide +kernel
theorem dJ6_numberOfLeadingZeros_0f7a4_19 : decode cJ6_numberOfLeadingZeros_0f7a4 19 = .ok (.ldc_w 264, 3) := by decide +kernel
theorem dJ6_numberOfLeadingZeros_0f7a4_22 : decode cJ6_numberOfLeadingZeros_0f7a4 22 = .ok (.if_icmp .lt 11, 3) := by decide +kernel
theorem dJ6_numberOfLeadingZeros_0f7a4_25 : decode cJ6_numberOfLeadingZeros_0f7a4 25 = .ok (.iinc 1 (-16), 3) := by decide +kernel
theorem dJ6_numberOfLeadingZeros_0f7a4_28 : decode cJ6_numberOfLeadingZeros_0f7a4 28 = .ok (.iload_n 0, 1) := by decide +kernel
theorem dJ6_numberOfLeadingZeros_0f7a4_29 : decode cJ6_numberOfLeadingZeros_0f7a4 29 = .ok (.bipush 16, 2) := by decide +kernel
theorem dJ6_numberOfLeadingZeros_0f7a4_31 : decode cJ6_numberOfLeadingZeros_0f7a4 31 = .ok (.iushr, 1) := by decide +kernel
theorem dJ6_numberOfLeadingZeros_0f7a4_32 : decode cJ6_numberOfLeadingZeros_0f7a4 32 = .ok (.istore_n 0, 1) := by decide +kernel
theorem dJ6_numberOfLeadingZeros_0f7a4_33 : decode cJ6_numberOfLeadingZeros_0f7a4 33 = .ok (.iload_n 0, 1) := by decide +kernel
theorem dJ6_numberOfLeadingZeros_0f7a4_34 : decode cJ6_numberOfLeadingZeros_0f7a4 34 = .ok (.sipush 256, 3) := by decide +kernel
theorem dJ6_numberOfLeadingZeros_0f7a4_37 : decode cJ6_numberOfLeadingZeros_0f7a4 37 = .ok (.if_icmp .lt 11, 3) := by decide +kernel
theorem dJ6_numberOfLeadingZeros_0f7a4_40 : decode cJ6_numberOfLeadingZeros_0f7a4 40 = .ok (.iinc 1 (-8), 3) := by decide +kernel
theorem dJ6_numberOfLeadingZeros_0f7a4_43 : decode cJ6_numberOfLeadingZeros_0f7a4 43 = .ok (.iload_n 0, 1) := by decide +kernel
theorem dJ6_numberOfLeadingZeros_0f7a4_44 : decode cJ6_numberOfLeadingZeros_0f7a4 44 = .ok (.bipush 8, 2) := by decide +kernel
theorem dJ6_numberOfLeadingZeros_0f7a4_46 : decode cJ6_numberOfLeadingZeros_0f7a4 46 = .ok (.iushr, 1) := by decide +kernel
theorem dJ6_numberOfLeadingZeros_0f7a4_47 : decode cJ6_numberOfLeadingZeros_0f7a4 47 = .ok (.istore_n 0, 1) := by decide +kernel
theorem dJ6_numberOfLeadingZeros_0f7a4_48 : decode cJ6_numberOfLeadingZeros_0f7a4 48 = .ok (.iload_n 0, 1) := by decide +kernel
theorem dJ6_numberOfLeadingZeros_0f7a4_49 : decode cJ6_numberOfLeadingZeros_0f7a4 49 = .ok (.bipush 16, 2) := by decide +kernel
theorem dJ6_numberOfLeadingZeros_0f7a4_51 : decode cJ6_numberOfLeadingZeros_0f7a4 51 = .ok (.if_icmp .lt 10, 3) := by decide +kernel
theorem dJ6_numberOfLeadingZeros_0f7a4_54 : decode cJ6_numberOfLeadingZeros_0f7a4 54 = .ok (.iinc 1 (-4), 3) := by decide +kernel
theorem dJ6_numberOfLeadingZeros_0f7a4_57 : decode cJ6_numberOfLeadingZeros_0f7a4 57 = .ok (.iload_n 0, 1) := by decide +kernel
theorem dJ6_numberOfLeadingZeros_0f7a4_58 : decode cJ6_numberOfLeadingZeros_0f7a4 58 = .ok (.iconst 4, 1) := by decide +kernel
theorem dJ6_numberOfLeadingZeros_0f7a4_59 : decode cJ6_numberOfLeadingZeros_0f7a4 59 = .ok (.iushr, 1) := by decide +kernel
theorem dJ6_numberOfLeadingZeros_0f7a4_60 : decode cJ6_numberOfLeadingZeros_0f7a4 60 = .ok (.istore_n 0, 1) := by decide +kernel
theorem dJ6_numberOfLeadingZeros_0f7a4_61 : decode cJ6_numberOfLeadingZeros_0f7a4 61 = .ok (.iload_n 0, 1) := by decide +kernel
theorem dJ6_numberOfLeadingZeros_0f7a4_62 : decode cJ6_numberOfLeadingZeros_0f7a4 62 = .ok (.iconst 4, 1) := by decide +kernel
theorem dJ6_numberOfLeadingZeros_0f7a4_63 : decode cJ6_numberOfLeadingZeros_0f7a4 63 = .ok (.if_icmp .lt 10, 3) := by decide +kernel
theorem dJ6_numberOfLeadingZeros_0f7a4_66 : decode cJ6_numberOfLeadingZeros_0f7a4 66 = .ok (.iinc 1 (-2), 3) := by decide +kernel
theorem dJ6_numberOfLeadingZeros_0f7a4_69 : decode cJ6_numberOfLeadingZeros_0f7a4 69 = .ok (.iload_n 0, 1) := by decide +kernel
theorem dJ6_numberOfLeadingZeros_0f7a4_70 : decode cJ6_numberOfLeadingZeros_0f7a4 70 = .ok (.iconst 2, 1) := by decide +kernel
theorem dJ6_numberOfLeadingZeros_0f7a4_71 : decode cJ6_numberOfLeadingZeros_0f7a4 71 = .ok (.iushr, 1) := by decide +kernel
theorem dJ6_numberOfLeadingZeros_0f7a4_72 : decode cJ6_numberOfLeadingZeros_0f7a4 72 = .ok (.istore_n 0, 1) := by decide +kernel
theorem dJ6_numberOfLeadingZeros_0f7a4_73 : decode cJ6_numberOfLeadingZeros_0f7a4 73 = .ok (.iload_n 1, 1) := by decide +kernel
theorem dJ6_numberOfLeadingZeros_0f7a4_74 : decode cJ6_numberOfLeadingZeros_0f7a4 74 = .ok (.iload_n 0, 1) := by decide +kernel
theorem dJ6_numberOfLeadingZeros_0f7a4_75 : decode cJ6_numberOfLeadingZeros_0f7a4 75 = .ok (.iconst 1, 1) := by decide +kernel
theorem dJ6_numberOfLeadingZeros_0f7a4_76 : decode cJ6_numberOfLeadingZeros_0f7a4 76 = .ok (.iushr, 1) := by decide +kernel
theorem dJ6_numberOfLeadingZeros_0f7a4_77 : decode cJ6_numberOfLeadingZeros_0f7a4 77 = .ok (.isub, 1) := by decide +kernel
theorem dJ6_numberOfLeadingZeros_0f7a4_78 : decode cJ6_numberOfLeadingZeros_0f7a4 78 = .ok (.ireturn, 1) := by decide +kernel
theorem dX1_recall_0 : decode cX1_recall 0 = .ok (.iload_n 1, 1) := by decide +kernel
theorem dX1_recall_1 : decode cX1_recall 1 = .ok (.ifCond .lt 28, 3) := by decide +kernel
theorem dX1_recall_10 : decode cX1_recall 10 = .ok (.if_icmp .ge 19, 3) := by decide +kernel
theorem dX1_recall_13 : decode cX1_recall 13 = .ok (.aload_n 0, 1) := by decide +kernel
theorem dX1_recall_14 : decode cX1_recall 14 = .ok (.getfield 21, 3) := by decide +kernel
theorem dX1_recall_17 : decode cX1_recall 17 = .ok (.iload_n 1, 1) := by decide +kernel
theorem dX1_recall_18 : decode cX1_recall 18 = .ok (.iaload, 1) := by decide +kernel
theorem dX1_recall_19 : decode cX1_recall 19 = .ok (.bipush 16, 2) := by decide +kernel
theorem dX1_recall_21 : decode cX1_recall 21 = .ok (.iushr, 1) := by decide +kernel
theorem dX1_recall_22 : decode cX1_recall 22 = .ok (.aload_n 0, 1) := by decide +kernel
theorem dX1_recall_23 : decode cX1_recall 23 = .ok (.getfield 9, 3) := by decide +kernel
theorem dX1_recall_26 : decode cX1_recall 26 = .ok (.if_icmp .eq 5, 3) := by decide +kernel
theorem dX1_recall_31 : decode cX1_recall 31 = .ok (.aload_n 0, 1) := by decide +kernel
theorem dX1_recall_32 : decode cX1_recall 32 = .ok (.getfield 21, 3) := by decide +kernel
theorem dX1_recall_35 : decode cX1_recall 35 = .ok (.iload_n 1, 1) := by decide +kernel
theorem dX1_recall_36 : decode cX1_recall 36 = .ok (.iaload, 1) := by decide +kernel
theorem dX1_recall_37 : decode cX1_recall 37 = .ok (.ldc 25, 2) := by decide +kernel
theorem dX1_recall_39 : decode cX1_recall 39 = .ok (.iand, 1) := by decide +kernel
theorem dX1_recall_4 : decode cX1_recall 4 = .ok (.iload_n 1, 1) := by decide +kernel
theorem dX1_recall_40 : decode cX1_recall 40 = .ok (.ireturn, 1) := by decide +kernel
theorem dX1_recall_5 : decode cX1_recall 5 = .ok (.aload_n 0, 1) := by decide +kernel
theorem dX1_recall_6 : decode cX1_recall 6 = .ok (.getfield 21, 3) := by decide +kernel
theorem dX1_recall_9 : decode cX1_recall 9 = .ok (.arraylength, 1) := by decide +kernel
theorem dX1_recall_29 : decode cX1_recall 29 = .ok (.iconst (-1), 1) := by decide +kernel
theorem dX1_recall_30 : decode cX1_recall 30 = .ok (.ireturn, 1) := by decide +kernel
theorem dX1_keep_0 : decode cX1_keep 0 = .ok (.iload_n 1, 1) := by decide +kernel
theorem dX1_keep_1 : decode cX1_keep 1 = .ok (.ifCond .lt 30, 3) := by decide +kernel
theorem dX1_keep_10 : decode cX1_keep 10 = .ok (.if_icmp .ge 21, 3) := by decide +kernel
theorem dX1_keep_13 : decode cX1_keep 13 = .ok (.aload_n 0, 1) := by decide +kernel
theorem dX1_keep_14 : decode cX1_keep 14 = .ok (.getfield 21, 3) := by decide +kernel
theorem dX1_keep_17 : decode cX1_keep 17 = .ok (.iload_n 1, 1) := by decide +kernel
theorem dX1_keep_18 : decode cX1_keep 18 = .ok (.aload_n 0, 1) := by decide +kernel
theorem dX1_keep_19 : decode cX1_keep 19 = .ok (.getfield 9, 3) := by decide +kernel
theorem dX1_keep_22 : decode cX1_keep 22 = .ok (.bipush 16, 2) := by decide +kernel
theorem dX1_keep_24 : decode cX1_keep 24 = .ok (.ishl, 1) := by decide +kernel
theorem dX1_keep_25 : decode cX1_keep 25 = .ok (.iload_n 2, 1) := by decide +kernel
theorem dX1_keep_26 : decode cX1_keep 26 = .ok (.ldc 25, 2) := by decide +kernel
theorem dX1_keep_28 : decode cX1_keep 28 = .ok (.iand, 1) := by decide +kernel
theorem dX1_keep_29 : decode cX1_keep 29 = .ok (.ior, 1) := by decide +kernel
theorem dX1_keep_30 : decode cX1_keep 30 = .ok (.iastore, 1) := by decide +kernel
theorem dX1_keep_31 : decode cX1_keep 31 = .ok (.return_, 1) := by decide +kernel
theorem dX1_keep_4 : decode cX1_keep 4 = .ok (.iload_n 1, 1) := by decide +kernel
theorem dX1_keep_5 : decode cX1_keep 5 = .ok (.aload_n 0, 1) := by decide +kernel
theorem dX1_keep_6 : decode cX1_keep 6 = .ok (.getfield 21, 3) := by decide +kernel
theorem dX1_keep_9 : decode cX1_keep 9 = .ok (.arraylength, 1) := by decide +kernel
theorem dX1_forget_0 : decode cX1_forget 0 = .ok (.aload_n 0, 1) := by decide +kernel
theorem dX1_forget_1 : decode cX1_forget 1 = .ok (.getfield 9, 3) := by decide +kernel
theorem dX1_forget_39 : decode cX1_forget 39 = .ok (.aload_n 0, 1) := by decide +kernel
theorem dX1_forget_4 : decode cX1_forget 4 = .ok (.sipush 32767, 3) := by decide +kernel
theorem dX1_forget_40 : decode cX1_forget 40 = .ok (.dup, 1) := by decide +kernel
theorem dX1_forget_41 : decode cX1_forget 41 = .ok (.getfield 9, 3) := by decide +kernel
theorem dX1_forget_44 : decode cX1_forget 44 = .ok (.iconst 1, 1) := by decide +kernel
theorem dX1_forget_45 : decode cX1_forget 45 = .ok (.iadd, 1) := by decide +kernel
theorem dX1_forget_46 : decode cX1_forget 46 = .ok (.putfield 9, 3) := by decide +kernel
theorem dX1_forget_49 : decode cX1_forget 49 = .ok (.return_, 1) := by decide +kernel
theorem dX1_forget_7 : decode cX1_forget 7 = .ok (.if_icmp .ne 32, 3) := by decide +kernel
set_option maxRecDepth 20000 in
theorem ggX3_bestOf_X1_keep : GoodIn wsX3_bestOf wsX1_keep := goodIn_r _ [29, 13, 14, 15, 37, 38] rfl (by decide +kernel)
set_option maxRecDepth 20000 in
theorem gX3_bestOf_X1_keep : GoodIn wsX3_bestOf (wsV RX3 65 RX1 yX1_keep wsX1_keep) := goodIn_app (goodIn_of _ (by decide +kernel)) ggX3_bestOf_X1_keep
theorem dX3_bestOf_164 : decode cX3_bestOf 164 = .ok (.aload_n 0, 1) := by decide +kernel
theorem dX3_bestOf_165 : decode cX3_bestOf 165 = .ok (.getfield 14, 3) := by decide +kernel
theorem dX3_bestOf_168 : decode cX3_bestOf 168 = .ok (.iload_n 1, 1) := by decide +kernel
theorem dX3_bestOf_169 : decode cX3_bestOf 169 = .ok (.iload 8, 2) := by decide +kernel
theorem dX3_bestOf_171 : decode cX3_bestOf 171 = .ok (.invokevirtual 65, 3) := by decide +kernel
theorem dX3_bestOf_174 : decode cX3_bestOf 174 = .ok (.iload 8, 2) := by decide +kernel
theorem dX3_bestOf_176 : decode cX3_bestOf 176 = .ok (.ireturn, 1) := by decide +kernel
theorem dX3_bestOf_106 : decode cX3_bestOf 106 = .ok (.iload 10, 2) := by decide +kernel
theorem dX3_bestOf_108 : decode cX3_bestOf 108 = .ok (.iload_n 3, 1) := by decide +kernel
theorem dX3_bestOf_109 : decode cX3_bestOf 109 = .ok (.if_icmp .ge 55, 3) := by decide +kernel
theorem dX3_bestOf_112 : decode cX3_bestOf 112 = .ok (.iload 9, 2) := by decide +kernel
theorem dX3_bestOf_114 : decode cX3_bestOf 114 = .ok (.ifCond .eq 50, 3) := by decide +kernel
theorem dX3_bestOf_117 : decode cX3_bestOf 117 = .ok (.iload 8, 2) := by decide +kernel
theorem dX3_bestOf_119 : decode cX3_bestOf 119 = .ok (.iload 7, 2) := by decide +kernel
theorem dX3_bestOf_121 : decode cX3_bestOf 121 = .ok (.if_icmp .ne 43, 3) := by decide +kernel
theorem dX3_bestOf_124 : decode cX3_bestOf 124 = .ok (.iload 6, 2) := by decide +kernel
theorem dX3_bestOf_126 : decode cX3_bestOf 126 = .ok (.iload 10, 2) := by decide +kernel
theorem dX3_bestOf_128 : decode cX3_bestOf 128 = .ok (.ishr, 1) := by decide +kernel
theorem dX3_bestOf_129 : decode cX3_bestOf 129 = .ok (.iconst 1, 1) := by decide +kernel
theorem dX3_bestOf_130 : decode cX3_bestOf 130 = .ok (.iand, 1) := by decide +kernel
theorem dX3_bestOf_131 : decode cX3_bestOf 131 = .ok (.ifCond .eq 27, 3) := by decide +kernel
theorem dX3_bestOf_158 : decode cX3_bestOf 158 = .ok (.iinc 10 1, 3) := by decide +kernel
theorem dX3_bestOf_161 : decode cX3_bestOf 161 = .ok (.goto (-55), 3) := by decide +kernel
set_option maxRecDepth 20000 in
theorem ggX3_bestOf_X3_bestOf : GoodIn wsX3_bestOf wsX3_bestOf := goodIn_r _ (0 :: 1 :: 2 :: 3 :: 4 :: 5 :: 6 :: 7 :: 8 :: 9 :: 10 :: 11 :: 12 :: 13 :: 14 :: 15 :: 16 :: 17 :: 18 :: 19 :: 20 :: 21 :: 22 :: 23 :: 24 :: 25 :: 26 :: 27 :: 28 :: 29 :: 30 :: 31 :: 32 :: 33 :: 34 :: 35 :: 36 :: 37 :: 38 :: []) rfl (by decide +kernel)
set_option maxRecDepth 20000 in
theorem gX3_bestOf_X3_bestOf : GoodIn wsX3_bestOf (wsV RX3 42 RX3 yX3_bestOf wsX3_bestOf) := goodIn_app (goodIn_of _ (by decide +kernel)) ggX3_bestOf_X3_bestOf
theorem dX3_bestOf_134 : decode cX3_bestOf 134 = .ok (.aload_n 0, 1) := by decide +kernel
theorem dX3_bestOf_135 : decode cX3_bestOf 135 = .ok (.iload 5, 2) := by decide +kernel
theorem dX3_bestOf_137 : decode cX3_bestOf 137 = .ok (.iconst 1, 1) := by decide +kernel
theorem dX3_bestOf_138 : decode cX3_bestOf 138 = .ok (.iload 10, 2) := by decide +kernel
theorem dX3_bestOf_140 : decode cX3_bestOf 140 = .ok (.ishl, 1) := by decide +kernel
theorem dX3_bestOf_141 : decode cX3_bestOf 141 = .ok (.iconst (-1), 1) := by decide +kernel
theorem dX3_bestOf_142 : decode cX3_bestOf 142 = .ok (.ixor, 1) := by decide +kernel
theorem dX3_bestOf_143 : decode cX3_bestOf 143 = .ok (.iand, 1) := by decide +kernel
theorem dX3_bestOf_144 : decode cX3_bestOf 144 = .ok (.iload_n 2, 1) := by decide +kernel
theorem dX3_bestOf_145 : decode cX3_bestOf 145 = .ok (.iconst 1, 1) := by decide +kernel
theorem dX3_bestOf_146 : decode cX3_bestOf 146 = .ok (.iadd, 1) := by decide +kernel
theorem dX3_bestOf_147 : decode cX3_bestOf 147 = .ok (.invokevirtual 42, 3) := by decide +kernel
theorem dX3_bestOf_150 : decode cX3_bestOf 150 = .ok (.iload 7, 2) := by decide +kernel
theorem dX3_bestOf_152 : decode cX3_bestOf 152 = .ok (.if_icmp .ne 6, 3) := by decide +kernel
theorem dX3_bestOf_155 : decode cX3_bestOf 155 = .ok (.iinc 8 1, 3) := by decide +kernel
set_option maxRecDepth 20000 in
theorem ggX3_bestOf_X1_recall : GoodIn wsX3_bestOf wsX1_recall := goodIn_r _ [12, 13, 14, 15, 37, 38] rfl (by decide +kernel)
set_option maxRecDepth 20000 in
theorem gX3_bestOf_X1_recall : GoodIn wsX3_bestOf (wsV RX3 58 RX1 yX1_recall wsX1_recall) := goodIn_app (goodIn_of _ (by decide +kernel)) ggX3_bestOf_X1_recall
theorem dX3_bestOf_13 : decode cX3_bestOf 13 = .ok (.iload_n 3, 1) := by decide +kernel
theorem dX3_bestOf_14 : decode cX3_bestOf 14 = .ok (.bipush 12, 2) := by decide +kernel
theorem dX3_bestOf_16 : decode cX3_bestOf 16 = .ok (.if_icmp .ge 9, 3) := by decide +kernel
theorem dX3_bestOf_19 : decode cX3_bestOf 19 = .ok (.iload_n 2, 1) := by decide +kernel
theorem dX3_bestOf_20 : decode cX3_bestOf 20 = .ok (.bipush 12, 2) := by decide +kernel
theorem dX3_bestOf_22 : decode cX3_bestOf 22 = .ok (.if_icmp .le 5, 3) := by decide +kernel
theorem dX3_bestOf_27 : decode cX3_bestOf 27 = .ok (.aload_n 0, 1) := by decide +kernel
theorem dX3_bestOf_28 : decode cX3_bestOf 28 = .ok (.getfield 14, 3) := by decide +kernel
theorem dX3_bestOf_31 : decode cX3_bestOf 31 = .ok (.iload_n 1, 1) := by decide +kernel
theorem dX3_bestOf_32 : decode cX3_bestOf 32 = .ok (.invokevirtual 58, 3) := by decide +kernel
theorem dX3_bestOf_35 : decode cX3_bestOf 35 = .ok (.istore 4, 2) := by decide +kernel
theorem dX3_bestOf_37 : decode cX3_bestOf 37 = .ok (.iload 4, 2) := by decide +kernel
theorem dX3_bestOf_39 : decode cX3_bestOf 39 = .ok (.ifCond .lt 6, 3) := by decide +kernel
theorem dX3_bestOf_42 : decode cX3_bestOf 42 = .ok (.iload 4, 2) := by decide +kernel
theorem dX3_bestOf_44 : decode cX3_bestOf 44 = .ok (.ireturn, 1) := by decide +kernel
set_option maxRecDepth 20000 in
theorem ggX3_bestOf_J6_bitCount_0f7a4 : GoodIn wsX3_bestOf wsJ6_bitCount_0f7a4 := goodIn_r _ [22, 23, 24, 25] rfl (by decide +kernel)
set_option maxRecDepth 20000 in
theorem gX3_bestOf_J6_bitCount_0f7a4 : GoodIn wsX3_bestOf (va_wsS RX3 46 yJ6_bitCount_0f7a4 wsJ6_bitCount_0f7a4) := goodIn_app (goodIn_of _ (by decide +kernel)) ggX3_bestOf_J6_bitCount_0f7a4
theorem dX3_bestOf_100 : decode cX3_bestOf 100 = .ok (.iconst 0, 1) := by decide +kernel
theorem dX3_bestOf_101 : decode cX3_bestOf 101 = .ok (.istore 9, 2) := by decide +kernel
theorem dX3_bestOf_103 : decode cX3_bestOf 103 = .ok (.iconst 0, 1) := by decide +kernel
theorem dX3_bestOf_104 : decode cX3_bestOf 104 = .ok (.istore 10, 2) := by decide +kernel
theorem dX3_bestOf_45 : decode cX3_bestOf 45 = .ok (.iload_n 1, 1) := by decide +kernel
theorem dX3_bestOf_46 : decode cX3_bestOf 46 = .ok (.iconst 1, 1) := by decide +kernel
theorem dX3_bestOf_47 : decode cX3_bestOf 47 = .ok (.iload_n 3, 1) := by decide +kernel
theorem dX3_bestOf_48 : decode cX3_bestOf 48 = .ok (.ishl, 1) := by decide +kernel
theorem dX3_bestOf_49 : decode cX3_bestOf 49 = .ok (.iconst (-1), 1) := by decide +kernel
theorem dX3_bestOf_50 : decode cX3_bestOf 50 = .ok (.ixor, 1) := by decide +kernel
theorem dX3_bestOf_51 : decode cX3_bestOf 51 = .ok (.iand, 1) := by decide +kernel
theorem dX3_bestOf_52 : decode cX3_bestOf 52 = .ok (.istore 5, 2) := by decide +kernel
theorem dX3_bestOf_54 : decode cX3_bestOf 54 = .ok (.aload_n 0, 1) := by decide +kernel
theorem dX3_bestOf_55 : decode cX3_bestOf 55 = .ok (.getfield 23, 3) := by decide +kernel
theorem dX3_bestOf_58 : decode cX3_bestOf 58 = .ok (.getfield 61, 3) := by decide +kernel
theorem dX3_bestOf_61 : decode cX3_bestOf 61 = .ok (.iload_n 3, 1) := by decide +kernel
theorem dX3_bestOf_62 : decode cX3_bestOf 62 = .ok (.iaload, 1) := by decide +kernel
theorem dX3_bestOf_63 : decode cX3_bestOf 63 = .ok (.iload 5, 2) := by decide +kernel
theorem dX3_bestOf_65 : decode cX3_bestOf 65 = .ok (.iand, 1) := by decide +kernel
theorem dX3_bestOf_66 : decode cX3_bestOf 66 = .ok (.istore 6, 2) := by decide +kernel
theorem dX3_bestOf_68 : decode cX3_bestOf 68 = .ok (.aload_n 0, 1) := by decide +kernel
theorem dX3_bestOf_69 : decode cX3_bestOf 69 = .ok (.iload 5, 2) := by decide +kernel
theorem dX3_bestOf_71 : decode cX3_bestOf 71 = .ok (.iload_n 2, 1) := by decide +kernel
theorem dX3_bestOf_72 : decode cX3_bestOf 72 = .ok (.iconst 1, 1) := by decide +kernel
theorem dX3_bestOf_73 : decode cX3_bestOf 73 = .ok (.iadd, 1) := by decide +kernel
theorem dX3_bestOf_74 : decode cX3_bestOf 74 = .ok (.invokevirtual 42, 3) := by decide +kernel
theorem dX3_bestOf_77 : decode cX3_bestOf 77 = .ok (.istore 7, 2) := by decide +kernel
theorem dX3_bestOf_79 : decode cX3_bestOf 79 = .ok (.iload 7, 2) := by decide +kernel
theorem dX3_bestOf_81 : decode cX3_bestOf 81 = .ok (.istore 8, 2) := by decide +kernel
theorem dX3_bestOf_83 : decode cX3_bestOf 83 = .ok (.iconst 2, 1) := by decide +kernel
theorem dX3_bestOf_84 : decode cX3_bestOf 84 = .ok (.iload 7, 2) := by decide +kernel
theorem dX3_bestOf_86 : decode cX3_bestOf 86 = .ok (.imul, 1) := by decide +kernel
theorem dX3_bestOf_87 : decode cX3_bestOf 87 = .ok (.iconst 2, 1) := by decide +kernel
theorem dX3_bestOf_88 : decode cX3_bestOf 88 = .ok (.iadd, 1) := by decide +kernel
theorem dX3_bestOf_89 : decode cX3_bestOf 89 = .ok (.iload_n 1, 1) := by decide +kernel
theorem dX3_bestOf_90 : decode cX3_bestOf 90 = .ok (.invokestatic 46, 3) := by decide +kernel
theorem dX3_bestOf_93 : decode cX3_bestOf 93 = .ok (.if_icmp .gt 7, 3) := by decide +kernel
theorem dX3_bestOf_96 : decode cX3_bestOf 96 = .ok (.iconst 1, 1) := by decide +kernel
theorem dX3_bestOf_97 : decode cX3_bestOf 97 = .ok (.goto 4, 3) := by decide +kernel
set_option maxRecDepth 20000 in
theorem ggX3_notice_X1_forget : GoodIn wsX3_notice wsX1_forget := goodIn_r _ [9, 10, 11, 19, 20] rfl (by decide +kernel)
set_option maxRecDepth 20000 in
theorem gX3_notice_X1_forget : GoodIn wsX3_notice (wsV RX3 36 RX1 yX1_forget wsX1_forget) := goodIn_app (goodIn_of _ (by decide +kernel)) ggX3_notice_X1_forget
theorem dX3_notice_14 : decode cX3_notice 14 = .ok (.aload_n 0, 1) := by decide +kernel
theorem dX3_notice_15 : decode cX3_notice 15 = .ok (.aload_n 0, 1) := by decide +kernel
theorem dX3_notice_16 : decode cX3_notice 16 = .ok (.getfield 23, 3) := by decide +kernel
theorem dX3_notice_19 : decode cX3_notice 19 = .ok (.getfield 31, 3) := by decide +kernel
theorem dX3_notice_22 : decode cX3_notice 22 = .ok (.putfield 27, 3) := by decide +kernel
theorem dX3_notice_25 : decode cX3_notice 25 = .ok (.aload_n 0, 1) := by decide +kernel
theorem dX3_notice_26 : decode cX3_notice 26 = .ok (.getfield 14, 3) := by decide +kernel
theorem dX3_notice_29 : decode cX3_notice 29 = .ok (.invokevirtual 36, 3) := by decide +kernel
theorem dX3_notice_32 : decode cX3_notice 32 = .ok (.aload_n 0, 1) := by decide +kernel
theorem dX3_notice_33 : decode cX3_notice 33 = .ok (.getfield 20, 3) := by decide +kernel
theorem dX3_notice_36 : decode cX3_notice 36 = .ok (.invokevirtual 36, 3) := by decide +kernel
