theorem k_J6_bitCount_0f7a4 (l : Launch) (D : va_G) (cI cS : ClassId) (x0 : Int32) : Met l yJ6_bitCount_0f7a4 wsJ6_bitCount_0f7a4 ({ frames := 0, cells := 0, slots := 0, locals := 0 }) (PS D cI cS [] [.int x0]) (vp_Si (fun r => Rg (-2147483648) 2147483647 r ∧ (x0 = 0 → r = 0))) 0 0 (fun _ => False) :=
  met_si (c_J6_bitCount_0f7a4_1 l D cI cS x0) (fun r hr => ⟨rg_any r, fun h => by rw [hr, h]; decide⟩)
theorem dJ6_lowestOneBit_0f7a4_0 : decode cJ6_lowestOneBit_0f7a4 0 = .ok (.iload_n 0, 1) := by decide +kernel
theorem dJ6_lowestOneBit_0f7a4_1 : decode cJ6_lowestOneBit_0f7a4 1 = .ok (.iload_n 0, 1) := by decide +kernel
theorem dJ6_lowestOneBit_0f7a4_2 : decode cJ6_lowestOneBit_0f7a4 2 = .ok (.ineg, 1) := by decide +kernel
theorem dJ6_lowestOneBit_0f7a4_3 : decode cJ6_lowestOneBit_0f7a4 3 = .ok (.iand, 1) := by decide +kernel
theorem dJ6_lowestOneBit_0f7a4_4 : decode cJ6_lowestOneBit_0f7a4 4 = .ok (.ireturn, 1) := by decide +kernel
set_option maxHeartbeats 4000000 in
set_option maxRecDepth 100000 in
theorem k_J6_lowestOneBit_0f7a4 (l : Launch) (D : va_G) (cI cS : ClassId) (x0 : Int32) : Met l yJ6_lowestOneBit_0f7a4 wsJ6_lowestOneBit_0f7a4 ({ frames := 0, cells := 0, slots := 0, locals := 0 }) (PS D cI cS [] [.int x0]) (vp_Si (fun r => Rg (-2147483648) 2147483647 r ∧ True)) 0 0 (fun _ => False) := by
  refine Met.ofW (cc := cJ6_lowestOneBit_0f7a4) (maxL := 1) (ret := (some .int)) (by decide) rfl ?_
  intro p e s m args below meth c s₁ B hml hv
  obtain ⟨rfl, hP, hKK⟩ := hv
  have hx := B.exec
  have hb := B.bytes
  have hr := B.returns
  have hts := atoms_spec (ws := wsJ6_lowestOneBit_0f7a4) B.pre
  have hown : s.vm.findClass RJ6 = some m.cls := findClass_of_methodNamed B.named
  have hlocks := B.notSynchronized
  have hK := hKK.1
  have hl := lv_entry ([.int x0]) (n := 1) (Nat.le_of_ble_eq_true rfl)
  rw [lg_entry_eq]
  generalize (lg_sl ([.int x0]) ++ List.replicate (1 - (lg_sl ([.int x0])).length) Slot.unset).toArray = ls at hl ⊢
  have hl : lv_has ls 1 [(0, .int x0)] := hl
  refine lv_iload_n hx hb dJ6_lowestOneBit_0f7a4_0 rfl (lv_at hl 0 rfl) ?_
  refine lv_iload_n hx hb dJ6_lowestOneBit_0f7a4_1 rfl (lv_at hl 0 rfl) ?_
  refine lv_ineg hx hb dJ6_lowestOneBit_0f7a4_2 ?_
  refine wk_topP (P := fun r => r = -x0) rfl (fun r30907 qr30907 => ?_)
  refine lv_iand hx hb dJ6_lowestOneBit_0f7a4_3 ?_
  refine wk_topP (P := fun r => r = x0 &&& r30907) rfl (fun r30908 qr30908 => ?_)
  exact W.iret (v := r30908) hx hb hr (fun t ht hW => ⟨_, rfl, ⟨(rg_any r30908), trivial⟩, ht⟩) (fun q hq => absurd hq List.not_mem_nil) dJ6_lowestOneBit_0f7a4_4
theorem dJ6_numberOfTrailingZeros_0f7a4_0 : decode cJ6_numberOfTrailingZeros_0f7a4 0 = .ok (.iload_n 0, 1) := by decide +kernel
theorem dJ6_numberOfTrailingZeros_0f7a4_1 : decode cJ6_numberOfTrailingZeros_0f7a4 1 = .ok (.iconst (-1), 1) := by decide +kernel
theorem dJ6_numberOfTrailingZeros_0f7a4_12 : decode cJ6_numberOfTrailingZeros_0f7a4 12 = .ok (.iload_n 0, 1) := by decide +kernel
theorem dJ6_numberOfTrailingZeros_0f7a4_13 : decode cJ6_numberOfTrailingZeros_0f7a4 13 = .ok (.bipush 32, 2) := by decide +kernel
theorem dJ6_numberOfTrailingZeros_0f7a4_15 : decode cJ6_numberOfTrailingZeros_0f7a4 15 = .ok (.iand, 1) := by decide +kernel
theorem dJ6_numberOfTrailingZeros_0f7a4_16 : decode cJ6_numberOfTrailingZeros_0f7a4 16 = .ok (.ireturn, 1) := by decide +kernel
theorem dJ6_numberOfTrailingZeros_0f7a4_17 : decode cJ6_numberOfTrailingZeros_0f7a4 17 = .ok (.iconst 1, 1) := by decide +kernel
theorem dJ6_numberOfTrailingZeros_0f7a4_18 : decode cJ6_numberOfTrailingZeros_0f7a4 18 = .ok (.istore_n 1, 1) := by decide +kernel
theorem dJ6_numberOfTrailingZeros_0f7a4_19 : decode cJ6_numberOfTrailingZeros_0f7a4 19 = .ok (.iload_n 0, 1) := by decide +kernel
theorem dJ6_numberOfTrailingZeros_0f7a4_2 : decode cJ6_numberOfTrailingZeros_0f7a4 2 = .ok (.ixor, 1) := by decide +kernel
theorem dJ6_numberOfTrailingZeros_0f7a4_20 : decode cJ6_numberOfTrailingZeros_0f7a4 20 = .ok (.ldc_w 264, 3) := by decide +kernel
theorem dJ6_numberOfTrailingZeros_0f7a4_23 : decode cJ6_numberOfTrailingZeros_0f7a4 23 = .ok (.if_icmp .le 11, 3) := by decide +kernel
theorem dJ6_numberOfTrailingZeros_0f7a4_26 : decode cJ6_numberOfTrailingZeros_0f7a4 26 = .ok (.iinc 1 16, 3) := by decide +kernel
theorem dJ6_numberOfTrailingZeros_0f7a4_29 : decode cJ6_numberOfTrailingZeros_0f7a4 29 = .ok (.iload_n 0, 1) := by decide +kernel
theorem dJ6_numberOfTrailingZeros_0f7a4_3 : decode cJ6_numberOfTrailingZeros_0f7a4 3 = .ok (.iload_n 0, 1) := by decide +kernel
theorem dJ6_numberOfTrailingZeros_0f7a4_30 : decode cJ6_numberOfTrailingZeros_0f7a4 30 = .ok (.bipush 16, 2) := by decide +kernel
theorem dJ6_numberOfTrailingZeros_0f7a4_32 : decode cJ6_numberOfTrailingZeros_0f7a4 32 = .ok (.iushr, 1) := by decide +kernel
theorem dJ6_numberOfTrailingZeros_0f7a4_33 : decode cJ6_numberOfTrailingZeros_0f7a4 33 = .ok (.istore_n 0, 1) := by decide +kernel
theorem dJ6_numberOfTrailingZeros_0f7a4_34 : decode cJ6_numberOfTrailingZeros_0f7a4 34 = .ok (.iload_n 0, 1) := by decide +kernel
theorem dJ6_numberOfTrailingZeros_0f7a4_35 : decode cJ6_numberOfTrailingZeros_0f7a4 35 = .ok (.sipush 256, 3) := by decide +kernel
theorem dJ6_numberOfTrailingZeros_0f7a4_38 : decode cJ6_numberOfTrailingZeros_0f7a4 38 = .ok (.if_icmp .le 11, 3) := by decide +kernel
theorem dJ6_numberOfTrailingZeros_0f7a4_4 : decode cJ6_numberOfTrailingZeros_0f7a4 4 = .ok (.iconst 1, 1) := by decide +kernel
theorem dJ6_numberOfTrailingZeros_0f7a4_41 : decode cJ6_numberOfTrailingZeros_0f7a4 41 = .ok (.iinc 1 8, 3) := by decide +kernel
theorem dJ6_numberOfTrailingZeros_0f7a4_44 : decode cJ6_numberOfTrailingZeros_0f7a4 44 = .ok (.iload_n 0, 1) := by decide +kernel
theorem dJ6_numberOfTrailingZeros_0f7a4_45 : decode cJ6_numberOfTrailingZeros_0f7a4 45 = .ok (.bipush 8, 2) := by decide +kernel
theorem dJ6_numberOfTrailingZeros_0f7a4_47 : decode cJ6_numberOfTrailingZeros_0f7a4 47 = .ok (.iushr, 1) := by decide +kernel
theorem dJ6_numberOfTrailingZeros_0f7a4_48 : decode cJ6_numberOfTrailingZeros_0f7a4 48 = .ok (.istore_n 0, 1) := by decide +kernel
theorem dJ6_numberOfTrailingZeros_0f7a4_49 : decode cJ6_numberOfTrailingZeros_0f7a4 49 = .ok (.iload_n 0, 1) := by decide +kernel
theorem dJ6_numberOfTrailingZeros_0f7a4_5 : decode cJ6_numberOfTrailingZeros_0f7a4 5 = .ok (.isub, 1) := by decide +kernel
theorem dJ6_numberOfTrailingZeros_0f7a4_50 : decode cJ6_numberOfTrailingZeros_0f7a4 50 = .ok (.bipush 16, 2) := by decide +kernel
theorem dJ6_numberOfTrailingZeros_0f7a4_52 : decode cJ6_numberOfTrailingZeros_0f7a4 52 = .ok (.if_icmp .le 10, 3) := by decide +kernel
theorem dJ6_numberOfTrailingZeros_0f7a4_55 : decode cJ6_numberOfTrailingZeros_0f7a4 55 = .ok (.iinc 1 4, 3) := by decide +kernel
theorem dJ6_numberOfTrailingZeros_0f7a4_58 : decode cJ6_numberOfTrailingZeros_0f7a4 58 = .ok (.iload_n 0, 1) := by decide +kernel
theorem dJ6_numberOfTrailingZeros_0f7a4_59 : decode cJ6_numberOfTrailingZeros_0f7a4 59 = .ok (.iconst 4, 1) := by decide +kernel
theorem dJ6_numberOfTrailingZeros_0f7a4_6 : decode cJ6_numberOfTrailingZeros_0f7a4 6 = .ok (.iand, 1) := by decide +kernel
theorem dJ6_numberOfTrailingZeros_0f7a4_60 : decode cJ6_numberOfTrailingZeros_0f7a4 60 = .ok (.iushr, 1) := by decide +kernel
theorem dJ6_numberOfTrailingZeros_0f7a4_61 : decode cJ6_numberOfTrailingZeros_0f7a4 61 = .ok (.istore_n 0, 1) := by decide +kernel
theorem dJ6_numberOfTrailingZeros_0f7a4_62 : decode cJ6_numberOfTrailingZeros_0f7a4 62 = .ok (.iload_n 0, 1) := by decide +kernel
theorem dJ6_numberOfTrailingZeros_0f7a4_63 : decode cJ6_numberOfTrailingZeros_0f7a4 63 = .ok (.iconst 4, 1) := by decide +kernel
theorem dJ6_numberOfTrailingZeros_0f7a4_64 : decode cJ6_numberOfTrailingZeros_0f7a4 64 = .ok (.if_icmp .le 10, 3) := by decide +kernel
theorem dJ6_numberOfTrailingZeros_0f7a4_67 : decode cJ6_numberOfTrailingZeros_0f7a4 67 = .ok (.iinc 1 2, 3) := by decide +kernel
theorem dJ6_numberOfTrailingZeros_0f7a4_7 : decode cJ6_numberOfTrailingZeros_0f7a4 7 = .ok (.istore_n 0, 1) := by decide +kernel
theorem dJ6_numberOfTrailingZeros_0f7a4_70 : decode cJ6_numberOfTrailingZeros_0f7a4 70 = .ok (.iload_n 0, 1) := by decide +kernel
theorem dJ6_numberOfTrailingZeros_0f7a4_71 : decode cJ6_numberOfTrailingZeros_0f7a4 71 = .ok (.iconst 2, 1) := by decide +kernel
theorem dJ6_numberOfTrailingZeros_0f7a4_72 : decode cJ6_numberOfTrailingZeros_0f7a4 72 = .ok (.iushr, 1) := by decide +kernel
theorem dJ6_numberOfTrailingZeros_0f7a4_73 : decode cJ6_numberOfTrailingZeros_0f7a4 73 = .ok (.istore_n 0, 1) := by decide +kernel
theorem dJ6_numberOfTrailingZeros_0f7a4_74 : decode cJ6_numberOfTrailingZeros_0f7a4 74 = .ok (.iload_n 1, 1) := by decide +kernel
theorem dJ6_numberOfTrailingZeros_0f7a4_75 : decode cJ6_numberOfTrailingZeros_0f7a4 75 = .ok (.iload_n 0, 1) := by decide +kernel
theorem dJ6_numberOfTrailingZeros_0f7a4_76 : decode cJ6_numberOfTrailingZeros_0f7a4 76 = .ok (.iconst 1, 1) := by decide +kernel
theorem dJ6_numberOfTrailingZeros_0f7a4_77 : decode cJ6_numberOfTrailingZeros_0f7a4 77 = .ok (.iushr, 1) := by decide +kernel
theorem dJ6_numberOfTrailingZeros_0f7a4_78 : decode cJ6_numberOfTrailingZeros_0f7a4 78 = .ok (.iadd, 1) := by decide +kernel
theorem dJ6_numberOfTrailingZeros_0f7a4_79 : decode cJ6_numberOfTrailingZeros_0f7a4 79 = .ok (.ireturn, 1) := by decide +kernel
theorem dJ6_numberOfTrailingZeros_0f7a4_8 : decode cJ6_numberOfTrailingZeros_0f7a4 8 = .ok (.iload_n 0, 1) := by decide +kernel
theorem dJ6_numberOfTrailingZeros_0f7a4_9 : decode cJ6_numberOfTrailingZeros_0f7a4 9 = .ok (.ifCond .gt 8, 3) := by decide +kernel
set_option maxHeartbeats 4000000 in
set_option maxRecDepth 100000 in
theorem k_J6_numberOfTrailingZeros_0f7a4 (l : Launch) (D : va_G) (cI cS : ClassId) (x0 : Int32) : Met l yJ6_numberOfTrailingZeros_0f7a4 wsJ6_numberOfTrailingZeros_0f7a4 ({ frames := 0, cells := 0, slots := 0, locals := 0 }) (PS D cI cS [] [.int x0]) (vp_Si (fun r => Rg 0 33 r ∧ True)) 0 0 (fun _ => False) := by
  refine Met.ofW (cc := cJ6_numberOfTrailingZeros_0f7a4) (maxL := 2) (ret := (some .int)) (by decide) rfl ?_
  intro p e s m args below meth c s₁ B hml hv
  obtain ⟨rfl, hP, hKK⟩ := hv
  have hx := B.exec
  have hb := B.bytes
  have hr := B.returns
  have hts := atoms_spec (ws := wsJ6_numberOfTrailingZeros_0f7a4) B.pre
  have hown : s.vm.findClass RJ6 = some m.cls := findClass_of_methodNamed B.named
  have hlocks := B.notSynchronized
  have hK := hKK.1
  have hl := lv_entry ([.int x0]) (n := 2) (Nat.le_of_ble_eq_true rfl)
  rw [lg_entry_eq]
  generalize (lg_sl ([.int x0]) ++ List.replicate (2 - (lg_sl ([.int x0])).length) Slot.unset).toArray = ls at hl ⊢
  have hl : lv_has ls 2 [(0, .int x0)] := hl
  have ct62 : ∀ (y62_l0 : Int32) (y62_l1 : Int32) (ls : Array Slot), Rg 1 16 y62_l0 → Rg 1 29 y62_l1 → lv_has ls 2 [(0, .int y62_l0), (1, .int y62_l1)] → W p l e (headSpec wsJ6_numberOfTrailingZeros_0f7a4 ({ frames := 0, cells := 0, slots := 0, locals := 0 })).room s m ([.int x0]).toArray below meth c s.heap [] 0 0 (MQ below (vp_Si (fun r => Rg 0 33 r ∧ True)) ([.int x0]).toArray s 0 0 (fun _ => False)) (F0 m 62 ls []) := by
    intro y62_l0 y62_l1 ls g62_l0 g62_l1 hl
    refine lv_iload_n hx hb dJ6_numberOfTrailingZeros_0f7a4_62 rfl (lv_at hl 0 rfl) ?_
    refine lv_iconst (v := 4) hx hb dJ6_numberOfTrailingZeros_0f7a4_63 (by decide) ?_
    refine lv_icmp_le (tgt := 74) hx hb dJ6_numberOfTrailingZeros_0f7a4_64 (by decide) (fun c30972 => ?_) (fun c30972 => ?_)
    · have g30973 : Rg 1 4 y62_l0 := rg_lel g62_l0 (by decide : Rg 4 4 (4 : Int32)) c30972 (by decide)
      refine lv_iload_n hx hb dJ6_numberOfTrailingZeros_0f7a4_74 rfl (lv_at hl 1 rfl) ?_
      refine lv_iload_n hx hb dJ6_numberOfTrailingZeros_0f7a4_75 rfl (lv_at hl 0 rfl) ?_
      refine lv_iconst (v := 1) hx hb dJ6_numberOfTrailingZeros_0f7a4_76 (by decide) ?_
      refine wk_iushr 1 (e1 := 0) (f := 2) hx hb dJ6_numberOfTrailingZeros_0f7a4_77 g30973 (by decide) (by decide) (fun r30974 hr30974 => ?_)
      refine wk_iadd (e1 := 1) (f := 31) hx hb dJ6_numberOfTrailingZeros_0f7a4_78 g62_l1 hr30974 (by decide) (fun r30975 hr30975 er30975 qr30975 => ?_)
      exact W.iret (v := r30975) hx hb hr (fun t ht hW => ⟨_, rfl, ⟨(show Rg 0 33 r30975 from rg_w hr30975 (by decide) (by decide)), trivial⟩, ht⟩) (fun q hq => absurd hq List.not_mem_nil) dJ6_numberOfTrailingZeros_0f7a4_79
    · have g30976 : Rg 5 16 y62_l0 := rg_ltr (by decide : Rg 4 4 (4 : Int32)) g62_l0 (rg_nle c30972) (by decide)
      refine wk_iinc (lv' := fun r => [(1, .int r), (0, .int y62_l0)]) (e1 := 3) (f := 31) hx hb dJ6_numberOfTrailingZeros_0f7a4_67 hl (k := 1) rfl (by decide) g62_l1 (by decide) (fun _ => rfl) (fun r30977 ls hr30977 er30977 hl => ?_)
      refine lv_iload_n hx hb dJ6_numberOfTrailingZeros_0f7a4_70 rfl (lv_at hl 1 rfl) ?_
      refine lv_iconst (v := 2) hx hb dJ6_numberOfTrailingZeros_0f7a4_71 (by decide) ?_
      refine wk_iushr 2 (e1 := 1) (f := 4) hx hb dJ6_numberOfTrailingZeros_0f7a4_72 g30976 (by decide) (by decide) (fun r30978 hr30978 => ?_)
      refine lv_istore_n (lv' := [(0, .int r30978), (1, .int r30977)]) hx hb dJ6_numberOfTrailingZeros_0f7a4_73 rfl hl (by decide) rfl (fun ls hl => ?_)
      refine lv_iload_n hx hb dJ6_numberOfTrailingZeros_0f7a4_74 rfl (lv_at hl 1 rfl) ?_
      refine lv_iload_n hx hb dJ6_numberOfTrailingZeros_0f7a4_75 rfl (lv_at hl 0 rfl) ?_
      refine lv_iconst (v := 1) hx hb dJ6_numberOfTrailingZeros_0f7a4_76 (by decide) ?_
      refine wk_iushr 1 (e1 := 0) (f := 2) hx hb dJ6_numberOfTrailingZeros_0f7a4_77 hr30978 (by decide) (by decide) (fun r30979 hr30979 => ?_)
      refine wk_iadd (e1 := 3) (f := 33) hx hb dJ6_numberOfTrailingZeros_0f7a4_78 hr30977 hr30979 (by decide) (fun r30980 hr30980 er30980 qr30980 => ?_)
      exact W.iret (v := r30980) hx hb hr (fun t ht hW => ⟨_, rfl, ⟨(show Rg 0 33 r30980 from rg_w hr30980 (by decide) (by decide)), trivial⟩, ht⟩) (fun q hq => absurd hq List.not_mem_nil) dJ6_numberOfTrailingZeros_0f7a4_79
  have ct34 : ∀ (y34_l0 : Int32) (y34_l1 : Int32) (ls : Array Slot), Rg 1 65536 y34_l0 → Rg 1 17 y34_l1 → lv_has ls 2 [(0, .int y34_l0), (1, .int y34_l1)] → W p l e (headSpec wsJ6_numberOfTrailingZeros_0f7a4 ({ frames := 0, cells := 0, slots := 0, locals := 0 })).room s m ([.int x0]).toArray below meth c s.heap [] 0 0 (MQ below (vp_Si (fun r => Rg 0 33 r ∧ True)) ([.int x0]).toArray s 0 0 (fun _ => False)) (F0 m 34 ls []) := by
    intro y34_l0 y34_l1 ls g34_l0 g34_l1 hl
    refine lv_iload_n hx hb dJ6_numberOfTrailingZeros_0f7a4_34 rfl (lv_at hl 0 rfl) ?_
    refine lv_sipush (v := 256) hx hb dJ6_numberOfTrailingZeros_0f7a4_35 (by decide) ?_
    refine lv_icmp_le (tgt := 49) hx hb dJ6_numberOfTrailingZeros_0f7a4_38 (by decide) (fun c30981 => ?_) (fun c30981 => ?_)
    · have g30982 : Rg 1 256 y34_l0 := rg_lel g34_l0 (by decide : Rg 256 256 (256 : Int32)) c30981 (by decide)
      refine lv_iload_n hx hb dJ6_numberOfTrailingZeros_0f7a4_49 rfl (lv_at hl 0 rfl) ?_
      refine lv_bipush (v := 16) hx hb dJ6_numberOfTrailingZeros_0f7a4_50 (by decide) ?_
      refine lv_icmp_le (tgt := 62) hx hb dJ6_numberOfTrailingZeros_0f7a4_52 (by decide) (fun c30983 => ?_) (fun c30983 => ?_)
      · have g30984 : Rg 1 16 y34_l0 := rg_lel g30982 (by decide : Rg 16 16 (16 : Int32)) c30983 (by decide)
        exact ct62 y34_l0 y34_l1 ls g30984 (show Rg 1 29 y34_l1 from rg_w g34_l1 (by decide) (by decide)) (lv_sub (l' := [(0, .int y34_l0), (1, .int y34_l1)]) hl [0, 1] rfl)
      · have g30985 : Rg 17 256 y34_l0 := rg_ltr (by decide : Rg 16 16 (16 : Int32)) g30982 (rg_nle c30983) (by decide)
        refine wk_iinc (lv' := fun r => [(1, .int r), (0, .int y34_l0)]) (e1 := 5) (f := 21) hx hb dJ6_numberOfTrailingZeros_0f7a4_55 hl (k := 1) rfl (by decide) g34_l1 (by decide) (fun _ => rfl) (fun r30986 ls hr30986 er30986 hl => ?_)
        refine lv_iload_n hx hb dJ6_numberOfTrailingZeros_0f7a4_58 rfl (lv_at hl 1 rfl) ?_
        refine lv_iconst (v := 4) hx hb dJ6_numberOfTrailingZeros_0f7a4_59 (by decide) ?_
        refine wk_iushr 4 (e1 := 1) (f := 16) hx hb dJ6_numberOfTrailingZeros_0f7a4_60 g30985 (by decide) (by decide) (fun r30987 hr30987 => ?_)
        refine lv_istore_n (lv' := [(0, .int r30987), (1, .int r30986)]) hx hb dJ6_numberOfTrailingZeros_0f7a4_61 rfl hl (by decide) rfl (fun ls hl => ?_)
        exact ct62 r30987 r30986 ls hr30987 (show Rg 1 29 r30986 from rg_w hr30986 (by decide) (by decide)) (lv_sub (l' := [(0, .int r30987), (1, .int r30986)]) hl [0, 1] rfl)
    · have g30988 : Rg 257 65536 y34_l0 := rg_ltr (by decide : Rg 256 256 (256 : Int32)) g34_l0 (rg_nle c30981) (by decide)
      refine wk_iinc (lv' := fun r => [(1, .int r), (0, .int y34_l0)]) (e1 := 9) (f := 25) hx hb dJ6_numberOfTrailingZeros_0f7a4_41 hl (k := 1) rfl (by decide) g34_l1 (by decide) (fun _ => rfl) (fun r30989 ls hr30989 er30989 hl => ?_)
      refine lv_iload_n hx hb dJ6_numberOfTrailingZeros_0f7a4_44 rfl (lv_at hl 1 rfl) ?_
      refine lv_bipush (v := 8) hx hb dJ6_numberOfTrailingZeros_0f7a4_45 (by decide) ?_
      refine wk_iushr 8 (e1 := 1) (f := 256) hx hb dJ6_numberOfTrailingZeros_0f7a4_47 g30988 (by decide) (by decide) (fun r30990 hr30990 => ?_)
      refine lv_istore_n (lv' := [(0, .int r30990), (1, .int r30989)]) hx hb dJ6_numberOfTrailingZeros_0f7a4_48 rfl hl (by decide) rfl (fun ls hl => ?_)
      refine lv_iload_n hx hb dJ6_numberOfTrailingZeros_0f7a4_49 rfl (lv_at hl 0 rfl) ?_
      refine lv_bipush (v := 16) hx hb dJ6_numberOfTrailingZeros_0f7a4_50 (by decide) ?_
      refine lv_icmp_le (tgt := 62) hx hb dJ6_numberOfTrailingZeros_0f7a4_52 (by decide) (fun c30991 => ?_) (fun c30991 => ?_)
      · have g30992 : Rg 1 16 r30990 := rg_lel hr30990 (by decide : Rg 16 16 (16 : Int32)) c30991 (by decide)
        exact ct62 r30990 r30989 ls g30992 (show Rg 1 29 r30989 from rg_w hr30989 (by decide) (by decide)) (lv_sub (l' := [(0, .int r30990), (1, .int r30989)]) hl [0, 1] rfl)
      · have g30993 : Rg 17 256 r30990 := rg_ltr (by decide : Rg 16 16 (16 : Int32)) hr30990 (rg_nle c30991) (by decide)
        refine wk_iinc (lv' := fun r => [(1, .int r), (0, .int r30990)]) (e1 := 13) (f := 29) hx hb dJ6_numberOfTrailingZeros_0f7a4_55 hl (k := 1) rfl (by decide) hr30989 (by decide) (fun _ => rfl) (fun r30994 ls hr30994 er30994 hl => ?_)
        refine lv_iload_n hx hb dJ6_numberOfTrailingZeros_0f7a4_58 rfl (lv_at hl 1 rfl) ?_
        refine lv_iconst (v := 4) hx hb dJ6_numberOfTrailingZeros_0f7a4_59 (by decide) ?_
        refine wk_iushr 4 (e1 := 1) (f := 16) hx hb dJ6_numberOfTrailingZeros_0f7a4_60 g30993 (by decide) (by decide) (fun r30995 hr30995 => ?_)
        refine lv_istore_n (lv' := [(0, .int r30995), (1, .int r30994)]) hx hb dJ6_numberOfTrailingZeros_0f7a4_61 rfl hl (by decide) rfl (fun ls hl => ?_)
        exact ct62 r30995 r30994 ls hr30995 (show Rg 1 29 r30994 from rg_w hr30994 (by decide) (by decide)) (lv_sub (l' := [(0, .int r30995), (1, .int r30994)]) hl [0, 1] rfl)
  refine lv_iload_n hx hb dJ6_numberOfTrailingZeros_0f7a4_0 rfl (lv_at hl 0 rfl) ?_
  refine lv_iconst (v := (-1)) hx hb dJ6_numberOfTrailingZeros_0f7a4_1 (by decide) ?_
  refine lv_ixor hx hb dJ6_numberOfTrailingZeros_0f7a4_2 ?_
  refine wk_topP (P := fun r => r = x0 ^^^ ((-1) : Int32)) rfl (fun r30996 qr30996 => ?_)
  refine lv_iload_n hx hb dJ6_numberOfTrailingZeros_0f7a4_3 rfl (lv_at hl 0 rfl) ?_
  refine lv_iconst (v := 1) hx hb dJ6_numberOfTrailingZeros_0f7a4_4 (by decide) ?_
  refine lv_isub hx hb dJ6_numberOfTrailingZeros_0f7a4_5 ?_
  refine wk_topP (P := fun r => r = x0 - (1 : Int32)) rfl (fun r30997 qr30997 => ?_)
  refine lv_iand hx hb dJ6_numberOfTrailingZeros_0f7a4_6 ?_
  refine wk_topP (P := fun r => r = r30996 &&& r30997) rfl (fun r30998 qr30998 => ?_)
  refine lv_istore_n (lv' := [(0, .int r30998)]) hx hb dJ6_numberOfTrailingZeros_0f7a4_7 rfl hl (by decide) rfl (fun ls hl => ?_)
  refine lv_iload_n hx hb dJ6_numberOfTrailingZeros_0f7a4_8 rfl (lv_at hl 0 rfl) ?_
  refine lv_if_gt (tgt := 17) hx hb dJ6_numberOfTrailingZeros_0f7a4_9 (by decide) (fun c30999 => ?_) (fun c30999 => ?_)
  · have g31000 : Rg 1 2147483647 r30998 := rg_ltr (by decide : Rg 0 0 (0 : Int32)) (rg_any r30998) c30999 (by decide)
    refine lv_iconst (v := 1) hx hb dJ6_numberOfTrailingZeros_0f7a4_17 (by decide) ?_
    refine lv_istore_n (lv' := [(1, .int 1), (0, .int r30998)]) hx hb dJ6_numberOfTrailingZeros_0f7a4_18 rfl hl (by decide) rfl (fun ls hl => ?_)
    refine lv_iload_n hx hb dJ6_numberOfTrailingZeros_0f7a4_19 rfl (lv_at hl 1 rfl) ?_
    refine lv_ldcw hx hb hown (hts (.constant RJ6 264 (65536)) (by decide +kernel)) dJ6_numberOfTrailingZeros_0f7a4_20 ?_
    refine lv_icmp_le (tgt := 34) hx hb dJ6_numberOfTrailingZeros_0f7a4_23 (by decide) (fun c31001 => ?_) (fun c31001 => ?_)
    · have g31002 : Rg 1 65536 r30998 := rg_lel g31000 (by decide : Rg 65536 65536 (65536 : Int32)) c31001 (by decide)
      exact ct34 r30998 (1 : Int32) ls g31002 (by decide : Rg 1 17 (1 : Int32)) (lv_sub (l' := [(0, .int r30998), (1, .int 1)]) hl [1, 0] rfl)
    · have g31003 : Rg 65537 2147483647 r30998 := rg_ltr (by decide : Rg 65536 65536 (65536 : Int32)) g31000 (rg_nle c31001) (by decide)
      refine wk_iinc (lv' := fun r => [(1, .int r), (0, .int r30998)]) (e1 := 17) (f := 17) hx hb dJ6_numberOfTrailingZeros_0f7a4_26 hl (k := 0) rfl (by decide) (by decide : Rg 1 1 (1 : Int32)) (by decide) (fun _ => rfl) (fun r31004 ls hr31004 er31004 hl => ?_)
      refine lv_iload_n hx hb dJ6_numberOfTrailingZeros_0f7a4_29 rfl (lv_at hl 1 rfl) ?_
      refine lv_bipush (v := 16) hx hb dJ6_numberOfTrailingZeros_0f7a4_30 (by decide) ?_
      refine wk_iushr 16 (e1 := 1) (f := 32767) hx hb dJ6_numberOfTrailingZeros_0f7a4_32 g31003 (by decide) (by decide) (fun r31005 hr31005 => ?_)
      refine lv_istore_n (lv' := [(0, .int r31005), (1, .int r31004)]) hx hb dJ6_numberOfTrailingZeros_0f7a4_33 rfl hl (by decide) rfl (fun ls hl => ?_)
      exact ct34 r31005 r31004 ls (show Rg 1 65536 r31005 from rg_w hr31005 (by decide) (by decide)) (show Rg 1 17 r31004 from rg_w hr31004 (by decide) (by decide)) (lv_sub (l' := [(0, .int r31005), (1, .int r31004)]) hl [0, 1] rfl)
  · have g31006 : Rg (-2147483648) 0 r30998 := rg_lel (rg_any r30998) (by decide : Rg 0 0 (0 : Int32)) (rg_nlt c30999) (by decide)
    refine lv_iload_n hx hb dJ6_numberOfTrailingZeros_0f7a4_12 rfl (lv_at hl 0 rfl) ?_
    refine lv_bipush (v := 32) hx hb dJ6_numberOfTrailingZeros_0f7a4_13 (by decide) ?_
    refine wk_iandr hx hb dJ6_numberOfTrailingZeros_0f7a4_15 (by decide : Rg 32 32 (32 : Int32)) (by decide) (fun r31007 hr31007 qr31007 => ?_)
    exact W.iret (v := r31007) hx hb hr (fun t ht hW => ⟨_, rfl, ⟨(show Rg 0 33 r31007 from rg_w hr31007 (by decide) (by decide)), trivial⟩, ht⟩) (fun q hq => absurd hq List.not_mem_nil) dJ6_numberOfTrailingZeros_0f7a4_16
set_option maxHeartbeats 4000000 in
set_option maxRecDepth 100000 in
theorem k_J6_numberOfLeadingZeros_0f7a4 (l : Launch) (D : va_G) (cI cS : ClassId) (x0 : Int32) : Met l yJ6_numberOfLeadingZeros_0f7a4 wsJ6_numberOfLeadingZeros_0f7a4 ({ frames := 0, cells := 0, slots := 0, locals := 0 }) (PS D cI cS [] [.int x0]) (vp_Si (fun r => Rg 0 32 r ∧ (¬ x0 = 0 → Rg 0 31 r))) 0 0 (fun _ => False) := by
  refine Met.ofW (cc := cJ6_numberOfLeadingZeros_0f7a4) (maxL := 2) (ret := (some .int)) (by decide) rfl ?_
  intro p e s m args below meth c s₁ B hml hv
  obtain ⟨rfl, hP, hKK⟩ := hv
  have hx := B.exec
  have hb := B.bytes
  have hr := B.returns
  have hts := atoms_spec (ws := wsJ6_numberOfLeadingZeros_0f7a4) B.pre
  have hown : s.vm.findClass RJ6 = some m.cls := findClass_of_methodNamed B.named
  have hlocks := B.notSynchronized
  have hK := hKK.1
  have hl := lv_entry ([.int x0]) (n := 2) (Nat.le_of_ble_eq_true rfl)
  rw [lg_entry_eq]
  generalize (lg_sl ([.int x0]) ++ List.replicate (2 - (lg_sl ([.int x0])).length) Slot.unset).toArray = ls at hl ⊢
  have hl : lv_has ls 2 [(0, .int x0)] := hl
  have ct61 : ∀ (y61_l0 : Int32) (y61_l1 : Int32) (ls : Array Slot), Rg 1 15 y61_l0 → Rg 3 31 y61_l1 → lv_has ls 2 [(0, .int y61_l0), (1, .int y61_l1)] → W p l e (headSpec wsJ6_numberOfLeadingZeros_0f7a4 ({ frames := 0, cells := 0, slots := 0, locals := 0 })).room s m ([.int x0]).toArray below meth c s.heap [] 0 0 (MQ below (vp_Si (fun r => Rg 0 32 r ∧ (¬ x0 = 0 → Rg 0 31 r))) ([.int x0]).toArray s 0 0 (fun _ => False)) (F0 m 61 ls []) := by
    intro y61_l0 y61_l1 ls g61_l0 g61_l1 hl
    refine lv_iload_n hx hb dJ6_numberOfLeadingZeros_0f7a4_61 rfl (lv_at hl 0 rfl) ?_
    refine lv_iconst (v := 4) hx hb dJ6_numberOfLeadingZeros_0f7a4_62 (by decide) ?_
    refine lv_icmp_lt (tgt := 73) hx hb dJ6_numberOfLeadingZeros_0f7a4_63 (by decide) (fun c31069 => ?_) (fun c31069 => ?_)
    · have g31070 : Rg 1 3 y61_l0 := rg_ltl g61_l0 (by decide : Rg 4 4 (4 : Int32)) c31069 (by decide)
      refine lv_iload_n hx hb dJ6_numberOfLeadingZeros_0f7a4_73 rfl (lv_at hl 1 rfl) ?_
      refine lv_iload_n hx hb dJ6_numberOfLeadingZeros_0f7a4_74 rfl (lv_at hl 0 rfl) ?_
      refine lv_iconst (v := 1) hx hb dJ6_numberOfLeadingZeros_0f7a4_75 (by decide) ?_
      refine wk_iushr 1 (e1 := 0) (f := 1) hx hb dJ6_numberOfLeadingZeros_0f7a4_76 g31070 (by decide) (by decide) (fun r31071 hr31071 => ?_)
      refine wk_isub (e1 := 2) (f := 31) hx hb dJ6_numberOfLeadingZeros_0f7a4_77 g61_l1 hr31071 (by decide) (fun r31072 hr31072 er31072 qr31072 => ?_)
      exact W.iret (v := r31072) hx hb hr (fun t ht hW => ⟨_, rfl, ⟨(show Rg 0 32 r31072 from rg_w hr31072 (by decide) (by decide)), fun _ => (show Rg 0 31 r31072 from rg_w hr31072 (by decide) (by decide))⟩, ht⟩) (fun q hq => absurd hq List.not_mem_nil) dJ6_numberOfLeadingZeros_0f7a4_78
    · have g31073 : Rg 4 15 y61_l0 := rg_ler (by decide : Rg 4 4 (4 : Int32)) g61_l0 (rg_nlt c31069) (by decide)
      refine wk_iinc (lv' := fun r => [(1, .int r), (0, .int y61_l0)]) (e1 := 1) (f := 29) hx hb dJ6_numberOfLeadingZeros_0f7a4_66 hl (k := 1) rfl (by decide) g61_l1 (by decide) (fun _ => rfl) (fun r31074 ls hr31074 er31074 hl => ?_)
      refine lv_iload_n hx hb dJ6_numberOfLeadingZeros_0f7a4_69 rfl (lv_at hl 1 rfl) ?_
      refine lv_iconst (v := 2) hx hb dJ6_numberOfLeadingZeros_0f7a4_70 (by decide) ?_
      refine wk_iushr 2 (e1 := 1) (f := 3) hx hb dJ6_numberOfLeadingZeros_0f7a4_71 g31073 (by decide) (by decide) (fun r31075 hr31075 => ?_)
      refine lv_istore_n (lv' := [(0, .int r31075), (1, .int r31074)]) hx hb dJ6_numberOfLeadingZeros_0f7a4_72 rfl hl (by decide) rfl (fun ls hl => ?_)
      refine lv_iload_n hx hb dJ6_numberOfLeadingZeros_0f7a4_73 rfl (lv_at hl 1 rfl) ?_
      refine lv_iload_n hx hb dJ6_numberOfLeadingZeros_0f7a4_74 rfl (lv_at hl 0 rfl) ?_
      refine lv_iconst (v := 1) hx hb dJ6_numberOfLeadingZeros_0f7a4_75 (by decide) ?_
      refine wk_iushr 1 (e1 := 0) (f := 1) hx hb dJ6_numberOfLeadingZeros_0f7a4_76 hr31075 (by decide) (by decide) (fun r31076 hr31076 => ?_)
      refine wk_isub (e1 := 0) (f := 29) hx hb dJ6_numberOfLeadingZeros_0f7a4_77 hr31074 hr31076 (by decide) (fun r31077 hr31077 er31077 qr31077 => ?_)
      exact W.iret (v := r31077) hx hb hr (fun t ht hW => ⟨_, rfl, ⟨(show Rg 0 32 r31077 from rg_w hr31077 (by decide) (by decide)), fun _ => (show Rg 0 31 r31077 from rg_w hr31077 (by decide) (by decide))⟩, ht⟩) (fun q hq => absurd hq List.not_mem_nil) dJ6_numberOfLeadingZeros_0f7a4_78
  have ct33 : ∀ (y33_l0 : Int32) (y33_l1 : Int32) (ls : Array Slot), Rg 1 65535 y33_l0 → Rg 15 31 y33_l1 → lv_has ls 2 [(0, .int y33_l0), (1, .int y33_l1)] → W p l e (headSpec wsJ6_numberOfLeadingZeros_0f7a4 ({ frames := 0, cells := 0, slots := 0, locals := 0 })).room s m ([.int x0]).toArray below meth c s.heap [] 0 0 (MQ below (vp_Si (fun r => Rg 0 32 r ∧ (¬ x0 = 0 → Rg 0 31 r))) ([.int x0]).toArray s 0 0 (fun _ => False)) (F0 m 33 ls []) := by
    intro y33_l0 y33_l1 ls g33_l0 g33_l1 hl
    refine lv_iload_n hx hb dJ6_numberOfLeadingZeros_0f7a4_33 rfl (lv_at hl 0 rfl) ?_
    refine lv_sipush (v := 256) hx hb dJ6_numberOfLeadingZeros_0f7a4_34 (by decide) ?_
    refine lv_icmp_lt (tgt := 48) hx hb dJ6_numberOfLeadingZeros_0f7a4_37 (by decide) (fun c31078 => ?_) (fun c31078 => ?_)
    · have g31079 : Rg 1 255 y33_l0 := rg_ltl g33_l0 (by decide : Rg 256 256 (256 : Int32)) c31078 (by decide)
      refine lv_iload_n hx hb dJ6_numberOfLeadingZeros_0f7a4_48 rfl (lv_at hl 0 rfl) ?_
      refine lv_bipush (v := 16) hx hb dJ6_numberOfLeadingZeros_0f7a4_49 (by decide) ?_
      refine lv_icmp_lt (tgt := 61) hx hb dJ6_numberOfLeadingZeros_0f7a4_51 (by decide) (fun c31080 => ?_) (fun c31080 => ?_)
      · have g31081 : Rg 1 15 y33_l0 := rg_ltl g31079 (by decide : Rg 16 16 (16 : Int32)) c31080 (by decide)
        exact ct61 y33_l0 y33_l1 ls g31081 (show Rg 3 31 y33_l1 from rg_w g33_l1 (by decide) (by decide)) (lv_sub (l' := [(0, .int y33_l0), (1, .int y33_l1)]) hl [0, 1] rfl)
      · have g31082 : Rg 16 255 y33_l0 := rg_ler (by decide : Rg 16 16 (16 : Int32)) g31079 (rg_nlt c31080) (by decide)
        refine wk_iinc (lv' := fun r => [(1, .int r), (0, .int y33_l0)]) (e1 := 11) (f := 27) hx hb dJ6_numberOfLeadingZeros_0f7a4_54 hl (k := 1) rfl (by decide) g33_l1 (by decide) (fun _ => rfl) (fun r31083 ls hr31083 er31083 hl => ?_)
        refine lv_iload_n hx hb dJ6_numberOfLeadingZeros_0f7a4_57 rfl (lv_at hl 1 rfl) ?_
        refine lv_iconst (v := 4) hx hb dJ6_numberOfLeadingZeros_0f7a4_58 (by decide) ?_
        refine wk_iushr 4 (e1 := 1) (f := 15) hx hb dJ6_numberOfLeadingZeros_0f7a4_59 g31082 (by decide) (by decide) (fun r31084 hr31084 => ?_)
        refine lv_istore_n (lv' := [(0, .int r31084), (1, .int r31083)]) hx hb dJ6_numberOfLeadingZeros_0f7a4_60 rfl hl (by decide) rfl (fun ls hl => ?_)
        exact ct61 r31084 r31083 ls hr31084 (show Rg 3 31 r31083 from rg_w hr31083 (by decide) (by decide)) (lv_sub (l' := [(0, .int r31084), (1, .int r31083)]) hl [0, 1] rfl)
    · have g31085 : Rg 256 65535 y33_l0 := rg_ler (by decide : Rg 256 256 (256 : Int32)) g33_l0 (rg_nlt c31078) (by decide)
      refine wk_iinc (lv' := fun r => [(1, .int r), (0, .int y33_l0)]) (e1 := 7) (f := 23) hx hb dJ6_numberOfLeadingZeros_0f7a4_40 hl (k := 1) rfl (by decide) g33_l1 (by decide) (fun _ => rfl) (fun r31086 ls hr31086 er31086 hl => ?_)
      refine lv_iload_n hx hb dJ6_numberOfLeadingZeros_0f7a4_43 rfl (lv_at hl 1 rfl) ?_
      refine lv_bipush (v := 8) hx hb dJ6_numberOfLeadingZeros_0f7a4_44 (by decide) ?_
      refine wk_iushr 8 (e1 := 1) (f := 255) hx hb dJ6_numberOfLeadingZeros_0f7a4_46 g31085 (by decide) (by decide) (fun r31087 hr31087 => ?_)
      refine lv_istore_n (lv' := [(0, .int r31087), (1, .int r31086)]) hx hb dJ6_numberOfLeadingZeros_0f7a4_47 rfl hl (by decide) rfl (fun ls hl => ?_)
      refine lv_iload_n hx hb dJ6_numberOfLeadingZeros_0f7a4_48 rfl (lv_at hl 0 rfl) ?_
      refine lv_bipush (v := 16) hx hb dJ6_numberOfLeadingZeros_0f7a4_49 (by decide) ?_
      refine lv_icmp_lt (tgt := 61) hx hb dJ6_numberOfLeadingZeros_0f7a4_51 (by decide) (fun c31088 => ?_) (fun c31088 => ?_)
      · have g31089 : Rg 1 15 r31087 := rg_ltl hr31087 (by decide : Rg 16 16 (16 : Int32)) c31088 (by decide)
        exact ct61 r31087 r31086 ls g31089 (show Rg 3 31 r31086 from rg_w hr31086 (by decide) (by decide)) (lv_sub (l' := [(0, .int r31087), (1, .int r31086)]) hl [0, 1] rfl)
      · have g31090 : Rg 16 255 r31087 := rg_ler (by decide : Rg 16 16 (16 : Int32)) hr31087 (rg_nlt c31088) (by decide)
        refine wk_iinc (lv' := fun r => [(1, .int r), (0, .int r31087)]) (e1 := 3) (f := 19) hx hb dJ6_numberOfLeadingZeros_0f7a4_54 hl (k := 1) rfl (by decide) hr31086 (by decide) (fun _ => rfl) (fun r31091 ls hr31091 er31091 hl => ?_)
        refine lv_iload_n hx hb dJ6_numberOfLeadingZeros_0f7a4_57 rfl (lv_at hl 1 rfl) ?_
        refine lv_iconst (v := 4) hx hb dJ6_numberOfLeadingZeros_0f7a4_58 (by decide) ?_
        refine wk_iushr 4 (e1 := 1) (f := 15) hx hb dJ6_numberOfLeadingZeros_0f7a4_59 g31090 (by decide) (by decide) (fun r31092 hr31092 => ?_)
        refine lv_istore_n (lv' := [(0, .int r31092), (1, .int r31091)]) hx hb dJ6_numberOfLeadingZeros_0f7a4_60 rfl hl (by decide) rfl (fun ls hl => ?_)
        exact ct61 r31092 r31091 ls hr31092 (show Rg 3 31 r31091 from rg_w hr31091 (by decide) (by decide)) (lv_sub (l' := [(0, .int r31092), (1, .int r31091)]) hl [0, 1] rfl)
  refine lv_iload_n hx hb dJ6_numberOfLeadingZeros_0f7a4_0 rfl (lv_at hl 0 rfl) ?_
  refine lv_if_gt (tgt := 15) hx hb dJ6_numberOfLeadingZeros_0f7a4_1 (by decide) (fun c31093 => ?_) (fun c31093 => ?_)
  · have g31094 : Rg 1 2147483647 x0 := rg_ltr (by decide : Rg 0 0 (0 : Int32)) (rg_any x0) c31093 (by decide)
    refine lv_bipush (v := 31) hx hb dJ6_numberOfLeadingZeros_0f7a4_15 (by decide) ?_
    refine lv_istore_n (lv' := [(1, .int 31), (0, .int x0)]) hx hb dJ6_numberOfLeadingZeros_0f7a4_17 rfl hl (by decide) rfl (fun ls hl => ?_)
    refine lv_iload_n hx hb dJ6_numberOfLeadingZeros_0f7a4_18 rfl (lv_at hl 1 rfl) ?_
    refine lv_ldcw hx hb hown (hts (.constant RJ6 264 (65536)) (by decide +kernel)) dJ6_numberOfLeadingZeros_0f7a4_19 ?_
    refine lv_icmp_lt (tgt := 33) hx hb dJ6_numberOfLeadingZeros_0f7a4_22 (by decide) (fun c31095 => ?_) (fun c31095 => ?_)
    · have g31096 : Rg 1 65535 x0 := rg_ltl g31094 (by decide : Rg 65536 65536 (65536 : Int32)) c31095 (by decide)
      exact ct33 x0 (31 : Int32) ls g31096 (by decide : Rg 15 31 (31 : Int32)) (lv_sub (l' := [(0, .int x0), (1, .int 31)]) hl [1, 0] rfl)
    · have g31097 : Rg 65536 2147483647 x0 := rg_ler (by decide : Rg 65536 65536 (65536 : Int32)) g31094 (rg_nlt c31095) (by decide)
      refine wk_iinc (lv' := fun r => [(1, .int r), (0, .int x0)]) (e1 := 15) (f := 15) hx hb dJ6_numberOfLeadingZeros_0f7a4_25 hl (k := 0) rfl (by decide) (by decide : Rg 31 31 (31 : Int32)) (by decide) (fun _ => rfl) (fun r31098 ls hr31098 er31098 hl => ?_)
      refine lv_iload_n hx hb dJ6_numberOfLeadingZeros_0f7a4_28 rfl (lv_at hl 1 rfl) ?_
      refine lv_bipush (v := 16) hx hb dJ6_numberOfLeadingZeros_0f7a4_29 (by decide) ?_
      refine wk_iushr 16 (e1 := 1) (f := 32767) hx hb dJ6_numberOfLeadingZeros_0f7a4_31 g31097 (by decide) (by decide) (fun r31099 hr31099 => ?_)
      refine lv_istore_n (lv' := [(0, .int r31099), (1, .int r31098)]) hx hb dJ6_numberOfLeadingZeros_0f7a4_32 rfl hl (by decide) rfl (fun ls hl => ?_)
      exact ct33 r31099 r31098 ls (show Rg 1 65535 r31099 from rg_w hr31099 (by decide) (by decide)) (show Rg 15 31 r31098 from rg_w hr31098 (by decide) (by decide)) (lv_sub (l' := [(0, .int r31099), (1, .int r31098)]) hl [0, 1] rfl)
  · have g31100 : Rg (-2147483648) 0 x0 := rg_lel (rg_any x0) (by decide : Rg 0 0 (0 : Int32)) (rg_nlt c31093) (by decide)
    refine lv_iload_n hx hb dJ6_numberOfLeadingZeros_0f7a4_4 rfl (lv_at hl 0 rfl) ?_
    refine lv_if_ne (tgt := 13) hx hb dJ6_numberOfLeadingZeros_0f7a4_5 (by decide) (fun c31101 => ?_) (fun c31101 => ?_)
    · have g31102 : Rg (-2147483648) (-1) x0 := rg_ne_hi (k := 0) g31100 (by decide) c31101 (by decide)
      refine lv_iconst (v := 0) hx hb dJ6_numberOfLeadingZeros_0f7a4_13 (by decide) ?_
      exact W.iret (v := 0) hx hb hr (fun t ht hW => ⟨_, rfl, ⟨(by decide : Rg 0 32 (0 : Int32)), fun _ => (by decide : Rg 0 31 (0 : Int32))⟩, ht⟩) (fun q hq => absurd hq List.not_mem_nil) dJ6_numberOfLeadingZeros_0f7a4_14
    · have g31103 : Rg 0 0 x0 := wk_eql g31100 (by decide : Rg 0 0 (0 : Int32)) c31101 (by decide)
      refine lv_bipush (v := 32) hx hb dJ6_numberOfLeadingZeros_0f7a4_8 (by decide) ?_
      refine lv_goto (tgt := 14) hx hb dJ6_numberOfLeadingZeros_0f7a4_10 (by decide) ?_
      exact W.iret (v := 32) hx hb hr (fun t ht hW => ⟨_, rfl, ⟨(by decide : Rg 0 32 (32 : Int32)), fun h9 => absurd c31101 h9⟩, ht⟩) (fun q hq => absurd hq List.not_mem_nil) dJ6_numberOfLeadingZeros_0f7a4_14
set_option maxHeartbeats 4000000 in
set_option maxRecDepth 100000 in
theorem k_X2_all (l : Launch) (D : va_G) (cI cS : ClassId) (a : Nat → Nat) (na nc N : Nat) (L u : SU) (hL : TyX L) (hN : N = 0 ∨ N = 24576) : Met l yX2_all wsX2_all ({ frames := 0, cells := 0, slots := 0, locals := 0 }) (PS D cI cS (wX cI cS a na nc N L u) [.ref (a 1)]) (vp_Si (fun r => Rg 0 4095 r ∧ True)) 0 0 (fun _ => False) := by
  refine Met.ofW (cc := cX2_all) (maxL := 1) (ret := (some .int)) (by decide) rfl ?_
  intro p e s m args below meth c s₁ B hml hv
  obtain ⟨rfl, hP, hKK⟩ := hv
  have hx := B.exec
  have hb := B.bytes
  have hr := B.returns
  have hts := atoms_spec (ws := wsX2_all) B.pre
  have hown : s.vm.findClass RX2 = some m.cls := findClass_of_methodNamed B.named
  have hlocks := B.notSynchronized
  have hK := hKK.1
  have hin2 : ∀ w ∈ wsX20, w ∈ wsX2_all := by decide +kernel
  have hl := lv_entry ([.ref (a 1)]) (n := 1) (Nat.le_of_ble_eq_true rfl)
  rw [lg_entry_eq]
  generalize (lg_sl ([.ref (a 1)]) ++ List.replicate (1 - (lg_sl ([.ref (a 1)])).length) Slot.unset).toArray = ls at hl ⊢
  have hl : lv_has ls 1 [(0, .ref (a 1))] := hl
  refine lv_iconst (v := 1) hx hb dX2_all_0 (by decide) ?_
  refine lv_aload_n hx hb dX2_all_1 rfl (lv_at hl 0 rfl) ?_
  refine va_get (D := D) (ci := 2) (v := .int (L 1 1)) (C := RX2) (T := TX2) (N := 3) hx hb hts hin2 hown hK hP 1 rfl rfl 1 (by decide) (hts (.fieldLink RX2 15 "MissedPoints$Net" "size" "I") (by decide +kernel)) (fun _ h9 => h9) rfl dX2_all_2 ?_
  refine wk_ishl1 (f := 4096) hx hb dX2_all_5 hL.1 (by decide) (fun r31106 hr31106 qr31106 => ?_)
  refine lv_iconst (v := 1) hx hb dX2_all_6 (by decide) ?_
  refine wk_isub (e1 := 0) (f := 4095) hx hb dX2_all_7 hr31106 (by decide : Rg 1 1 (1 : Int32)) (by decide) (fun r31107 hr31107 er31107 qr31107 => ?_)
  exact W.iret (v := r31107) hx hb hr (fun t ht hW => ⟨_, rfl, ⟨hr31107, trivial⟩, ht⟩) (fun q hq => absurd hq List.not_mem_nil) dX2_all_8
set_option maxHeartbeats 4000000 in
set_option maxRecDepth 100000 in
theorem k_X2_hasPoint (l : Launch) (D : va_G) (cI cS : ClassId) (a : Nat → Nat) (na nc N : Nat) (L u : SU) (hL : TyX L) (hN : N = 0 ∨ N = 24576) (x0 : Int32) : Met l yX2_hasPoint wsX2_hasPoint ({ frames := 0, cells := 0, slots := 0, locals := 0 }) (PS D cI cS (wX cI cS a na nc N L u) [.ref (a 1), .int x0]) (vp_Si (fun r => Rg 0 1 r ∧ (r ≠ 0 → Rg 0 11 x0))) 0 0 (fun _ => False) := by
  refine Met.ofW (cc := cX2_hasPoint) (maxL := 2) (ret := (some .boolean)) (by decide) rfl ?_
  intro p e s m args below meth c s₁ B hml hv
  obtain ⟨rfl, hP, hKK⟩ := hv
  have hx := B.exec
  have hb := B.bytes
  have hr := B.returns
  have hts := atoms_spec (ws := wsX2_hasPoint) B.pre
  have hown : s.vm.findClass RX2 = some m.cls := findClass_of_methodNamed B.named
  have hlocks := B.notSynchronized
  have hK := hKK.1
  have hin2 : ∀ w ∈ wsX20, w ∈ wsX2_hasPoint := by decide +kernel
  have hl := lv_entry ([.ref (a 1), .int x0]) (n := 2) (Nat.le_of_ble_eq_true rfl)
  rw [lg_entry_eq]
  generalize (lg_sl ([.ref (a 1), .int x0]) ++ List.replicate (2 - (lg_sl ([.ref (a 1), .int x0])).length) Slot.unset).toArray = ls at hl ⊢
  have hl : lv_has ls 2 [(0, .ref (a 1)), (1, .int x0)] := hl
  refine lv_iload_n hx hb dX2_hasPoint_0 rfl (lv_at hl 1 rfl) ?_
  refine lv_if_lt (tgt := 16) hx hb dX2_hasPoint_1 (by decide) (fun c31114 => ?_) (fun c31114 => ?_)
  · have g31115 : Rg (-2147483648) (-1) x0 := rg_ltl (rg_any x0) (by decide : Rg 0 0 (0 : Int32)) c31114 (by decide)
    refine lv_iconst (v := 0) hx hb dX2_hasPoint_16 (by decide) ?_
    exact W.zret (v := 0) hx hb hr (by decide) (fun t ht hW => ⟨_, rfl, ⟨(by decide : Rg 0 1 (0 : Int32)), fun h9 => absurd rfl h9⟩, ht⟩) (fun q hq => absurd hq List.not_mem_nil) dX2_hasPoint_17
  · have g31116 : Rg 0 2147483647 x0 := rg_ler (by decide : Rg 0 0 (0 : Int32)) (rg_any x0) (rg_nlt c31114) (by decide)
    refine lv_iload_n hx hb dX2_hasPoint_4 rfl (lv_at hl 1 rfl) ?_
    refine lv_aload_n hx hb dX2_hasPoint_5 rfl (lv_at hl 0 rfl) ?_
    refine va_get (D := D) (ci := 2) (v := .int (L 1 1)) (C := RX2) (T := TX2) (N := 3) hx hb hts hin2 hown hK hP 1 rfl rfl 1 (by decide) (hts (.fieldLink RX2 15 "MissedPoints$Net" "size" "I") (by decide +kernel)) (fun _ h9 => h9) rfl dX2_hasPoint_6 ?_
    refine lv_icmp_ge (tgt := 16) hx hb dX2_hasPoint_9 (by decide) (fun c31117 => ?_) (fun c31117 => ?_)
    · refine lv_iconst (v := 0) hx hb dX2_hasPoint_16 (by decide) ?_
      exact W.zret (v := 0) hx hb hr (by decide) (fun t ht hW => ⟨_, rfl, ⟨(by decide : Rg 0 1 (0 : Int32)), fun h9 => absurd rfl h9⟩, ht⟩) (fun q hq => absurd hq List.not_mem_nil) dX2_hasPoint_17
    · have g31118 : Rg 1 12 (L 1 1) := rg_ltr g31116 hL.1 (rg_nle c31117) (by decide)
      have g31119 : Rg 0 11 x0 := rg_ltl g31116 hL.1 (rg_nle c31117) (by decide)
      refine lv_iconst (v := 1) hx hb dX2_hasPoint_12 (by decide) ?_
      refine lv_goto (tgt := 17) hx hb dX2_hasPoint_13 (by decide) ?_
      exact W.zret (v := 1) hx hb hr (by decide) (fun t ht hW => ⟨_, rfl, ⟨(by decide : Rg 0 1 (1 : Int32)), fun _ => g31119⟩, ht⟩) (fun q hq => absurd hq List.not_mem_nil) dX2_hasPoint_17
set_option maxHeartbeats 4000000 in
set_option maxRecDepth 100000 in
theorem k_X2_hasAll (l : Launch) (D : va_G) (cI cS : ClassId) (a : Nat → Nat) (na nc N : Nat) (L u : SU) (hL : TyX L) (hN : N = 0 ∨ N = 24576) (x0 : Int32) : Met l yX2_hasAll wsX2_hasAll ({ frames := 1, cells := 0, slots := 0, locals := 40 }) (PS D cI cS (wX cI cS a na nc N L u) [.ref (a 1), .int x0]) (vp_Si (fun r => Rg 0 1 r ∧ (r ≠ 0 → Rg 0 4095 x0))) 0 0 (fun _ => False) := by
  refine Met.ofW (cc := cX2_hasAll) (maxL := 2) (ret := (some .boolean)) (by decide) rfl ?_
  intro p e s m args below meth c s₁ B hml hv
  obtain ⟨rfl, hP, hKK⟩ := hv
  have hx := B.exec
  have hb := B.bytes
  have hr := B.returns
  have hts := atoms_spec (ws := wsX2_hasAll) B.pre
  have hown : s.vm.findClass RX2 = some m.cls := findClass_of_methodNamed B.named
  have hlocks := B.notSynchronized
  have hK := hKK.1
  have hl := lv_entry ([.ref (a 1), .int x0]) (n := 2) (Nat.le_of_ble_eq_true rfl)
  rw [lg_entry_eq]
  generalize (lg_sl ([.ref (a 1), .int x0]) ++ List.replicate (2 - (lg_sl ([.ref (a 1), .int x0])).length) Slot.unset).toArray = ls at hl ⊢
  have hl : lv_has ls 2 [(0, .ref (a 1)), (1, .int x0)] := hl
  refine lv_iload_n hx hb dX2_hasAll_0 rfl (lv_at hl 1 rfl) ?_
  refine lv_aload_n hx hb dX2_hasAll_1 rfl (lv_at hl 0 rfl) ?_
  refine wk_sv 1 (As := []) (rest := [.int x0]) ⟨hx, hb, hml, hown, hts⟩ (k_X2_all l D cI cS a na nc N L u hL hN) hKK hP (ci := 2) rfl rfl (cwV 0 hts gX2_hasAll_X2_all rfl rfl rfl (by decide +kernel) ⟨Nat.le_of_ble_eq_true rfl, Nat.le_of_ble_eq_true rfl⟩) rfl hl.1 rfl (Nat.le_of_ble_eq_true rfl) dX2_hasAll_2 ⟨Nat.le_of_ble_eq_true rfl, Nat.le_of_ble_eq_true rfl⟩ (fun r31126 hr31126 => ?_)
  refine lv_iconst (v := (-1)) hx hb dX2_hasAll_5 (by decide) ?_
  refine lv_ixor hx hb dX2_hasAll_6 ?_
  refine wk_topP (P := fun r => r = r31126 ^^^ ((-1) : Int32)) rfl (fun r31127 qr31127 => ?_)
  refine lv_iand hx hb dX2_hasAll_7 ?_
  refine wk_topP (P := fun r => r = x0 &&& r31127) rfl (fun r31128 qr31128 => ?_)
  refine lv_if_ne (tgt := 15) hx hb dX2_hasAll_8 (by decide) (fun c31129 => ?_) (fun c31129 => ?_)
  · refine lv_iconst (v := 0) hx hb dX2_hasAll_15 (by decide) ?_
    exact W.zret (v := 0) hx hb hr (by decide) (fun t ht hW => ⟨_, rfl, ⟨(by decide : Rg 0 1 (0 : Int32)), fun h9 => absurd rfl h9⟩, ht⟩) (fun q hq => absurd hq List.not_mem_nil) dX2_hasAll_16
  · have g31130 : Rg 0 4095 x0 := wk_set hr31126.1 (by decide) (by rw [← qr31127, ← qr31128]; exact c31129)
    have g31131 : Rg 0 0 r31128 := wk_eql (rg_any r31128) (by decide : Rg 0 0 (0 : Int32)) c31129 (by decide)
    refine lv_iconst (v := 1) hx hb dX2_hasAll_11 (by decide) ?_
    refine lv_goto (tgt := 16) hx hb dX2_hasAll_12 (by decide) ?_
    exact W.zret (v := 1) hx hb hr (by decide) (fun t ht hW => ⟨_, rfl, ⟨(by decide : Rg 0 1 (1 : Int32)), fun _ => g31130⟩, ht⟩) (fun q hq => absurd hq List.not_mem_nil) dX2_hasAll_16
set_option maxHeartbeats 4000000 in
set_option maxRecDepth 100000 in
theorem k_X2_areTwo (l : Launch) (D : va_G) (cI cS : ClassId) (a : Nat → Nat) (na nc N : Nat) (L u : SU) (hL : TyX L) (hN : N = 0 ∨ N = 24576) (x0 x1 : Int32) : Met l yX2_areTwo wsX2_areTwo ({ frames := 1, cells := 0, slots := 0, locals := 40 }) (PS D cI cS (wX cI cS a na nc N L u) [.ref (a 1), .int x0, .int x1]) (vp_Si (fun r => Rg 0 1 r ∧ (r ≠ 0 → Rg 0 11 x0 ∧ Rg 0 11 x1))) 0 0 (fun _ => False) := by
  refine Met.ofW (cc := cX2_areTwo) (maxL := 3) (ret := (some .boolean)) (by decide) rfl ?_
  intro p e s m args below meth c s₁ B hml hv
  obtain ⟨rfl, hP, hKK⟩ := hv
  have hx := B.exec
  have hb := B.bytes
  have hr := B.returns
  have hts := atoms_spec (ws := wsX2_areTwo) B.pre
  have hown : s.vm.findClass RX2 = some m.cls := findClass_of_methodNamed B.named
  have hlocks := B.notSynchronized
  have hK := hKK.1
  have hl := lv_entry ([.ref (a 1), .int x0, .int x1]) (n := 3) (Nat.le_of_ble_eq_true rfl)
  rw [lg_entry_eq]
  generalize (lg_sl ([.ref (a 1), .int x0, .int x1]) ++ List.replicate (3 - (lg_sl ([.ref (a 1), .int x0, .int x1])).length) Slot.unset).toArray = ls at hl ⊢
  have hl : lv_has ls 3 [(0, .ref (a 1)), (1, .int x0), (2, .int x1)] := hl
  refine lv_aload_n hx hb dX2_areTwo_0 rfl (lv_at hl 0 rfl) ?_
  refine lv_iload_n hx hb dX2_areTwo_1 rfl (lv_at hl 1 rfl) ?_
  refine wk_sv 1 (As := [.int x0]) (rest := []) ⟨hx, hb, hml, hown, hts⟩ (k_X2_hasPoint l D cI cS a na nc N L u hL hN x0) hKK hP (ci := 2) rfl rfl (cwV 1 hts gX2_areTwo_X2_hasPoint rfl rfl rfl (by decide +kernel) ⟨Nat.le_of_ble_eq_true rfl, Nat.le_of_ble_eq_true rfl⟩) rfl hl.1 rfl (Nat.le_of_ble_eq_true rfl) dX2_areTwo_2 ⟨Nat.le_of_ble_eq_true rfl, Nat.le_of_ble_eq_true rfl⟩ (fun r31143 hr31143 => ?_)
  refine lv_if_eq (tgt := 25) hx hb dX2_areTwo_5 (by decide) (fun c31144 => ?_) (fun c31144 => ?_)
  · have g31145 : Rg 0 0 r31143 := wk_eql hr31143.1 (by decide : Rg 0 0 (0 : Int32)) c31144 (by decide)
    refine lv_iconst (v := 0) hx hb dX2_areTwo_25 (by decide) ?_
    exact W.zret (v := 0) hx hb hr (by decide) (fun t ht hW => ⟨_, rfl, ⟨(by decide : Rg 0 1 (0 : Int32)), fun h9 => absurd rfl h9⟩, ht⟩) (fun q hq => absurd hq List.not_mem_nil) dX2_areTwo_26
  · have g31146 : Rg 0 11 x0 := (hr31143.2 c31144)
    have g31147 : Rg 1 1 r31143 := rg_ne_lo (k := 0) hr31143.1 (by decide) c31144 (by decide)
    refine lv_aload_n hx hb dX2_areTwo_8 rfl (lv_at hl 0 rfl) ?_
    refine lv_iload_n hx hb dX2_areTwo_9 rfl (lv_at hl 2 rfl) ?_
    refine wk_sv 1 (As := [.int x1]) (rest := []) ⟨hx, hb, hml, hown, hts⟩ (k_X2_hasPoint l D cI cS a na nc N L u hL hN x1) hKK hP (ci := 2) rfl rfl (cwV 1 hts gX2_areTwo_X2_hasPoint rfl rfl rfl (by decide +kernel) ⟨Nat.le_of_ble_eq_true rfl, Nat.le_of_ble_eq_true rfl⟩) rfl hl.1 rfl (Nat.le_of_ble_eq_true rfl) dX2_areTwo_10 ⟨Nat.le_of_ble_eq_true rfl, Nat.le_of_ble_eq_true rfl⟩ (fun r31148 hr31148 => ?_)
    refine lv_if_eq (tgt := 25) hx hb dX2_areTwo_13 (by decide) (fun c31149 => ?_) (fun c31149 => ?_)
    · have g31150 : Rg 0 0 r31148 := wk_eql hr31148.1 (by decide : Rg 0 0 (0 : Int32)) c31149 (by decide)
      refine lv_iconst (v := 0) hx hb dX2_areTwo_25 (by decide) ?_
      exact W.zret (v := 0) hx hb hr (by decide) (fun t ht hW => ⟨_, rfl, ⟨(by decide : Rg 0 1 (0 : Int32)), fun h9 => absurd rfl h9⟩, ht⟩) (fun q hq => absurd hq List.not_mem_nil) dX2_areTwo_26
    · have g31151 : Rg 0 11 x1 := (hr31148.2 c31149)
      have g31152 : Rg 1 1 r31148 := rg_ne_lo (k := 0) hr31148.1 (by decide) c31149 (by decide)
      refine lv_iload_n hx hb dX2_areTwo_16 rfl (lv_at hl 1 rfl) ?_
      refine lv_iload_n hx hb dX2_areTwo_17 rfl (lv_at hl 2 rfl) ?_
      refine lv_icmp_eq (tgt := 25) hx hb dX2_areTwo_18 (by decide) (fun c31153 => ?_) (fun c31153 => ?_)
      · refine lv_iconst (v := 0) hx hb dX2_areTwo_25 (by decide) ?_
        exact W.zret (v := 0) hx hb hr (by decide) (fun t ht hW => ⟨_, rfl, ⟨(by decide : Rg 0 1 (0 : Int32)), fun h9 => absurd rfl h9⟩, ht⟩) (fun q hq => absurd hq List.not_mem_nil) dX2_areTwo_26
      · refine lv_iconst (v := 1) hx hb dX2_areTwo_21 (by decide) ?_
        refine lv_goto (tgt := 26) hx hb dX2_areTwo_22 (by decide) ?_
        exact W.zret (v := 1) hx hb hr (by decide) (fun t ht hW => ⟨_, rfl, ⟨(by decide : Rg 0 1 (1 : Int32)), fun _ => ⟨g31146, g31151⟩⟩, ht⟩) (fun q hq => absurd hq List.not_mem_nil) dX2_areTwo_26
set_option maxRecDepth 20000 in
theorem ggX2_joined_X2_areTwo : GoodIn wsX2_joined wsX2_areTwo := goodIn_r _ [6, 7, 8, 9, 5, 10, 11, 12, 13, 14] (by decide +kernel) (by decide +kernel)
set_option maxRecDepth 20000 in
theorem gX2_joined_X2_areTwo : GoodIn wsX2_joined (wsV RX2 36 RX2 yX2_areTwo wsX2_areTwo) := goodIn_app (goodIn_of _ (by decide +kernel)) ggX2_joined_X2_areTwo
theorem dX2_joined_0 : decode cX2_joined 0 = .ok (.aload_n 0, 1) := by decide +kernel
theorem dX2_joined_1 : decode cX2_joined 1 = .ok (.iload_n 1, 1) := by decide +kernel
theorem dX2_joined_10 : decode cX2_joined 10 = .ok (.getfield 9, 3) := by decide +kernel
theorem dX2_joined_13 : decode cX2_joined 13 = .ok (.iload_n 1, 1) := by decide +kernel
theorem dX2_joined_14 : decode cX2_joined 14 = .ok (.iaload, 1) := by decide +kernel
theorem dX2_joined_15 : decode cX2_joined 15 = .ok (.iload_n 2, 1) := by decide +kernel
theorem dX2_joined_16 : decode cX2_joined 16 = .ok (.ishr, 1) := by decide +kernel
theorem dX2_joined_17 : decode cX2_joined 17 = .ok (.iconst 1, 1) := by decide +kernel
theorem dX2_joined_18 : decode cX2_joined 18 = .ok (.iand, 1) := by decide +kernel
theorem dX2_joined_19 : decode cX2_joined 19 = .ok (.ifCond .eq 7, 3) := by decide +kernel
theorem dX2_joined_2 : decode cX2_joined 2 = .ok (.iload_n 2, 1) := by decide +kernel
theorem dX2_joined_22 : decode cX2_joined 22 = .ok (.iconst 1, 1) := by decide +kernel
theorem dX2_joined_23 : decode cX2_joined 23 = .ok (.goto 4, 3) := by decide +kernel
theorem dX2_joined_26 : decode cX2_joined 26 = .ok (.iconst 0, 1) := by decide +kernel
theorem dX2_joined_27 : decode cX2_joined 27 = .ok (.ireturn, 1) := by decide +kernel
theorem dX2_joined_3 : decode cX2_joined 3 = .ok (.invokevirtual 36, 3) := by decide +kernel
theorem dX2_joined_6 : decode cX2_joined 6 = .ok (.ifCond .eq 20, 3) := by decide +kernel
theorem dX2_joined_9 : decode cX2_joined 9 = .ok (.aload_n 0, 1) := by decide +kernel
set_option maxHeartbeats 4000000 in
set_option maxRecDepth 100000 in
theorem k_X2_joined (l : Launch) (D : va_G) (cI cS : ClassId) (a : Nat → Nat) (na nc N : Nat) (L u : SU) (hL : TyX L) (hN : N = 0 ∨ N = 24576) (x0 x1 : Int32) : Met l yX2_joined wsX2_joined ({ frames := 2, cells := 0, slots := 0, locals := 80 }) (PS D cI cS (wX cI cS a na nc N L u) [.ref (a 1), .int x0, .int x1]) (vp_Si (fun r => Rg 0 1 r ∧ (r ≠ 0 → Rg 0 11 x0 ∧ Rg 0 11 x1))) 0 0 (fun _ => False) := by
  refine Met.ofW (cc := cX2_joined) (maxL := 3) (ret := (some .boolean)) (by decide) rfl ?_
  intro p e s m args below meth c s₁ B hml hv
  obtain ⟨rfl, hP, hKK⟩ := hv
  have hx := B.exec
  have hb := B.bytes
  have hr := B.returns
  have hts := atoms_spec (ws := wsX2_joined) B.pre
  have hown : s.vm.findClass RX2 = some m.cls := findClass_of_methodNamed B.named
  have hlocks := B.notSynchronized
  have hK := hKK.1
  have hin2 : ∀ w ∈ wsX20, w ∈ wsX2_joined := by decide +kernel
  have hl := lv_entry ([.ref (a 1), .int x0, .int x1]) (n := 3) (Nat.le_of_ble_eq_true rfl)
  rw [lg_entry_eq]
  generalize (lg_sl ([.ref (a 1), .int x0, .int x1]) ++ List.replicate (3 - (lg_sl ([.ref (a 1), .int x0, .int x1])).length) Slot.unset).toArray = ls at hl ⊢
  have hl : lv_has ls 3 [(0, .ref (a 1)), (1, .int x0), (2, .int x1)] := hl
  refine lv_aload_n hx hb dX2_joined_0 rfl (lv_at hl 0 rfl) ?_
  refine lv_iload_n hx hb dX2_joined_1 rfl (lv_at hl 1 rfl) ?_
  refine lv_iload_n hx hb dX2_joined_2 rfl (lv_at hl 2 rfl) ?_
  refine wk_sv 1 (As := [.int x0, .int x1]) (rest := []) ⟨hx, hb, hml, hown, hts⟩ (k_X2_areTwo l D cI cS a na nc N L u hL hN x0 x1) hKK hP (ci := 2) rfl rfl (cwV 2 hts gX2_joined_X2_areTwo rfl rfl rfl (by decide +kernel) ⟨Nat.le_of_ble_eq_true rfl, Nat.le_of_ble_eq_true rfl⟩) rfl hl.1 rfl (Nat.le_of_ble_eq_true rfl) dX2_joined_3 ⟨Nat.le_of_ble_eq_true rfl, Nat.le_of_ble_eq_true rfl⟩ (fun r31166 hr31166 => ?_)
  refine lv_if_eq (tgt := 26) hx hb dX2_joined_6 (by decide) (fun c31167 => ?_) (fun c31167 => ?_)
  · have g31168 : Rg 0 0 r31166 := wk_eql hr31166.1 (by decide : Rg 0 0 (0 : Int32)) c31167 (by decide)
    refine lv_iconst (v := 0) hx hb dX2_joined_26 (by decide) ?_
    exact W.zret (v := 0) hx hb hr (by decide) (fun t ht hW => ⟨_, rfl, ⟨(by decide : Rg 0 1 (0 : Int32)), fun h9 => absurd rfl h9⟩, ht⟩) (fun q hq => absurd hq List.not_mem_nil) dX2_joined_27
  · have g31169 : Rg 0 11 x0 := (hr31166.2 c31167).1
    have g31170 : Rg 0 11 x1 := (hr31166.2 c31167).2
    have g31171 : Rg 1 1 r31166 := rg_ne_lo (k := 0) hr31166.1 (by decide) c31167 (by decide)
    refine lv_aload_n hx hb dX2_joined_9 rfl (lv_at hl 0 rfl) ?_
    refine va_get (D := D) (ci := 2) (v := .ref (a 2)) (C := RX2) (T := TX2) (N := 3) hx hb hts hin2 hown hK hP 1 rfl rfl 0 (by decide) (hts (.fieldLink RX2 9 "MissedPoints$Net" "links" "[I") (by decide +kernel)) (fun _ h9 => h9) rfl dX2_joined_10 ?_
    refine lv_iload_n hx hb dX2_joined_13 rfl (lv_at hl 1 rfl) ?_
    refine wk_aldA hx hb hK hP 2 0 rfl rfl (rg_in g31169 (by decide) (by decide)) dX2_joined_14 (fun r31172 => ?_)
    refine lv_iload_n hx hb dX2_joined_15 rfl (lv_at hl 2 rfl) ?_
    refine lv_ishr hx hb dX2_joined_16 ?_
    refine wk_topP (P := fun r => r = r31172 >>> (x1 &&& 31)) rfl (fun r31173 qr31173 => ?_)
    refine lv_iconst (v := 1) hx hb dX2_joined_17 (by decide) ?_
    refine wk_iandr hx hb dX2_joined_18 (by decide : Rg 1 1 (1 : Int32)) (by decide) (fun r31174 hr31174 qr31174 => ?_)
    refine lv_if_eq (tgt := 26) hx hb dX2_joined_19 (by decide) (fun c31175 => ?_) (fun c31175 => ?_)
    · have g31176 : Rg 0 0 r31174 := wk_eql hr31174 (by decide : Rg 0 0 (0 : Int32)) c31175 (by decide)
      refine lv_iconst (v := 0) hx hb dX2_joined_26 (by decide) ?_
      exact W.zret (v := 0) hx hb hr (by decide) (fun t ht hW => ⟨_, rfl, ⟨(by decide : Rg 0 1 (0 : Int32)), fun h9 => absurd rfl h9⟩, ht⟩) (fun q hq => absurd hq List.not_mem_nil) dX2_joined_27
    · have g31177 : Rg 1 1 r31174 := rg_ne_lo (k := 0) hr31174 (by decide) c31175 (by decide)
      refine lv_iconst (v := 1) hx hb dX2_joined_22 (by decide) ?_
      refine lv_goto (tgt := 27) hx hb dX2_joined_23 (by decide) ?_
      exact W.zret (v := 1) hx hb hr (by decide) (fun t ht hW => ⟨_, rfl, ⟨(by decide : Rg 0 1 (1 : Int32)), fun _ => ⟨g31169, g31170⟩⟩, ht⟩) (fun q hq => absurd hq List.not_mem_nil) dX2_joined_27
theorem dX2_join_41 : decode cX2_join 41 = .ok (.aload_n 0, 1) := by decide +kernel
theorem dX2_join_42 : decode cX2_join 42 = .ok (.getfield 9, 3) := by decide +kernel
theorem dX2_join_45 : decode cX2_join 45 = .ok (.iload_n 1, 1) := by decide +kernel
theorem dX2_join_46 : decode cX2_join 46 = .ok (.dup2, 1) := by decide +kernel
theorem dX2_join_47 : decode cX2_join 47 = .ok (.iaload, 1) := by decide +kernel
theorem dX2_join_48 : decode cX2_join 48 = .ok (.iconst 1, 1) := by decide +kernel
theorem dX2_join_49 : decode cX2_join 49 = .ok (.iload_n 2, 1) := by decide +kernel
theorem dX2_join_50 : decode cX2_join 50 = .ok (.ishl, 1) := by decide +kernel
theorem dX2_join_51 : decode cX2_join 51 = .ok (.iconst (-1), 1) := by decide +kernel
theorem dX2_join_52 : decode cX2_join 52 = .ok (.ixor, 1) := by decide +kernel
theorem dX2_join_53 : decode cX2_join 53 = .ok (.iand, 1) := by decide +kernel
theorem dX2_join_54 : decode cX2_join 54 = .ok (.iastore, 1) := by decide +kernel
theorem dX2_join_55 : decode cX2_join 55 = .ok (.aload_n 0, 1) := by decide +kernel
theorem dX2_join_56 : decode cX2_join 56 = .ok (.getfield 9, 3) := by decide +kernel
theorem dX2_join_59 : decode cX2_join 59 = .ok (.iload_n 2, 1) := by decide +kernel
theorem dX2_join_60 : decode cX2_join 60 = .ok (.dup2, 1) := by decide +kernel
theorem dX2_join_61 : decode cX2_join 61 = .ok (.iaload, 1) := by decide +kernel
theorem dX2_join_62 : decode cX2_join 62 = .ok (.iconst 1, 1) := by decide +kernel
theorem dX2_join_63 : decode cX2_join 63 = .ok (.iload_n 1, 1) := by decide +kernel
theorem dX2_join_64 : decode cX2_join 64 = .ok (.ishl, 1) := by decide +kernel
theorem dX2_join_65 : decode cX2_join 65 = .ok (.iconst (-1), 1) := by decide +kernel
theorem dX2_join_66 : decode cX2_join 66 = .ok (.ixor, 1) := by decide +kernel
theorem dX2_join_67 : decode cX2_join 67 = .ok (.iand, 1) := by decide +kernel
theorem dX2_join_68 : decode cX2_join 68 = .ok (.iastore, 1) := by decide +kernel
theorem dX2_join_9 : decode cX2_join 9 = .ok (.return_, 1) := by decide +kernel
set_option maxHeartbeats 4000000 in
set_option maxRecDepth 100000 in
theorem k_X2_join (l : Launch) (D : va_G) (cI cS : ClassId) (sz : Nat) (a : Nat → Nat) (na nc N : Nat) (L u0 : SU) (hL : TyX L) (hN : N = 0 ∨ N = 24576) (x0 x1 x2 : Int32) (px2 : Rg 0 1 x2) : Met l yX2_join wsX2_join ({ frames := 2, cells := 0, slots := 0, locals := 80 }) (PQ D cI cS (wX cI cS a na nc N L u0) sz [.ref (a 1), .int x0, .int x1, .int x2]) (QE (S := SU) D (wX cI cS a na nc N L u0) (wX cI cS a na nc N L) sz (fun _ => True)) 0 0 (va_A (wX cI cS a na nc N L u0) sz) := by
  refine Met.ofW (cc := cX2_join) (maxL := 4) (ret := none) (by decide) rfl ?_
  intro p e s m args below meth c s₁ B hml hv
  obtain ⟨rfl, hsz, hP, hKK, hD0⟩ := hv
  have hx := B.exec
  have hb := B.bytes
  have hr := B.returns
  have hts := atoms_spec (ws := wsX2_join) B.pre
  have hown : s.vm.findClass RX2 = some m.cls := findClass_of_methodNamed B.named
  have hlocks := B.notSynchronized
  have hK := hKK.1
  have hin2 : ∀ w ∈ wsX20, w ∈ wsX2_join := by decide +kernel
  subst hsz
  have hD := hD0.self (sz := s.heap.size)
  obtain ⟨A, hAe⟩ : ∃ A, A = va_A (wX cI cS a na nc N L u0) s.heap.size := ⟨_, rfl⟩
  rw [← hAe] at hD
  have hA : ∀ q : Nat, s.heap.size ≤ q → A q := fun q h => by rw [hAe]; exact Or.inr h
  have hS : va_S A s.heap s.heap [] := va_S.rf
  have hl := lv_entry ([.ref (a 1), .int x0, .int x1, .int x2]) (n := 4) (Nat.le_of_ble_eq_true rfl)
  rw [lg_entry_eq]
  generalize (lg_sl ([.ref (a 1), .int x0, .int x1, .int x2]) ++ List.replicate (4 - (lg_sl ([.ref (a 1), .int x0, .int x1, .int x2])).length) Slot.unset).toArray = ls at hl ⊢
  have hl : lv_has ls 4 [(0, .ref (a 1)), (1, .int x0), (2, .int x1), (3, .int x2)] := hl
  obtain ⟨u, hu9⟩ : ∃ u : SU, u = u0 := ⟨_, rfl⟩
  rw [← hu9] at hP hD
  refine lv_aload_n hx hb dX2_join_0 rfl (lv_at hl 0 rfl) ?_
  refine lv_iload_n hx hb dX2_join_1 rfl (lv_at hl 1 rfl) ?_
  refine lv_iload_n hx hb dX2_join_2 rfl (lv_at hl 2 rfl) ?_
  refine wk_sv 1 (As := [.int x0, .int x1]) (rest := []) ⟨hx, hb, hml, hown, hts⟩ (k_X2_areTwo l D cI cS a na nc N L u hL hN x0 x1) hKK hP (ci := 2) rfl rfl (cwV 2 hts gX2_join_X2_areTwo rfl rfl rfl (by decide +kernel) ⟨Nat.le_of_ble_eq_true rfl, Nat.le_of_ble_eq_true rfl⟩) rfl hl.1 rfl (Nat.le_of_ble_eq_true rfl) dX2_join_3 ⟨Nat.le_of_ble_eq_true rfl, Nat.le_of_ble_eq_true rfl⟩ (fun r31205 hr31205 => ?_)
  refine lv_if_ne (tgt := 10) hx hb dX2_join_6 (by decide) (fun c31206 => ?_) (fun c31206 => ?_)
  · have g31207 : Rg 0 11 x0 := (hr31205.2 c31206).1
    have g31208 : Rg 0 11 x1 := (hr31205.2 c31206).2
    have g31209 : Rg 1 1 r31205 := rg_ne_lo (k := 0) hr31205.1 (by decide) c31206 (by decide)
    refine lv_iload_n hx hb dX2_join_10 rfl (lv_at hl 3 rfl) ?_
    refine lv_if_eq (tgt := 41) hx hb dX2_join_11 (by decide) (fun c31210 => ?_) (fun c31210 => ?_)
    · have g31211 : Rg 0 0 x2 := wk_eql px2 (by decide : Rg 0 0 (0 : Int32)) c31210 (by decide)
      refine lv_aload_n hx hb dX2_join_41 rfl (lv_at hl 0 rfl) ?_
      refine va_get (D := D) (ci := 2) (v := .ref (a 2)) (C := RX2) (T := TX2) (N := 3) hx hb hts hin2 hown hK hP 1 rfl rfl 0 (by decide) (hts (.fieldLink RX2 9 "MissedPoints$Net" "links" "[I") (by decide +kernel)) (fun _ h9 => h9) rfl dX2_join_42 ?_
      refine lv_iload_n hx hb dX2_join_45 rfl (lv_at hl 1 rfl) ?_
      refine lv_dup2_11 hx hb dX2_join_46 rfl rfl ?_
      refine wk_aldA hx hb hK hP 2 0 rfl rfl (rg_in g31207 (by decide) (by decide)) dX2_join_47 (fun r31212 => ?_)
      refine lv_iconst (v := 1) hx hb dX2_join_48 (by decide) ?_
      refine lv_iload_n hx hb dX2_join_49 rfl (lv_at hl 2 rfl) ?_
      refine wk_ishl1 (f := 2048) hx hb dX2_join_50 g31208 (by decide) (fun r31213 hr31213 qr31213 => ?_)
      refine lv_iconst (v := (-1)) hx hb dX2_join_51 (by decide) ?_
      refine lv_ixor hx hb dX2_join_52 ?_
      refine wk_topP (P := fun r => r = r31213 ^^^ ((-1) : Int32)) rfl (fun r31214 qr31214 => ?_)
      refine lv_iand hx hb dX2_join_53 ?_
      refine wk_topP (P := fun r => r = r31212 &&& r31214) rfl (fun r31215 qr31215 => ?_)
      refine ks_ast hx hb hK hP hD hS rfl (k := 2) rfl sx_2 (rg_in g31207 (by decide) (by decide)) dX2_join_54 (fun u H locs hP hD hS => ?_)
      refine lv_aload_n hx hb dX2_join_55 rfl (lv_at hl 0 rfl) ?_
      refine va_get (D := D) (ci := 2) (v := .ref (a 2)) (C := RX2) (T := TX2) (N := 3) hx hb hts hin2 hown hK hP 1 rfl rfl 0 (by decide) (hts (.fieldLink RX2 9 "MissedPoints$Net" "links" "[I") (by decide +kernel)) (fun _ h9 => h9) rfl dX2_join_56 ?_
      refine lv_iload_n hx hb dX2_join_59 rfl (lv_at hl 2 rfl) ?_
      refine lv_dup2_11 hx hb dX2_join_60 rfl rfl ?_
      refine wk_aldA hx hb hK hP 2 0 rfl rfl (rg_in g31208 (by decide) (by decide)) dX2_join_61 (fun r31216 => ?_)
      refine lv_iconst (v := 1) hx hb dX2_join_62 (by decide) ?_
      refine lv_iload_n hx hb dX2_join_63 rfl (lv_at hl 1 rfl) ?_
      refine wk_ishl1 (f := 2048) hx hb dX2_join_64 g31207 (by decide) (fun r31217 hr31217 qr31217 => ?_)
      refine lv_iconst (v := (-1)) hx hb dX2_join_65 (by decide) ?_
      refine lv_ixor hx hb dX2_join_66 ?_
      refine wk_topP (P := fun r => r = r31217 ^^^ ((-1) : Int32)) rfl (fun r31218 qr31218 => ?_)
      refine lv_iand hx hb dX2_join_67 ?_
      refine wk_topP (P := fun r => r = r31216 &&& r31218) rfl (fun r31219 qr31219 => ?_)
      refine ks_ast hx hb hK hP hD hS rfl (k := 2) rfl sx_2 (rg_in g31208 (by decide) (by decide)) dX2_join_68 (fun u H locs hP hD hS => ?_)
      refine lv_aload_n hx hb dX2_join_69 rfl (lv_at hl 0 rfl) ?_
      refine lv_dup hx hb dX2_join_70 rfl ?_
      refine va_get (D := D) (ci := 2) (v := .int (u 1 2)) (C := RX2) (T := TX2) (N := 3) hx hb hts hin2 hown hK hP 1 rfl rfl 2 (by decide) (hts (.fieldLink RX2 33 "MissedPoints$Net" "changes" "I") (by decide +kernel)) (fun _ h9 => h9) rfl dX2_join_71 ?_
      refine wk_any (fun r31220 => ?_)
      refine lv_iconst (v := 1) hx hb dX2_join_74 (by decide) ?_
      refine lv_iadd hx hb dX2_join_75 ?_
      refine wk_topP (P := fun r => r = r31220 + (1 : Int32)) rfl (fun r31221 qr31221 => ?_)
      refine va_put (D := D) (ci := 2) (v := .int r31221) (ty := .int) (C := RX2) (T := TX2) (N := 3) hx hb hts hin2 tyX2 tyX2_ok nmX2 hown hK hP hD hS 1 rfl rfl 2 (by decide) (hts (.fieldLink RX2 33 "MissedPoints$Net" "changes" "I") (by decide +kernel)) (fun _ h9 => h9) rfl (by decide +kernel) rfl rfl (Nat.le_of_ble_eq_true rfl) dX2_join_76 (fun H locs hP hD hS => ?_)
      rw [sxf_1_2] at hP hD
      generalize sU u 1 _ = u at hP hD
      subst hAe
      exact W.vret hx hb hr (fun t ht hW => ⟨⟨u, rfl, trivial, by rw [ht]; exact hP, hD⟩, hS.F ht⟩) hS.2.2 dX2_join_79
    · have g31222 : Rg 1 1 x2 := rg_ne_lo (k := 0) px2 (by decide) c31210 (by decide)
      refine lv_aload_n hx hb dX2_join_14 rfl (lv_at hl 0 rfl) ?_
      refine va_get (D := D) (ci := 2) (v := .ref (a 2)) (C := RX2) (T := TX2) (N := 3) hx hb hts hin2 hown hK hP 1 rfl rfl 0 (by decide) (hts (.fieldLink RX2 9 "MissedPoints$Net" "links" "[I") (by decide +kernel)) (fun _ h9 => h9) rfl dX2_join_15 ?_
      refine lv_iload_n hx hb dX2_join_18 rfl (lv_at hl 1 rfl) ?_
      refine lv_dup2_11 hx hb dX2_join_19 rfl rfl ?_
      refine wk_aldA hx hb hK hP 2 0 rfl rfl (rg_in g31207 (by decide) (by decide)) dX2_join_20 (fun r31223 => ?_)
      refine lv_iconst (v := 1) hx hb dX2_join_21 (by decide) ?_
      refine lv_iload_n hx hb dX2_join_22 rfl (lv_at hl 2 rfl) ?_
      refine wk_ishl1 (f := 2048) hx hb dX2_join_23 g31208 (by decide) (fun r31224 hr31224 qr31224 => ?_)
      refine lv_ior hx hb dX2_join_24 ?_
      refine wk_topP (P := fun r => r = r31223 ||| r31224) rfl (fun r31225 qr31225 => ?_)
      refine ks_ast hx hb hK hP hD hS rfl (k := 2) rfl sx_2 (rg_in g31207 (by decide) (by decide)) dX2_join_25 (fun u H locs hP hD hS => ?_)
      refine lv_aload_n hx hb dX2_join_26 rfl (lv_at hl 0 rfl) ?_
      refine va_get (D := D) (ci := 2) (v := .ref (a 2)) (C := RX2) (T := TX2) (N := 3) hx hb hts hin2 hown hK hP 1 rfl rfl 0 (by decide) (hts (.fieldLink RX2 9 "MissedPoints$Net" "links" "[I") (by decide +kernel)) (fun _ h9 => h9) rfl dX2_join_27 ?_
      refine lv_iload_n hx hb dX2_join_30 rfl (lv_at hl 2 rfl) ?_
      refine lv_dup2_11 hx hb dX2_join_31 rfl rfl ?_
      refine wk_aldA hx hb hK hP 2 0 rfl rfl (rg_in g31208 (by decide) (by decide)) dX2_join_32 (fun r31226 => ?_)
      refine lv_iconst (v := 1) hx hb dX2_join_33 (by decide) ?_
      refine lv_iload_n hx hb dX2_join_34 rfl (lv_at hl 1 rfl) ?_
      refine wk_ishl1 (f := 2048) hx hb dX2_join_35 g31207 (by decide) (fun r31227 hr31227 qr31227 => ?_)
      refine lv_ior hx hb dX2_join_36 ?_
      refine wk_topP (P := fun r => r = r31226 ||| r31227) rfl (fun r31228 qr31228 => ?_)
      refine ks_ast hx hb hK hP hD hS rfl (k := 2) rfl sx_2 (rg_in g31208 (by decide) (by decide)) dX2_join_37 (fun u H locs hP hD hS => ?_)
      refine lv_goto (tgt := 69) hx hb dX2_join_38 (by decide) ?_
      refine lv_aload_n hx hb dX2_join_69 rfl (lv_at hl 0 rfl) ?_
      refine lv_dup hx hb dX2_join_70 rfl ?_
      refine va_get (D := D) (ci := 2) (v := .int (u 1 2)) (C := RX2) (T := TX2) (N := 3) hx hb hts hin2 hown hK hP 1 rfl rfl 2 (by decide) (hts (.fieldLink RX2 33 "MissedPoints$Net" "changes" "I") (by decide +kernel)) (fun _ h9 => h9) rfl dX2_join_71 ?_
      refine wk_any (fun r31229 => ?_)
      refine lv_iconst (v := 1) hx hb dX2_join_74 (by decide) ?_
      refine lv_iadd hx hb dX2_join_75 ?_
      refine wk_topP (P := fun r => r = r31229 + (1 : Int32)) rfl (fun r31230 qr31230 => ?_)
      refine va_put (D := D) (ci := 2) (v := .int r31230) (ty := .int) (C := RX2) (T := TX2) (N := 3) hx hb hts hin2 tyX2 tyX2_ok nmX2 hown hK hP hD hS 1 rfl rfl 2 (by decide) (hts (.fieldLink RX2 33 "MissedPoints$Net" "changes" "I") (by decide +kernel)) (fun _ h9 => h9) rfl (by decide +kernel) rfl rfl (Nat.le_of_ble_eq_true rfl) dX2_join_76 (fun H locs hP hD hS => ?_)
      rw [sxf_1_2] at hP hD
      generalize sU u 1 _ = u at hP hD
      subst hAe
      exact W.vret hx hb hr (fun t ht hW => ⟨⟨u, rfl, trivial, by rw [ht]; exact hP, hD⟩, hS.F ht⟩) hS.2.2 dX2_join_79
  · have g31231 : Rg 0 0 r31205 := wk_eql hr31205.1 (by decide : Rg 0 0 (0 : Int32)) c31206 (by decide)
    subst hAe
    exact W.vret hx hb hr (fun t ht hW => ⟨⟨u, rfl, trivial, by rw [ht]; exact hP, hD⟩, hS.F ht⟩) hS.2.2 dX2_join_9
set_option maxRecDepth 20000 in
theorem ggX2_near_X2_hasPoint : GoodIn wsX2_near wsX2_hasPoint := goodIn_r _ [6, 7, 8, 9, 10] (by decide +kernel) (by decide +kernel)
set_option maxRecDepth 20000 in
theorem gX2_near_X2_hasPoint : GoodIn wsX2_near (wsV RX2 23 RX2 yX2_hasPoint wsX2_hasPoint) := goodIn_app (goodIn_of _ (by decide +kernel)) ggX2_near_X2_hasPoint
theorem dX2_near_0 : decode cX2_near 0 = .ok (.aload_n 0, 1) := by decide +kernel
theorem dX2_near_1 : decode cX2_near 1 = .ok (.iload_n 1, 1) := by decide +kernel
theorem dX2_near_12 : decode cX2_near 12 = .ok (.iload_n 1, 1) := by decide +kernel
theorem dX2_near_13 : decode cX2_near 13 = .ok (.iaload, 1) := by decide +kernel
theorem dX2_near_14 : decode cX2_near 14 = .ok (.goto 4, 3) := by decide +kernel
theorem dX2_near_17 : decode cX2_near 17 = .ok (.iconst 0, 1) := by decide +kernel
theorem dX2_near_18 : decode cX2_near 18 = .ok (.ireturn, 1) := by decide +kernel
theorem dX2_near_2 : decode cX2_near 2 = .ok (.invokevirtual 23, 3) := by decide +kernel
theorem dX2_near_5 : decode cX2_near 5 = .ok (.ifCond .eq 12, 3) := by decide +kernel
theorem dX2_near_8 : decode cX2_near 8 = .ok (.aload_n 0, 1) := by decide +kernel
theorem dX2_near_9 : decode cX2_near 9 = .ok (.getfield 9, 3) := by decide +kernel
set_option maxHeartbeats 4000000 in
set_option maxRecDepth 100000 in
theorem k_X2_near (l : Launch) (D : va_G) (cI cS : ClassId) (a : Nat → Nat) (na nc N : Nat) (L u : SU) (hL : TyX L) (hN : N = 0 ∨ N = 24576) (x0 : Int32) : Met l yX2_near wsX2_near ({ frames := 1, cells := 0, slots := 0, locals := 40 }) (PS D cI cS (wX cI cS a na nc N L u) [.ref (a 1), .int x0]) (vp_Si (fun r => Rg (-2147483648) 2147483647 r ∧ True)) 0 0 (fun _ => False) := by
  refine Met.ofW (cc := cX2_near) (maxL := 2) (ret := (some .int)) (by decide) rfl ?_
  intro p e s m args below meth c s₁ B hml hv
  obtain ⟨rfl, hP, hKK⟩ := hv
  have hx := B.exec
  have hb := B.bytes
  have hr := B.returns
  have hts := atoms_spec (ws := wsX2_near) B.pre
  have hown : s.vm.findClass RX2 = some m.cls := findClass_of_methodNamed B.named
  have hlocks := B.notSynchronized
  have hK := hKK.1
  have hin2 : ∀ w ∈ wsX20, w ∈ wsX2_near := by decide +kernel
  have hl := lv_entry ([.ref (a 1), .int x0]) (n := 2) (Nat.le_of_ble_eq_true rfl)
  rw [lg_entry_eq]
  generalize (lg_sl ([.ref (a 1), .int x0]) ++ List.replicate (2 - (lg_sl ([.ref (a 1), .int x0])).length) Slot.unset).toArray = ls at hl ⊢
  have hl : lv_has ls 2 [(0, .ref (a 1)), (1, .int x0)] := hl
  refine lv_aload_n hx hb dX2_near_0 rfl (lv_at hl 0 rfl) ?_
  refine lv_iload_n hx hb dX2_near_1 rfl (lv_at hl 1 rfl) ?_
  refine wk_sv 1 (As := [.int x0]) (rest := []) ⟨hx, hb, hml, hown, hts⟩ (k_X2_hasPoint l D cI cS a na nc N L u hL hN x0) hKK hP (ci := 2) rfl rfl (cwV 1 hts gX2_near_X2_hasPoint rfl rfl rfl (by decide +kernel) ⟨Nat.le_of_ble_eq_true rfl, Nat.le_of_ble_eq_true rfl⟩) rfl hl.1 rfl (Nat.le_of_ble_eq_true rfl) dX2_near_2 ⟨Nat.le_of_ble_eq_true rfl, Nat.le_of_ble_eq_true rfl⟩ (fun r31238 hr31238 => ?_)
  refine lv_if_eq (tgt := 17) hx hb dX2_near_5 (by decide) (fun c31239 => ?_) (fun c31239 => ?_)
  · have g31240 : Rg 0 0 r31238 := wk_eql hr31238.1 (by decide : Rg 0 0 (0 : Int32)) c31239 (by decide)
    refine lv_iconst (v := 0) hx hb dX2_near_17 (by decide) ?_
    exact W.iret (v := 0) hx hb hr (fun t ht hW => ⟨_, rfl, ⟨(by decide : Rg (-2147483648) 2147483647 (0 : Int32)), trivial⟩, ht⟩) (fun q hq => absurd hq List.not_mem_nil) dX2_near_18
  · have g31241 : Rg 0 11 x0 := (hr31238.2 c31239)
    have g31242 : Rg 1 1 r31238 := rg_ne_lo (k := 0) hr31238.1 (by decide) c31239 (by decide)
    refine lv_aload_n hx hb dX2_near_8 rfl (lv_at hl 0 rfl) ?_
    refine va_get (D := D) (ci := 2) (v := .ref (a 2)) (C := RX2) (T := TX2) (N := 3) hx hb hts hin2 hown hK hP 1 rfl rfl 0 (by decide) (hts (.fieldLink RX2 9 "MissedPoints$Net" "links" "[I") (by decide +kernel)) (fun _ h9 => h9) rfl dX2_near_9 ?_
    refine lv_iload_n hx hb dX2_near_12 rfl (lv_at hl 1 rfl) ?_
    refine wk_aldA hx hb hK hP 2 0 rfl rfl (rg_in g31241 (by decide) (by decide)) dX2_near_13 (fun r31243 => ?_)
    refine lv_goto (tgt := 18) hx hb dX2_near_14 (by decide) ?_
    exact W.iret (v := r31243) hx hb hr (fun t ht hW => ⟨_, rfl, ⟨(rg_any r31243), trivial⟩, ht⟩) (fun q hq => absurd hq List.not_mem_nil) dX2_near_18
theorem dX2_nearAny_12 : decode cX2_nearAny 12 = .ok (.iload_n 1, 1) := by decide +kernel
theorem dX2_nearAny_13 : decode cX2_nearAny 13 = .ok (.iload_n 3, 1) := by decide +kernel
theorem dX2_nearAny_14 : decode cX2_nearAny 14 = .ok (.ishr, 1) := by decide +kernel
theorem dX2_nearAny_15 : decode cX2_nearAny 15 = .ok (.iconst 1, 1) := by decide +kernel
theorem dX2_nearAny_16 : decode cX2_nearAny 16 = .ok (.iand, 1) := by decide +kernel
theorem dX2_nearAny_17 : decode cX2_nearAny 17 = .ok (.ifCond .eq 12, 3) := by decide +kernel
theorem dX2_nearAny_20 : decode cX2_nearAny 20 = .ok (.iload_n 2, 1) := by decide +kernel
theorem dX2_nearAny_21 : decode cX2_nearAny 21 = .ok (.aload_n 0, 1) := by decide +kernel
theorem dX2_nearAny_22 : decode cX2_nearAny 22 = .ok (.getfield 9, 3) := by decide +kernel
theorem dX2_nearAny_25 : decode cX2_nearAny 25 = .ok (.iload_n 3, 1) := by decide +kernel
theorem dX2_nearAny_26 : decode cX2_nearAny 26 = .ok (.iaload, 1) := by decide +kernel
theorem dX2_nearAny_27 : decode cX2_nearAny 27 = .ok (.ior, 1) := by decide +kernel
theorem dX2_nearAny_28 : decode cX2_nearAny 28 = .ok (.istore_n 2, 1) := by decide +kernel
theorem dX2_nearAny_29 : decode cX2_nearAny 29 = .ok (.iinc 3 1, 3) := by decide +kernel
theorem dX2_nearAny_32 : decode cX2_nearAny 32 = .ok (.goto (-28), 3) := by decide +kernel
set_option maxHeartbeats 4000000 in
set_option maxRecDepth 100000 in
theorem k_X2_nearAny (l : Launch) (D : va_G) (cI cS : ClassId) (a : Nat → Nat) (na nc N : Nat) (L u : SU) (hL : TyX L) (hN : N = 0 ∨ N = 24576) (x0 : Int32) : Met l yX2_nearAny wsX2_nearAny ({ frames := 0, cells := 0, slots := 0, locals := 0 }) (PS D cI cS (wX cI cS a na nc N L u) [.ref (a 1), .int x0]) (vp_Si (fun r => Rg (-2147483648) 2147483647 r ∧ True)) 0 0 (fun _ => False) := by
  refine Met.ofW (cc := cX2_nearAny) (maxL := 4) (ret := (some .int)) (by decide) rfl ?_
  intro p e s m args below meth c s₁ B hml hv
  obtain ⟨rfl, hP, hKK⟩ := hv
  have hx := B.exec
  have hb := B.bytes
  have hr := B.returns
  have hts := atoms_spec (ws := wsX2_nearAny) B.pre
  have hown : s.vm.findClass RX2 = some m.cls := findClass_of_methodNamed B.named
  have hlocks := B.notSynchronized
  have hK := hKK.1
  have hin2 : ∀ w ∈ wsX20, w ∈ wsX2_nearAny := by decide +kernel
  have hl := lv_entry ([.ref (a 1), .int x0]) (n := 4) (Nat.le_of_ble_eq_true rfl)
  rw [lg_entry_eq]
  generalize (lg_sl ([.ref (a 1), .int x0]) ++ List.replicate (4 - (lg_sl ([.ref (a 1), .int x0])).length) Slot.unset).toArray = ls at hl ⊢
  have hl : lv_has ls 4 [(0, .ref (a 1)), (1, .int x0)] := hl
  have lp4 : ∀ (n4 : Nat) (y4_l2 : Int32) (y4_l3 : Int32) (ls : Array Slot), Rg 0 12 y4_l3 → lv_has ls 4 [(0, .ref (a 1)), (1, .int x0), (2, .int y4_l2), (3, .int y4_l3)] → 12 - y4_l3.toInt < (n4 : Int) → W p l e (headSpec wsX2_nearAny ({ frames := 0, cells := 0, slots := 0, locals := 0 })).room s m ([.ref (a 1), .int x0]).toArray below meth c s.heap [] 0 0 (MQ below (vp_Si (fun r => Rg (-2147483648) 2147483647 r ∧ True)) ([.ref (a 1), .int x0]).toArray s 0 0 (fun _ => False)) (F0 m 4 ls []) := by
    intro n4
    induction n4 with
    | zero =>
      intro y4_l2 y4_l3 ls g4_l3 hl hm4
      exact absurd rfl (me_z g4_l3 hm4)
    | succ n4 ih4 =>
      intro y4_l2 y4_l3 ls g4_l3 hl hm4
      refine lv_iload_n hx hb dX2_nearAny_4 rfl (lv_at hl 3 rfl) ?_
      refine lv_aload_n hx hb dX2_nearAny_5 rfl (lv_at hl 0 rfl) ?_
      refine va_get (D := D) (ci := 2) (v := .int (L 1 1)) (C := RX2) (T := TX2) (N := 3) hx hb hts hin2 hown hK hP 1 rfl rfl 1 (by decide) (hts (.fieldLink RX2 15 "MissedPoints$Net" "size" "I") (by decide +kernel)) (fun _ h9 => h9) rfl dX2_nearAny_6 ?_
      refine lv_icmp_ge (tgt := 35) hx hb dX2_nearAny_9 (by decide) (fun c31348 => ?_) (fun c31348 => ?_)
      · refine lv_iload_n hx hb dX2_nearAny_35 rfl (lv_at hl 2 rfl) ?_
        exact W.iret (v := y4_l2) hx hb hr (fun t ht hW => ⟨_, rfl, ⟨(rg_any y4_l2), trivial⟩, ht⟩) (fun q hq => absurd hq List.not_mem_nil) dX2_nearAny_36
      · have g31349 : Rg 1 12 (L 1 1) := rg_ltr g4_l3 hL.1 (rg_nle c31348) (by decide)
        have g31350 : Rg 0 11 y4_l3 := rg_ltl g4_l3 hL.1 (rg_nle c31348) (by decide)
        refine lv_iload_n hx hb dX2_nearAny_12 rfl (lv_at hl 1 rfl) ?_
        refine lv_iload_n hx hb dX2_nearAny_13 rfl (lv_at hl 3 rfl) ?_
        refine lv_ishr hx hb dX2_nearAny_14 ?_
        refine wk_topP (P := fun r => r = x0 >>> (y4_l3 &&& 31)) rfl (fun r31351 qr31351 => ?_)
        refine lv_iconst (v := 1) hx hb dX2_nearAny_15 (by decide) ?_
        refine wk_iandr hx hb dX2_nearAny_16 (by decide : Rg 1 1 (1 : Int32)) (by decide) (fun r31352 hr31352 qr31352 => ?_)
        refine lv_if_eq (tgt := 29) hx hb dX2_nearAny_17 (by decide) (fun c31353 => ?_) (fun c31353 => ?_)
        · have g31354 : Rg 0 0 r31352 := wk_eql hr31352 (by decide : Rg 0 0 (0 : Int32)) c31353 (by decide)
          refine wk_iinc (lv' := fun r => [(3, .int r), (0, .ref (a 1)), (1, .int x0), (2, .int y4_l2)]) (e1 := 1) (f := 12) hx hb dX2_nearAny_29 hl (k := 3) rfl (by decide) g31350 (by decide) (fun _ => rfl) (fun r31355 ls hr31355 er31355 hl => ?_)
          refine lv_goto (tgt := 4) hx hb dX2_nearAny_32 (by decide) ?_
          exact ih4 y4_l2 r31355 ls (show Rg 0 12 r31355 from rg_w hr31355 (by decide) (by decide)) (lv_sub (l' := [(0, .ref (a 1)), (1, .int x0), (2, .int y4_l2), (3, .int r31355)]) hl [1, 2, 3, 0] rfl) (me_up hm4 er31355 (by decide))
        · have g31356 : Rg 1 1 r31352 := rg_ne_lo (k := 0) hr31352 (by decide) c31353 (by decide)
          refine lv_iload_n hx hb dX2_nearAny_20 rfl (lv_at hl 2 rfl) ?_
          refine lv_aload_n hx hb dX2_nearAny_21 rfl (lv_at hl 0 rfl) ?_
          refine va_get (D := D) (ci := 2) (v := .ref (a 2)) (C := RX2) (T := TX2) (N := 3) hx hb hts hin2 hown hK hP 1 rfl rfl 0 (by decide) (hts (.fieldLink RX2 9 "MissedPoints$Net" "links" "[I") (by decide +kernel)) (fun _ h9 => h9) rfl dX2_nearAny_22 ?_
          refine lv_iload_n hx hb dX2_nearAny_25 rfl (lv_at hl 3 rfl) ?_
          refine wk_aldA hx hb hK hP 2 0 rfl rfl (rg_in g31350 (by decide) (by decide)) dX2_nearAny_26 (fun r31357 => ?_)
          refine lv_ior hx hb dX2_nearAny_27 ?_
          refine wk_topP (P := fun r => r = y4_l2 ||| r31357) rfl (fun r31358 qr31358 => ?_)
          refine lv_istore_n (lv' := [(2, .int r31358), (0, .ref (a 1)), (1, .int x0), (3, .int y4_l3)]) hx hb dX2_nearAny_28 rfl hl (by decide) rfl (fun ls hl => ?_)
          refine wk_iinc (lv' := fun r => [(3, .int r), (2, .int r31358), (0, .ref (a 1)), (1, .int x0)]) (e1 := 1) (f := 12) hx hb dX2_nearAny_29 hl (k := 3) rfl (by decide) g31350 (by decide) (fun _ => rfl) (fun r31359 ls hr31359 er31359 hl => ?_)
          refine lv_goto (tgt := 4) hx hb dX2_nearAny_32 (by decide) ?_
          exact ih4 r31358 r31359 ls (show Rg 0 12 r31359 from rg_w hr31359 (by decide) (by decide)) (lv_sub (l' := [(0, .ref (a 1)), (1, .int x0), (2, .int r31358), (3, .int r31359)]) hl [2, 3, 1, 0] rfl) (me_up hm4 er31359 (by decide))
  refine lv_iconst (v := 0) hx hb dX2_nearAny_0 (by decide) ?_
  refine lv_istore_n (lv' := [(2, .int 0), (0, .ref (a 1)), (1, .int x0)]) hx hb dX2_nearAny_1 rfl hl (by decide) rfl (fun ls hl => ?_)
  refine lv_iconst (v := 0) hx hb dX2_nearAny_2 (by decide) ?_
  refine lv_istore_n (lv' := [(3, .int 0), (2, .int 0), (0, .ref (a 1)), (1, .int x0)]) hx hb dX2_nearAny_3 rfl hl (by decide) rfl (fun ls hl => ?_)
  exact lp4 13 (0 : Int32) (0 : Int32) ls (by decide : Rg 0 12 (0 : Int32)) (lv_sub (l' := [(0, .ref (a 1)), (1, .int x0), (2, .int 0), (3, .int 0)]) hl [2, 3, 1, 0] rfl) (me_i (by decide : Rg 0 12 (0 : Int32)) (by decide))
set_option maxHeartbeats 4000000 in
set_option maxRecDepth 100000 in
theorem k_X2_lineCount (l : Launch) (D : va_G) (cI cS : ClassId) (a : Nat → Nat) (na nc N : Nat) (L u : SU) (hL : TyX L) (hN : N = 0 ∨ N = 24576) : Met l yX2_lineCount wsX2_lineCount ({ frames := 1, cells := 0, slots := 0, locals := 40 }) (PS D cI cS (wX cI cS a na nc N L u) [.ref (a 1)]) (vp_Si (fun r => Rg (-2147483648) 2147483647 r ∧ True)) 0 0 (fun _ => False) := by
  refine Met.ofW (cc := cX2_lineCount) (maxL := 3) (ret := (some .int)) (by decide) rfl ?_
  intro p e s m args below meth c s₁ B hml hv
  obtain ⟨rfl, hP, hKK⟩ := hv
  have hx := B.exec
  have hb := B.bytes
  have hr := B.returns
  have hts := atoms_spec (ws := wsX2_lineCount) B.pre
  have hown : s.vm.findClass RX2 = some m.cls := findClass_of_methodNamed B.named
  have hlocks := B.notSynchronized
  have hK := hKK.1
  have hin2 : ∀ w ∈ wsX20, w ∈ wsX2_lineCount := by decide +kernel
  have hl := lv_entry ([.ref (a 1)]) (n := 3) (Nat.le_of_ble_eq_true rfl)
  rw [lg_entry_eq]
  generalize (lg_sl ([.ref (a 1)]) ++ List.replicate (3 - (lg_sl ([.ref (a 1)])).length) Slot.unset).toArray = ls at hl ⊢
  have hl : lv_has ls 3 [(0, .ref (a 1))] := hl
  have lp4 : ∀ (n4 : Nat) (y4_l1 : Int32) (y4_l2 : Int32) (ls : Array Slot), Rg 0 12 y4_l2 → lv_has ls 3 [(0, .ref (a 1)), (1, .int y4_l1), (2, .int y4_l2)] → 12 - y4_l2.toInt < (n4 : Int) → W p l e (headSpec wsX2_lineCount ({ frames := 1, cells := 0, slots := 0, locals := 40 })).room s m ([.ref (a 1)]).toArray below meth c s.heap [] 0 0 (MQ below (vp_Si (fun r => Rg (-2147483648) 2147483647 r ∧ True)) ([.ref (a 1)]).toArray s 0 0 (fun _ => False)) (F0 m 4 ls []) := by
    intro n4
    induction n4 with
    | zero =>
      intro y4_l1 y4_l2 ls g4_l2 hl hm4
      exact absurd rfl (me_z g4_l2 hm4)
    | succ n4 ih4 =>
      intro y4_l1 y4_l2 ls g4_l2 hl hm4
      refine lv_iload_n hx hb dX2_lineCount_4 rfl (lv_at hl 2 rfl) ?_
      refine lv_aload_n hx hb dX2_lineCount_5 rfl (lv_at hl 0 rfl) ?_
      refine va_get (D := D) (ci := 2) (v := .int (L 1 1)) (C := RX2) (T := TX2) (N := 3) hx hb hts hin2 hown hK hP 1 rfl rfl 1 (by decide) (hts (.fieldLink RX2 15 "MissedPoints$Net" "size" "I") (by decide +kernel)) (fun _ h9 => h9) rfl dX2_lineCount_6 ?_
      refine lv_icmp_ge (tgt := 30) hx hb dX2_lineCount_9 (by decide) (fun c31440 => ?_) (fun c31440 => ?_)
      · refine lv_iload_n hx hb dX2_lineCount_30 rfl (lv_at hl 1 rfl) ?_
        refine lv_iconst (v := 2) hx hb dX2_lineCount_31 (by decide) ?_
        refine lv_idiv hx hb dX2_lineCount_32 (by decide) ?_
        refine wk_any (fun r31441 => ?_)
        exact W.iret (v := r31441) hx hb hr (fun t ht hW => ⟨_, rfl, ⟨(rg_any r31441), trivial⟩, ht⟩) (fun q hq => absurd hq List.not_mem_nil) dX2_lineCount_33
      · have g31442 : Rg 1 12 (L 1 1) := rg_ltr g4_l2 hL.1 (rg_nle c31440) (by decide)
        have g31443 : Rg 0 11 y4_l2 := rg_ltl g4_l2 hL.1 (rg_nle c31440) (by decide)
        refine lv_iload_n hx hb dX2_lineCount_12 rfl (lv_at hl 1 rfl) ?_
        refine lv_aload_n hx hb dX2_lineCount_13 rfl (lv_at hl 0 rfl) ?_
        refine va_get (D := D) (ci := 2) (v := .ref (a 2)) (C := RX2) (T := TX2) (N := 3) hx hb hts hin2 hown hK hP 1 rfl rfl 0 (by decide) (hts (.fieldLink RX2 9 "MissedPoints$Net" "links" "[I") (by decide +kernel)) (fun _ h9 => h9) rfl dX2_lineCount_14 ?_
        refine lv_iload_n hx hb dX2_lineCount_17 rfl (lv_at hl 2 rfl) ?_
        refine wk_aldA hx hb hK hP 2 0 rfl rfl (rg_in g31443 (by decide) (by decide)) dX2_lineCount_18 (fun r31444 => ?_)
        refine lz_ss (As := [.int r31444]) (rest := [.int y4_l1]) ⟨hx, hb, hml, hown, hts⟩ (k_J6_bitCount_0f7a4 l D cI cS r31444) hKK (hP.sub (ws' := []) [] rfl) (va_cwS 1 hts gX2_lineCount_J6_bitCount_0f7a4 rfl rfl rfl (by decide +kernel) ⟨Nat.le_of_ble_eq_true rfl, Nat.le_of_ble_eq_true rfl⟩) rfl hl.1 rfl (Nat.le_of_ble_eq_true rfl) dX2_lineCount_19 ⟨Nat.le_of_ble_eq_true rfl, Nat.le_of_ble_eq_true rfl⟩ (fun r31445 hr31445 => ?_)
        refine lv_iadd hx hb dX2_lineCount_22 ?_
        refine wk_topP (P := fun r => r = y4_l1 + r31445) rfl (fun r31446 qr31446 => ?_)
        refine lv_istore_n (lv' := [(1, .int r31446), (0, .ref (a 1)), (2, .int y4_l2)]) hx hb dX2_lineCount_23 rfl hl (by decide) rfl (fun ls hl => ?_)
        refine wk_iinc (lv' := fun r => [(2, .int r), (1, .int r31446), (0, .ref (a 1))]) (e1 := 1) (f := 12) hx hb dX2_lineCount_24 hl (k := 2) rfl (by decide) g31443 (by decide) (fun _ => rfl) (fun r31447 ls hr31447 er31447 hl => ?_)
        refine lv_goto (tgt := 4) hx hb dX2_lineCount_27 (by decide) ?_
        exact ih4 r31446 r31447 ls (show Rg 0 12 r31447 from rg_w hr31447 (by decide) (by decide)) (lv_sub (l' := [(0, .ref (a 1)), (1, .int r31446), (2, .int r31447)]) hl [2, 1, 0] rfl) (me_up hm4 er31447 (by decide))
  refine lv_iconst (v := 0) hx hb dX2_lineCount_0 (by decide) ?_
  refine lv_istore_n (lv' := [(1, .int 0), (0, .ref (a 1))]) hx hb dX2_lineCount_1 rfl hl (by decide) rfl (fun ls hl => ?_)
  refine lv_iconst (v := 0) hx hb dX2_lineCount_2 (by decide) ?_
  refine lv_istore_n (lv' := [(2, .int 0), (1, .int 0), (0, .ref (a 1))]) hx hb dX2_lineCount_3 rfl hl (by decide) rfl (fun ls hl => ?_)
  exact lp4 13 (0 : Int32) (0 : Int32) ls (by decide : Rg 0 12 (0 : Int32)) (lv_sub (l' := [(0, .ref (a 1)), (1, .int 0), (2, .int 0)]) hl [2, 1, 0] rfl) (me_i (by decide : Rg 0 12 (0 : Int32)) (by decide))
set_option maxRecDepth 20000 in
theorem ggX2_firstPiece_J6_lowestOneBit_0f7a4 : GoodIn wsX2_firstPiece wsJ6_lowestOneBit_0f7a4 := goodIn_r _ [4] (by decide +kernel) (by decide +kernel)
set_option maxRecDepth 20000 in
theorem gX2_firstPiece_J6_lowestOneBit_0f7a4 : GoodIn wsX2_firstPiece (va_wsS RX2 75 yJ6_lowestOneBit_0f7a4 wsJ6_lowestOneBit_0f7a4) := goodIn_app (goodIn_of _ (by decide +kernel)) ggX2_firstPiece_J6_lowestOneBit_0f7a4
set_option maxRecDepth 20000 in
theorem ggX2_firstPiece_J6_numberOfTrailingZeros_0f7a4 : GoodIn wsX2_firstPiece wsJ6_numberOfTrailingZeros_0f7a4 := goodIn_r _ [7, 8] (by decide +kernel) (by decide +kernel)
set_option maxRecDepth 20000 in
theorem gX2_firstPiece_J6_numberOfTrailingZeros_0f7a4 : GoodIn wsX2_firstPiece (va_wsS RX2 78 yJ6_numberOfTrailingZeros_0f7a4 wsJ6_numberOfTrailingZeros_0f7a4) := goodIn_app (goodIn_of _ (by decide +kernel)) ggX2_firstPiece_J6_numberOfTrailingZeros_0f7a4
theorem dX2_firstPiece_0 : decode cX2_firstPiece 0 = .ok (.iload_n 1, 1) := by decide +kernel
theorem dX2_firstPiece_1 : decode cX2_firstPiece 1 = .ok (.invokestatic 75, 3) := by decide +kernel
theorem dX2_firstPiece_10 : decode cX2_firstPiece 10 = .ok (.iload 4, 2) := by decide +kernel
theorem dX2_firstPiece_12 : decode cX2_firstPiece 12 = .ok (.bipush 12, 2) := by decide +kernel
theorem dX2_firstPiece_14 : decode cX2_firstPiece 14 = .ok (.if_icmp .ge 56, 3) := by decide +kernel
theorem dX2_firstPiece_17 : decode cX2_firstPiece 17 = .ok (.iload_n 3, 1) := by decide +kernel
theorem dX2_firstPiece_18 : decode cX2_firstPiece 18 = .ok (.ifCond .eq 52, 3) := by decide +kernel
theorem dX2_firstPiece_21 : decode cX2_firstPiece 21 = .ok (.iload_n 3, 1) := by decide +kernel
theorem dX2_firstPiece_22 : decode cX2_firstPiece 22 = .ok (.invokestatic 78, 3) := by decide +kernel
theorem dX2_firstPiece_25 : decode cX2_firstPiece 25 = .ok (.istore 5, 2) := by decide +kernel
theorem dX2_firstPiece_27 : decode cX2_firstPiece 27 = .ok (.iload 5, 2) := by decide +kernel
theorem dX2_firstPiece_29 : decode cX2_firstPiece 29 = .ok (.aload_n 0, 1) := by decide +kernel
theorem dX2_firstPiece_30 : decode cX2_firstPiece 30 = .ok (.arraylength, 1) := by decide +kernel
theorem dX2_firstPiece_31 : decode cX2_firstPiece 31 = .ok (.if_icmp .lt 5, 3) := by decide +kernel
theorem dX2_firstPiece_34 : decode cX2_firstPiece 34 = .ok (.iload_n 2, 1) := by decide +kernel
theorem dX2_firstPiece_35 : decode cX2_firstPiece 35 = .ok (.ireturn, 1) := by decide +kernel
theorem dX2_firstPiece_36 : decode cX2_firstPiece 36 = .ok (.iload_n 3, 1) := by decide +kernel
theorem dX2_firstPiece_37 : decode cX2_firstPiece 37 = .ok (.iload_n 3, 1) := by decide +kernel
theorem dX2_firstPiece_38 : decode cX2_firstPiece 38 = .ok (.iconst 1, 1) := by decide +kernel
theorem dX2_firstPiece_39 : decode cX2_firstPiece 39 = .ok (.isub, 1) := by decide +kernel
theorem dX2_firstPiece_4 : decode cX2_firstPiece 4 = .ok (.istore_n 2, 1) := by decide +kernel
theorem dX2_firstPiece_40 : decode cX2_firstPiece 40 = .ok (.iand, 1) := by decide +kernel
theorem dX2_firstPiece_41 : decode cX2_firstPiece 41 = .ok (.istore_n 3, 1) := by decide +kernel
theorem dX2_firstPiece_42 : decode cX2_firstPiece 42 = .ok (.aload_n 0, 1) := by decide +kernel
theorem dX2_firstPiece_43 : decode cX2_firstPiece 43 = .ok (.iload 5, 2) := by decide +kernel
theorem dX2_firstPiece_45 : decode cX2_firstPiece 45 = .ok (.iaload, 1) := by decide +kernel
theorem dX2_firstPiece_46 : decode cX2_firstPiece 46 = .ok (.iload_n 1, 1) := by decide +kernel
theorem dX2_firstPiece_47 : decode cX2_firstPiece 47 = .ok (.iand, 1) := by decide +kernel
theorem dX2_firstPiece_48 : decode cX2_firstPiece 48 = .ok (.iload_n 2, 1) := by decide +kernel
theorem dX2_firstPiece_49 : decode cX2_firstPiece 49 = .ok (.iconst (-1), 1) := by decide +kernel
theorem dX2_firstPiece_5 : decode cX2_firstPiece 5 = .ok (.iload_n 2, 1) := by decide +kernel
theorem dX2_firstPiece_50 : decode cX2_firstPiece 50 = .ok (.ixor, 1) := by decide +kernel
theorem dX2_firstPiece_51 : decode cX2_firstPiece 51 = .ok (.iand, 1) := by decide +kernel
theorem dX2_firstPiece_52 : decode cX2_firstPiece 52 = .ok (.istore 6, 2) := by decide +kernel
theorem dX2_firstPiece_54 : decode cX2_firstPiece 54 = .ok (.iload_n 2, 1) := by decide +kernel
theorem dX2_firstPiece_55 : decode cX2_firstPiece 55 = .ok (.iload 6, 2) := by decide +kernel
theorem dX2_firstPiece_57 : decode cX2_firstPiece 57 = .ok (.ior, 1) := by decide +kernel
theorem dX2_firstPiece_58 : decode cX2_firstPiece 58 = .ok (.istore_n 2, 1) := by decide +kernel
theorem dX2_firstPiece_59 : decode cX2_firstPiece 59 = .ok (.iload_n 3, 1) := by decide +kernel
theorem dX2_firstPiece_6 : decode cX2_firstPiece 6 = .ok (.istore_n 3, 1) := by decide +kernel
theorem dX2_firstPiece_60 : decode cX2_firstPiece 60 = .ok (.iload 6, 2) := by decide +kernel
theorem dX2_firstPiece_62 : decode cX2_firstPiece 62 = .ok (.ior, 1) := by decide +kernel
theorem dX2_firstPiece_63 : decode cX2_firstPiece 63 = .ok (.istore_n 3, 1) := by decide +kernel
theorem dX2_firstPiece_64 : decode cX2_firstPiece 64 = .ok (.iinc 4 1, 3) := by decide +kernel
theorem dX2_firstPiece_67 : decode cX2_firstPiece 67 = .ok (.goto (-57), 3) := by decide +kernel
theorem dX2_firstPiece_7 : decode cX2_firstPiece 7 = .ok (.iconst 0, 1) := by decide +kernel
theorem dX2_firstPiece_70 : decode cX2_firstPiece 70 = .ok (.iload_n 2, 1) := by decide +kernel
theorem dX2_firstPiece_71 : decode cX2_firstPiece 71 = .ok (.ireturn, 1) := by decide +kernel
theorem dX2_firstPiece_8 : decode cX2_firstPiece 8 = .ok (.istore 4, 2) := by decide +kernel
set_option maxHeartbeats 4000000 in
set_option maxRecDepth 100000 in
theorem k_X2_firstPiece (l : Launch) (D : va_G) (cI cS : ClassId) (a : Nat → Nat) (na nc N : Nat) (L u : SU) (hL : TyX L) (hN : N = 0 ∨ N = 24576) (x0 : Int32) : Met l yX2_firstPiece wsX2_firstPiece ({ frames := 1, cells := 0, slots := 0, locals := 40 }) (PS D cI cS (wX cI cS a na nc N L u) [.ref (a 2), .int x0]) (vp_Si (fun r => Rg (-2147483648) 2147483647 r ∧ True)) 0 0 (fun _ => False) := by
  refine Met.ofW (cc := cX2_firstPiece) (maxL := 7) (ret := (some .int)) (by decide) rfl ?_
  intro p e s m args below meth c s₁ B hml hv
  obtain ⟨rfl, hP, hKK⟩ := hv
  have hx := B.exec
  have hb := B.bytes
  have hr := B.returns
  have hts := atoms_spec (ws := wsX2_firstPiece) B.pre
  have hown : s.vm.findClass RX2 = some m.cls := findClass_of_methodNamed B.named
  have hlocks := B.notSynchronized
  have hK := hKK.1
  have hl := lv_entry ([.ref (a 2), .int x0]) (n := 7) (Nat.le_of_ble_eq_true rfl)
  rw [lg_entry_eq]
  generalize (lg_sl ([.ref (a 2), .int x0]) ++ List.replicate (7 - (lg_sl ([.ref (a 2), .int x0])).length) Slot.unset).toArray = ls at hl ⊢
  have hl : lv_has ls 7 [(0, .ref (a 2)), (1, .int x0)] := hl
  have lp10 : ∀ (n10 : Nat) (y10_l2 : Int32) (y10_l3 : Int32) (y10_l4 : Int32) (ls : Array Slot), Rg 0 12 y10_l4 → lv_has ls 7 [(0, .ref (a 2)), (1, .int x0), (2, .int y10_l2), (3, .int y10_l3), (4, .int y10_l4)] → 12 - y10_l4.toInt < (n10 : Int) → W p l e (headSpec wsX2_firstPiece ({ frames := 1, cells := 0, slots := 0, locals := 40 })).room s m ([.ref (a 2), .int x0]).toArray below meth c s.heap [] 0 0 (MQ below (vp_Si (fun r => Rg (-2147483648) 2147483647 r ∧ True)) ([.ref (a 2), .int x0]).toArray s 0 0 (fun _ => False)) (F0 m 10 ls []) := by
    intro n10
    induction n10 with
    | zero =>
      intro y10_l2 y10_l3 y10_l4 ls g10_l4 hl hm10
      exact absurd rfl (me_z g10_l4 hm10)
    | succ n10 ih10 =>
      intro y10_l2 y10_l3 y10_l4 ls g10_l4 hl hm10
      refine lv_iload hx hb dX2_firstPiece_10 (lv_at hl 4 rfl) ?_
      refine lv_bipush (v := 12) hx hb dX2_firstPiece_12 (by decide) ?_
      refine lv_icmp_ge (tgt := 70) hx hb dX2_firstPiece_14 (by decide) (fun c31602 => ?_) (fun c31602 => ?_)
      · have g31603 : Rg 12 12 y10_l4 := rg_ler (by decide : Rg 12 12 (12 : Int32)) g10_l4 c31602 (by decide)
        refine lv_iload_n hx hb dX2_firstPiece_70 rfl (lv_at hl 2 rfl) ?_
        exact W.iret (v := y10_l2) hx hb hr (fun t ht hW => ⟨_, rfl, ⟨(rg_any y10_l2), trivial⟩, ht⟩) (fun q hq => absurd hq List.not_mem_nil) dX2_firstPiece_71
      · have g31604 : Rg 0 11 y10_l4 := rg_ltl g10_l4 (by decide : Rg 12 12 (12 : Int32)) (rg_nle c31602) (by decide)
        refine lv_iload_n hx hb dX2_firstPiece_17 rfl (lv_at hl 3 rfl) ?_
        refine lv_if_eq (tgt := 70) hx hb dX2_firstPiece_18 (by decide) (fun c31605 => ?_) (fun c31605 => ?_)
        · have g31606 : Rg 0 0 y10_l3 := wk_eql (rg_any y10_l3) (by decide : Rg 0 0 (0 : Int32)) c31605 (by decide)
          refine lv_iload_n hx hb dX2_firstPiece_70 rfl (lv_at hl 2 rfl) ?_
          exact W.iret (v := y10_l2) hx hb hr (fun t ht hW => ⟨_, rfl, ⟨(rg_any y10_l2), trivial⟩, ht⟩) (fun q hq => absurd hq List.not_mem_nil) dX2_firstPiece_71
        · refine lv_iload_n hx hb dX2_firstPiece_21 rfl (lv_at hl 3 rfl) ?_
          refine lz_ss (As := [.int y10_l3]) (rest := []) ⟨hx, hb, hml, hown, hts⟩ (k_J6_numberOfTrailingZeros_0f7a4 l D cI cS y10_l3) hKK (hP.sub (ws' := []) [] rfl) (va_cwS 1 hts gX2_firstPiece_J6_numberOfTrailingZeros_0f7a4 rfl rfl rfl (by decide +kernel) ⟨Nat.le_of_ble_eq_true rfl, Nat.le_of_ble_eq_true rfl⟩) rfl hl.1 rfl (Nat.le_of_ble_eq_true rfl) dX2_firstPiece_22 ⟨Nat.le_of_ble_eq_true rfl, Nat.le_of_ble_eq_true rfl⟩ (fun r31607 hr31607 => ?_)
          refine lv_istore (lv' := [(5, .int r31607), (0, .ref (a 2)), (1, .int x0), (2, .int y10_l2), (3, .int y10_l3), (4, .int y10_l4)]) hx hb dX2_firstPiece_25 hl (by decide) rfl (fun ls hl => ?_)
          refine lv_iload hx hb dX2_firstPiece_27 (lv_at hl 0 rfl) ?_
          refine lv_aload_n hx hb dX2_firstPiece_29 rfl (lv_at hl 1 rfl) ?_
          refine va_alen hx hb hK hP 2 0 rfl rfl (v := 12) rfl dX2_firstPiece_30 ?_
          refine lv_icmp_lt (tgt := 36) hx hb dX2_firstPiece_31 (by decide) (fun c31608 => ?_) (fun c31608 => ?_)
          · have g31609 : Rg 0 11 r31607 := rg_ltl hr31607.1 (by decide : Rg 12 12 (12 : Int32)) c31608 (by decide)
            refine lv_iload_n hx hb dX2_firstPiece_36 rfl (lv_at hl 4 rfl) ?_
            refine lv_iload_n hx hb dX2_firstPiece_37 rfl (lv_at hl 4 rfl) ?_
            refine lv_iconst (v := 1) hx hb dX2_firstPiece_38 (by decide) ?_
            refine lv_isub hx hb dX2_firstPiece_39 ?_
            refine wk_topP (P := fun r => r = y10_l3 - (1 : Int32)) rfl (fun r31610 qr31610 => ?_)
            refine lv_iand hx hb dX2_firstPiece_40 ?_
            refine wk_topP (P := fun r => r = y10_l3 &&& r31610) rfl (fun r31611 qr31611 => ?_)
            refine lv_istore_n (lv' := [(3, .int r31611), (5, .int r31607), (0, .ref (a 2)), (1, .int x0), (2, .int y10_l2), (4, .int y10_l4)]) hx hb dX2_firstPiece_41 rfl hl (by decide) rfl (fun ls hl => ?_)
            refine lv_aload_n hx hb dX2_firstPiece_42 rfl (lv_at hl 2 rfl) ?_
            refine lv_iload hx hb dX2_firstPiece_43 (lv_at hl 1 rfl) ?_
            refine wk_aldA hx hb hK hP 2 0 rfl rfl (rg_in g31609 (by decide) (by decide)) dX2_firstPiece_45 (fun r31612 => ?_)
            refine lv_iload_n hx hb dX2_firstPiece_46 rfl (lv_at hl 3 rfl) ?_
            refine lv_iand hx hb dX2_firstPiece_47 ?_
            refine wk_topP (P := fun r => r = r31612 &&& x0) rfl (fun r31613 qr31613 => ?_)
            refine lv_iload_n hx hb dX2_firstPiece_48 rfl (lv_at hl 4 rfl) ?_
            refine lv_iconst (v := (-1)) hx hb dX2_firstPiece_49 (by decide) ?_
            refine lv_ixor hx hb dX2_firstPiece_50 ?_
            refine wk_topP (P := fun r => r = y10_l2 ^^^ ((-1) : Int32)) rfl (fun r31614 qr31614 => ?_)
            refine lv_iand hx hb dX2_firstPiece_51 ?_
            refine wk_topP (P := fun r => r = r31613 &&& r31614) rfl (fun r31615 qr31615 => ?_)
            refine lv_istore (lv' := [(6, .int r31615), (3, .int r31611), (5, .int r31607), (0, .ref (a 2)), (1, .int x0), (2, .int y10_l2), (4, .int y10_l4)]) hx hb dX2_firstPiece_52 hl (by decide) rfl (fun ls hl => ?_)
            refine lv_iload_n hx hb dX2_firstPiece_54 rfl (lv_at hl 5 rfl) ?_
            refine lv_iload hx hb dX2_firstPiece_55 (lv_at hl 0 rfl) ?_
            refine lv_ior hx hb dX2_firstPiece_57 ?_
            refine wk_topP (P := fun r => r = y10_l2 ||| r31615) rfl (fun r31616 qr31616 => ?_)
            refine lv_istore_n (lv' := [(2, .int r31616), (6, .int r31615), (3, .int r31611), (5, .int r31607), (0, .ref (a 2)), (1, .int x0), (4, .int y10_l4)]) hx hb dX2_firstPiece_58 rfl hl (by decide) rfl (fun ls hl => ?_)
            refine lv_iload_n hx hb dX2_firstPiece_59 rfl (lv_at hl 2 rfl) ?_
            refine lv_iload hx hb dX2_firstPiece_60 (lv_at hl 1 rfl) ?_
            refine lv_ior hx hb dX2_firstPiece_62 ?_
            refine wk_topP (P := fun r => r = r31611 ||| r31615) rfl (fun r31617 qr31617 => ?_)
            refine lv_istore_n (lv' := [(3, .int r31617), (2, .int r31616), (6, .int r31615), (5, .int r31607), (0, .ref (a 2)), (1, .int x0), (4, .int y10_l4)]) hx hb dX2_firstPiece_63 rfl hl (by decide) rfl (fun ls hl => ?_)
            refine wk_iinc (lv' := fun r => [(4, .int r), (3, .int r31617), (2, .int r31616), (6, .int r31615), (5, .int r31607), (0, .ref (a 2)), (1, .int x0)]) (e1 := 1) (f := 12) hx hb dX2_firstPiece_64 hl (k := 6) rfl (by decide) g31604 (by decide) (fun _ => rfl) (fun r31618 ls hr31618 er31618 hl => ?_)
            refine lv_goto (tgt := 10) hx hb dX2_firstPiece_67 (by decide) ?_
            exact ih10 r31616 r31617 r31618 ls (show Rg 0 12 r31618 from rg_w hr31618 (by decide) (by decide)) (lv_sub (l' := [(0, .ref (a 2)), (1, .int x0), (2, .int r31616), (3, .int r31617), (4, .int r31618)]) hl [5, 6, 2, 1, 0] rfl) (me_up hm10 er31618 (by decide))
          · have g31619 : Rg 12 33 r31607 := rg_ler (by decide : Rg 12 12 (12 : Int32)) hr31607.1 (rg_nlt c31608) (by decide)
            refine lv_iload_n hx hb dX2_firstPiece_34 rfl (lv_at hl 3 rfl) ?_
            exact W.iret (v := y10_l2) hx hb hr (fun t ht hW => ⟨_, rfl, ⟨(rg_any y10_l2), trivial⟩, ht⟩) (fun q hq => absurd hq List.not_mem_nil) dX2_firstPiece_35
  refine lv_iload_n hx hb dX2_firstPiece_0 rfl (lv_at hl 1 rfl) ?_
  refine lz_ss (As := [.int x0]) (rest := []) ⟨hx, hb, hml, hown, hts⟩ (k_J6_lowestOneBit_0f7a4 l D cI cS x0) hKK (hP.sub (ws' := []) [] rfl) (va_cwS 1 hts gX2_firstPiece_J6_lowestOneBit_0f7a4 rfl rfl rfl (by decide +kernel) ⟨Nat.le_of_ble_eq_true rfl, Nat.le_of_ble_eq_true rfl⟩) rfl hl.1 rfl (Nat.le_of_ble_eq_true rfl) dX2_firstPiece_1 ⟨Nat.le_of_ble_eq_true rfl, Nat.le_of_ble_eq_true rfl⟩ (fun r31620 hr31620 => ?_)
  refine lv_istore_n (lv' := [(2, .int r31620), (0, .ref (a 2)), (1, .int x0)]) hx hb dX2_firstPiece_4 rfl hl (by decide) rfl (fun ls hl => ?_)
  refine lv_iload_n hx hb dX2_firstPiece_5 rfl (lv_at hl 0 rfl) ?_
  refine lv_istore_n (lv' := [(3, .int r31620), (2, .int r31620), (0, .ref (a 2)), (1, .int x0)]) hx hb dX2_firstPiece_6 rfl hl (by decide) rfl (fun ls hl => ?_)
  refine lv_iconst (v := 0) hx hb dX2_firstPiece_7 (by decide) ?_
  refine lv_istore (lv' := [(4, .int 0), (3, .int r31620), (2, .int r31620), (0, .ref (a 2)), (1, .int x0)]) hx hb dX2_firstPiece_8 hl (by decide) rfl (fun ls hl => ?_)
  exact lp10 13 r31620 r31620 (0 : Int32) ls (by decide : Rg 0 12 (0 : Int32)) (lv_sub (l' := [(0, .ref (a 2)), (1, .int x0), (2, .int r31620), (3, .int r31620), (4, .int 0)]) hl [3, 4, 2, 1, 0] rfl) (me_i (by decide : Rg 0 12 (0 : Int32)) (by decide))
set_option maxRecDepth 20000 in
theorem ggX2_pieceCount_X2_firstPiece : GoodIn wsX2_pieceCount wsX2_firstPiece := goodIn_r _ [10, 11, 12, 13, 14, 15, 16, 17, 18] (by decide +kernel) (by decide +kernel)
set_option maxRecDepth 20000 in
theorem gX2_pieceCount_X2_firstPiece : GoodIn wsX2_pieceCount (va_wsS RX2 71 yX2_firstPiece wsX2_firstPiece) := goodIn_app (goodIn_of _ (by decide +kernel)) ggX2_pieceCount_X2_firstPiece
theorem dX2_pieceCount_23 : decode cX2_pieceCount 23 = .ok (.iload_n 2, 1) := by decide +kernel
theorem dX2_pieceCount_24 : decode cX2_pieceCount 24 = .ok (.aload_n 0, 1) := by decide +kernel
theorem dX2_pieceCount_25 : decode cX2_pieceCount 25 = .ok (.getfield 9, 3) := by decide +kernel
theorem dX2_pieceCount_28 : decode cX2_pieceCount 28 = .ok (.iload_n 2, 1) := by decide +kernel
theorem dX2_pieceCount_29 : decode cX2_pieceCount 29 = .ok (.invokestatic 71, 3) := by decide +kernel
theorem dX2_pieceCount_32 : decode cX2_pieceCount 32 = .ok (.iconst (-1), 1) := by decide +kernel
theorem dX2_pieceCount_33 : decode cX2_pieceCount 33 = .ok (.ixor, 1) := by decide +kernel
theorem dX2_pieceCount_34 : decode cX2_pieceCount 34 = .ok (.iand, 1) := by decide +kernel
theorem dX2_pieceCount_35 : decode cX2_pieceCount 35 = .ok (.istore_n 2, 1) := by decide +kernel
theorem dX2_pieceCount_36 : decode cX2_pieceCount 36 = .ok (.iinc 3 1, 3) := by decide +kernel
theorem dX2_pieceCount_39 : decode cX2_pieceCount 39 = .ok (.iinc 4 1, 3) := by decide +kernel
theorem dX2_pieceCount_42 : decode cX2_pieceCount 42 = .ok (.goto (-30), 3) := by decide +kernel
set_option maxHeartbeats 4000000 in
set_option maxRecDepth 100000 in
theorem k_X2_pieceCount (l : Launch) (D : va_G) (cI cS : ClassId) (a : Nat → Nat) (na nc N : Nat) (L u : SU) (hL : TyX L) (hN : N = 0 ∨ N = 24576) (x0 : Int32) : Met l yX2_pieceCount wsX2_pieceCount ({ frames := 2, cells := 0, slots := 0, locals := 80 }) (PS D cI cS (wX cI cS a na nc N L u) [.ref (a 1), .int x0]) (vp_Si (fun r => Rg (-2147483648) 2147483647 r ∧ True)) 0 0 (fun _ => False) := by
  refine Met.ofW (cc := cX2_pieceCount) (maxL := 5) (ret := (some .int)) (by decide) rfl ?_
  intro p e s m args below meth c s₁ B hml hv
  obtain ⟨rfl, hP, hKK⟩ := hv
  have hx := B.exec
  have hb := B.bytes
  have hr := B.returns
  have hts := atoms_spec (ws := wsX2_pieceCount) B.pre
  have hown : s.vm.findClass RX2 = some m.cls := findClass_of_methodNamed B.named
  have hlocks := B.notSynchronized
  have hK := hKK.1
  have hin2 : ∀ w ∈ wsX20, w ∈ wsX2_pieceCount := by decide +kernel
  have hl := lv_entry ([.ref (a 1), .int x0]) (n := 5) (Nat.le_of_ble_eq_true rfl)
  rw [lg_entry_eq]
  generalize (lg_sl ([.ref (a 1), .int x0]) ++ List.replicate (5 - (lg_sl ([.ref (a 1), .int x0])).length) Slot.unset).toArray = ls at hl ⊢
  have hl : lv_has ls 5 [(0, .ref (a 1)), (1, .int x0)] := hl
  have lp12 : ∀ (n12 : Nat) (y12_l2 : Int32) (y12_l3 : Int32) (y12_l4 : Int32) (ls : Array Slot), Rg 0 4095 y12_l2 → Rg 0 12 y12_l4 → lv_has ls 5 [(0, .ref (a 1)), (2, .int y12_l2), (3, .int y12_l3), (4, .int y12_l4)] → 12 - y12_l4.toInt < (n12 : Int) → W p l e (headSpec wsX2_pieceCount ({ frames := 2, cells := 0, slots := 0, locals := 80 })).room s m ([.ref (a 1), .int x0]).toArray below meth c s.heap [] 0 0 (MQ below (vp_Si (fun r => Rg (-2147483648) 2147483647 r ∧ True)) ([.ref (a 1), .int x0]).toArray s 0 0 (fun _ => False)) (F0 m 12 ls []) := by
    intro n12
    induction n12 with
    | zero =>
      intro y12_l2 y12_l3 y12_l4 ls g12_l2 g12_l4 hl hm12
      exact absurd rfl (me_z g12_l4 hm12)
    | succ n12 ih12 =>
      intro y12_l2 y12_l3 y12_l4 ls g12_l2 g12_l4 hl hm12
      refine lv_iload hx hb dX2_pieceCount_12 (lv_at hl 3 rfl) ?_
      refine lv_bipush (v := 12) hx hb dX2_pieceCount_14 (by decide) ?_
      refine lv_icmp_ge (tgt := 45) hx hb dX2_pieceCount_16 (by decide) (fun c31980 => ?_) (fun c31980 => ?_)
      · have g31981 : Rg 12 12 y12_l4 := rg_ler (by decide : Rg 12 12 (12 : Int32)) g12_l4 c31980 (by decide)
        refine lv_iload_n hx hb dX2_pieceCount_45 rfl (lv_at hl 2 rfl) ?_
        exact W.iret (v := y12_l3) hx hb hr (fun t ht hW => ⟨_, rfl, ⟨(rg_any y12_l3), trivial⟩, ht⟩) (fun q hq => absurd hq List.not_mem_nil) dX2_pieceCount_46
      · have g31982 : Rg 0 11 y12_l4 := rg_ltl g12_l4 (by decide : Rg 12 12 (12 : Int32)) (rg_nle c31980) (by decide)
        refine lv_iload_n hx hb dX2_pieceCount_19 rfl (lv_at hl 1 rfl) ?_
        refine lv_if_eq (tgt := 45) hx hb dX2_pieceCount_20 (by decide) (fun c31983 => ?_) (fun c31983 => ?_)
        · have g31984 : Rg 0 0 y12_l2 := wk_eql g12_l2 (by decide : Rg 0 0 (0 : Int32)) c31983 (by decide)
          refine lv_iload_n hx hb dX2_pieceCount_45 rfl (lv_at hl 2 rfl) ?_
          exact W.iret (v := y12_l3) hx hb hr (fun t ht hW => ⟨_, rfl, ⟨(rg_any y12_l3), trivial⟩, ht⟩) (fun q hq => absurd hq List.not_mem_nil) dX2_pieceCount_46
        · have g31985 : Rg 1 4095 y12_l2 := rg_ne_lo (k := 0) g12_l2 (by decide) c31983 (by decide)
          refine lv_iload_n hx hb dX2_pieceCount_23 rfl (lv_at hl 1 rfl) ?_
          refine lv_aload_n hx hb dX2_pieceCount_24 rfl (lv_at hl 0 rfl) ?_
          refine va_get (D := D) (ci := 2) (v := .ref (a 2)) (C := RX2) (T := TX2) (N := 3) hx hb hts hin2 hown hK hP 1 rfl rfl 0 (by decide) (hts (.fieldLink RX2 9 "MissedPoints$Net" "links" "[I") (by decide +kernel)) (fun _ h9 => h9) rfl dX2_pieceCount_25 ?_
          refine lv_iload_n hx hb dX2_pieceCount_28 rfl (lv_at hl 1 rfl) ?_
          refine lz_ss (As := [.ref (a 2), .int y12_l2]) (rest := [.int y12_l2]) ⟨hx, hb, hml, hown, hts⟩ (k_X2_firstPiece l D cI cS a na nc N L u hL hN y12_l2) hKK hP (va_cwS 2 hts gX2_pieceCount_X2_firstPiece rfl rfl rfl (by decide +kernel) ⟨Nat.le_of_ble_eq_true rfl, Nat.le_of_ble_eq_true rfl⟩) rfl hl.1 rfl (Nat.le_of_ble_eq_true rfl) dX2_pieceCount_29 ⟨Nat.le_of_ble_eq_true rfl, Nat.le_of_ble_eq_true rfl⟩ (fun r31986 hr31986 => ?_)
          refine lv_iconst (v := (-1)) hx hb dX2_pieceCount_32 (by decide) ?_
          refine lv_ixor hx hb dX2_pieceCount_33 ?_
          refine wk_topP (P := fun r => r = r31986 ^^^ ((-1) : Int32)) rfl (fun r31987 qr31987 => ?_)
          refine wk_iandl hx hb dX2_pieceCount_34 g31985 (by decide) (fun r31988 hr31988 qr31988 => ?_)
          refine lv_istore_n (lv' := [(2, .int r31988), (0, .ref (a 1)), (3, .int y12_l3), (4, .int y12_l4)]) hx hb dX2_pieceCount_35 rfl hl (by decide) rfl (fun ls hl => ?_)
          refine wk_iincA (lv' := fun r => [(3, .int r), (2, .int r31988), (0, .ref (a 1)), (4, .int y12_l4)]) hx hb dX2_pieceCount_36 hl (k := 2) rfl (by decide) (fun _ => rfl) (fun r31989 ls hl => ?_)
          refine wk_iinc (lv' := fun r => [(4, .int r), (3, .int r31989), (2, .int r31988), (0, .ref (a 1))]) (e1 := 1) (f := 12) hx hb dX2_pieceCount_39 hl (k := 3) rfl (by decide) g31982 (by decide) (fun _ => rfl) (fun r31990 ls hr31990 er31990 hl => ?_)
          refine lv_goto (tgt := 12) hx hb dX2_pieceCount_42 (by decide) ?_
          exact ih12 r31988 r31989 r31990 ls hr31988 (show Rg 0 12 r31990 from rg_w hr31990 (by decide) (by decide)) (lv_sub (l' := [(0, .ref (a 1)), (2, .int r31988), (3, .int r31989), (4, .int r31990)]) hl [3, 2, 1, 0] rfl) (me_up hm12 er31990 (by decide))
  refine lv_iload_n hx hb dX2_pieceCount_0 rfl (lv_at hl 1 rfl) ?_
  refine lv_aload_n hx hb dX2_pieceCount_1 rfl (lv_at hl 0 rfl) ?_
  refine wk_sv 1 (As := []) (rest := [.int x0]) ⟨hx, hb, hml, hown, hts⟩ (k_X2_all l D cI cS a na nc N L u hL hN) hKK hP (ci := 2) rfl rfl (cwV 0 hts gX2_pieceCount_X2_all rfl rfl rfl (by decide +kernel) ⟨Nat.le_of_ble_eq_true rfl, Nat.le_of_ble_eq_true rfl⟩) rfl hl.1 rfl (Nat.le_of_ble_eq_true rfl) dX2_pieceCount_2 ⟨Nat.le_of_ble_eq_true rfl, Nat.le_of_ble_eq_true rfl⟩ (fun r31991 hr31991 => ?_)
  refine wk_iandr hx hb dX2_pieceCount_5 hr31991.1 (by decide) (fun r31992 hr31992 qr31992 => ?_)
  refine lv_istore_n (lv' := [(2, .int r31992), (0, .ref (a 1)), (1, .int x0)]) hx hb dX2_pieceCount_6 rfl hl (by decide) rfl (fun ls hl => ?_)
  refine lv_iconst (v := 0) hx hb dX2_pieceCount_7 (by decide) ?_
  refine lv_istore_n (lv' := [(3, .int 0), (2, .int r31992), (0, .ref (a 1)), (1, .int x0)]) hx hb dX2_pieceCount_8 rfl hl (by decide) rfl (fun ls hl => ?_)
  refine lv_iconst (v := 0) hx hb dX2_pieceCount_9 (by decide) ?_
  refine lv_istore (lv' := [(4, .int 0), (3, .int 0), (2, .int r31992), (0, .ref (a 1)), (1, .int x0)]) hx hb dX2_pieceCount_10 hl (by decide) rfl (fun ls hl => ?_)
  exact lp12 13 r31992 (0 : Int32) (0 : Int32) ls hr31992 (by decide : Rg 0 12 (0 : Int32)) (lv_sub (l' := [(0, .ref (a 1)), (2, .int r31992), (3, .int 0), (4, .int 0)]) hl [3, 2, 1, 0] rfl) (me_i (by decide : Rg 0 12 (0 : Int32)) (by decide))
set_option maxRecDepth 20000 in
theorem ggX2_oddPieceCount_J6_bitCount_0f7a4 : GoodIn wsX2_oddPieceCount wsJ6_bitCount_0f7a4 := goodIn_r _ [21, 22, 23, 24] (by decide +kernel) (by decide +kernel)
set_option maxRecDepth 20000 in
theorem gX2_oddPieceCount_J6_bitCount_0f7a4 : GoodIn wsX2_oddPieceCount (va_wsS RX2 65 yJ6_bitCount_0f7a4 wsJ6_bitCount_0f7a4) := goodIn_app (goodIn_of _ (by decide +kernel)) ggX2_oddPieceCount_J6_bitCount_0f7a4
set_option maxRecDepth 20000 in
theorem ggX2_oddPieceCount_X2_firstPiece : GoodIn wsX2_oddPieceCount wsX2_firstPiece := goodIn_r _ [10, 11, 12, 13, 14, 15, 16, 17, 18] (by decide +kernel) (by decide +kernel)
set_option maxRecDepth 20000 in
theorem gX2_oddPieceCount_X2_firstPiece : GoodIn wsX2_oddPieceCount (va_wsS RX2 71 yX2_firstPiece wsX2_firstPiece) := goodIn_app (goodIn_of _ (by decide +kernel)) ggX2_oddPieceCount_X2_firstPiece
theorem dX2_oddPieceCount_23 : decode cX2_oddPieceCount 23 = .ok (.aload_n 0, 1) := by decide +kernel
theorem dX2_oddPieceCount_24 : decode cX2_oddPieceCount 24 = .ok (.getfield 9, 3) := by decide +kernel
theorem dX2_oddPieceCount_27 : decode cX2_oddPieceCount 27 = .ok (.iload_n 2, 1) := by decide +kernel
theorem dX2_oddPieceCount_28 : decode cX2_oddPieceCount 28 = .ok (.invokestatic 71, 3) := by decide +kernel
theorem dX2_oddPieceCount_31 : decode cX2_oddPieceCount 31 = .ok (.istore 5, 2) := by decide +kernel
theorem dX2_oddPieceCount_33 : decode cX2_oddPieceCount 33 = .ok (.iload_n 2, 1) := by decide +kernel
theorem dX2_oddPieceCount_34 : decode cX2_oddPieceCount 34 = .ok (.iload 5, 2) := by decide +kernel
theorem dX2_oddPieceCount_36 : decode cX2_oddPieceCount 36 = .ok (.iconst (-1), 1) := by decide +kernel
theorem dX2_oddPieceCount_37 : decode cX2_oddPieceCount 37 = .ok (.ixor, 1) := by decide +kernel
theorem dX2_oddPieceCount_38 : decode cX2_oddPieceCount 38 = .ok (.iand, 1) := by decide +kernel
theorem dX2_oddPieceCount_39 : decode cX2_oddPieceCount 39 = .ok (.istore_n 2, 1) := by decide +kernel
theorem dX2_oddPieceCount_40 : decode cX2_oddPieceCount 40 = .ok (.iload_n 3, 1) := by decide +kernel
theorem dX2_oddPieceCount_41 : decode cX2_oddPieceCount 41 = .ok (.iload 5, 2) := by decide +kernel
theorem dX2_oddPieceCount_43 : decode cX2_oddPieceCount 43 = .ok (.invokestatic 65, 3) := by decide +kernel
theorem dX2_oddPieceCount_46 : decode cX2_oddPieceCount 46 = .ok (.iconst 1, 1) := by decide +kernel
theorem dX2_oddPieceCount_47 : decode cX2_oddPieceCount 47 = .ok (.iand, 1) := by decide +kernel
theorem dX2_oddPieceCount_48 : decode cX2_oddPieceCount 48 = .ok (.iadd, 1) := by decide +kernel
theorem dX2_oddPieceCount_49 : decode cX2_oddPieceCount 49 = .ok (.istore_n 3, 1) := by decide +kernel
theorem dX2_oddPieceCount_50 : decode cX2_oddPieceCount 50 = .ok (.iinc 4 1, 3) := by decide +kernel
theorem dX2_oddPieceCount_53 : decode cX2_oddPieceCount 53 = .ok (.goto (-41), 3) := by decide +kernel
set_option maxHeartbeats 4000000 in
set_option maxRecDepth 100000 in
theorem k_X2_oddPieceCount (l : Launch) (D : va_G) (cI cS : ClassId) (a : Nat → Nat) (na nc N : Nat) (L u : SU) (hL : TyX L) (hN : N = 0 ∨ N = 24576) (x0 : Int32) : Met l yX2_oddPieceCount wsX2_oddPieceCount ({ frames := 2, cells := 0, slots := 0, locals := 80 }) (PS D cI cS (wX cI cS a na nc N L u) [.ref (a 1), .int x0]) (vp_Si (fun r => Rg (-2147483648) 2147483647 r ∧ True)) 0 0 (fun _ => False) := by
  refine Met.ofW (cc := cX2_oddPieceCount) (maxL := 6) (ret := (some .int)) (by decide) rfl ?_
  intro p e s m args below meth c s₁ B hml hv
  obtain ⟨rfl, hP, hKK⟩ := hv
  have hx := B.exec
  have hb := B.bytes
  have hr := B.returns
  have hts := atoms_spec (ws := wsX2_oddPieceCount) B.pre
  have hown : s.vm.findClass RX2 = some m.cls := findClass_of_methodNamed B.named
  have hlocks := B.notSynchronized
  have hK := hKK.1
  have hin2 : ∀ w ∈ wsX20, w ∈ wsX2_oddPieceCount := by decide +kernel
  have hl := lv_entry ([.ref (a 1), .int x0]) (n := 6) (Nat.le_of_ble_eq_true rfl)
  rw [lg_entry_eq]
  generalize (lg_sl ([.ref (a 1), .int x0]) ++ List.replicate (6 - (lg_sl ([.ref (a 1), .int x0])).length) Slot.unset).toArray = ls at hl ⊢
  have hl : lv_has ls 6 [(0, .ref (a 1)), (1, .int x0)] := hl
  have lp12 : ∀ (n12 : Nat) (y12_l2 : Int32) (y12_l3 : Int32) (y12_l4 : Int32) (ls : Array Slot), Rg 0 4095 y12_l2 → Rg 0 12 y12_l4 → lv_has ls 6 [(0, .ref (a 1)), (2, .int y12_l2), (3, .int y12_l3), (4, .int y12_l4)] → 12 - y12_l4.toInt < (n12 : Int) → W p l e (headSpec wsX2_oddPieceCount ({ frames := 2, cells := 0, slots := 0, locals := 80 })).room s m ([.ref (a 1), .int x0]).toArray below meth c s.heap [] 0 0 (MQ below (vp_Si (fun r => Rg (-2147483648) 2147483647 r ∧ True)) ([.ref (a 1), .int x0]).toArray s 0 0 (fun _ => False)) (F0 m 12 ls []) := by
    intro n12
    induction n12 with
    | zero =>
      intro y12_l2 y12_l3 y12_l4 ls g12_l2 g12_l4 hl hm12
      exact absurd rfl (me_z g12_l4 hm12)
    | succ n12 ih12 =>
      intro y12_l2 y12_l3 y12_l4 ls g12_l2 g12_l4 hl hm12
      refine lv_iload hx hb dX2_oddPieceCount_12 (lv_at hl 3 rfl) ?_
      refine lv_bipush (v := 12) hx hb dX2_oddPieceCount_14 (by decide) ?_
      refine lv_icmp_ge (tgt := 56) hx hb dX2_oddPieceCount_16 (by decide) (fun c32410 => ?_) (fun c32410 => ?_)
      · have g32411 : Rg 12 12 y12_l4 := rg_ler (by decide : Rg 12 12 (12 : Int32)) g12_l4 c32410 (by decide)
        refine lv_iload_n hx hb dX2_oddPieceCount_56 rfl (lv_at hl 2 rfl) ?_
        exact W.iret (v := y12_l3) hx hb hr (fun t ht hW => ⟨_, rfl, ⟨(rg_any y12_l3), trivial⟩, ht⟩) (fun q hq => absurd hq List.not_mem_nil) dX2_oddPieceCount_57
      · have g32412 : Rg 0 11 y12_l4 := rg_ltl g12_l4 (by decide : Rg 12 12 (12 : Int32)) (rg_nle c32410) (by decide)
        refine lv_iload_n hx hb dX2_oddPieceCount_19 rfl (lv_at hl 1 rfl) ?_
        refine lv_if_eq (tgt := 56) hx hb dX2_oddPieceCount_20 (by decide) (fun c32413 => ?_) (fun c32413 => ?_)
        · have g32414 : Rg 0 0 y12_l2 := wk_eql g12_l2 (by decide : Rg 0 0 (0 : Int32)) c32413 (by decide)
          refine lv_iload_n hx hb dX2_oddPieceCount_56 rfl (lv_at hl 2 rfl) ?_
          exact W.iret (v := y12_l3) hx hb hr (fun t ht hW => ⟨_, rfl, ⟨(rg_any y12_l3), trivial⟩, ht⟩) (fun q hq => absurd hq List.not_mem_nil) dX2_oddPieceCount_57
        · have g32415 : Rg 1 4095 y12_l2 := rg_ne_lo (k := 0) g12_l2 (by decide) c32413 (by decide)
          refine lv_aload_n hx hb dX2_oddPieceCount_23 rfl (lv_at hl 0 rfl) ?_
          refine va_get (D := D) (ci := 2) (v := .ref (a 2)) (C := RX2) (T := TX2) (N := 3) hx hb hts hin2 hown hK hP 1 rfl rfl 0 (by decide) (hts (.fieldLink RX2 9 "MissedPoints$Net" "links" "[I") (by decide +kernel)) (fun _ h9 => h9) rfl dX2_oddPieceCount_24 ?_
          refine lv_iload_n hx hb dX2_oddPieceCount_27 rfl (lv_at hl 1 rfl) ?_
          refine lz_ss (As := [.ref (a 2), .int y12_l2]) (rest := []) ⟨hx, hb, hml, hown, hts⟩ (k_X2_firstPiece l D cI cS a na nc N L u hL hN y12_l2) hKK hP (va_cwS 2 hts gX2_oddPieceCount_X2_firstPiece rfl rfl rfl (by decide +kernel) ⟨Nat.le_of_ble_eq_true rfl, Nat.le_of_ble_eq_true rfl⟩) rfl hl.1 rfl (Nat.le_of_ble_eq_true rfl) dX2_oddPieceCount_28 ⟨Nat.le_of_ble_eq_true rfl, Nat.le_of_ble_eq_true rfl⟩ (fun r32416 hr32416 => ?_)
          refine lv_istore (lv' := [(5, .int r32416), (0, .ref (a 1)), (2, .int y12_l2), (3, .int y12_l3), (4, .int y12_l4)]) hx hb dX2_oddPieceCount_31 hl (by decide) rfl (fun ls hl => ?_)
          refine lv_iload_n hx hb dX2_oddPieceCount_33 rfl (lv_at hl 2 rfl) ?_
          refine lv_iload hx hb dX2_oddPieceCount_34 (lv_at hl 0 rfl) ?_
          refine lv_iconst (v := (-1)) hx hb dX2_oddPieceCount_36 (by decide) ?_
          refine lv_ixor hx hb dX2_oddPieceCount_37 ?_
          refine wk_topP (P := fun r => r = r32416 ^^^ ((-1) : Int32)) rfl (fun r32417 qr32417 => ?_)
          refine wk_iandl hx hb dX2_oddPieceCount_38 g32415 (by decide) (fun r32418 hr32418 qr32418 => ?_)
          refine lv_istore_n (lv' := [(2, .int r32418), (5, .int r32416), (0, .ref (a 1)), (3, .int y12_l3), (4, .int y12_l4)]) hx hb dX2_oddPieceCount_39 rfl hl (by decide) rfl (fun ls hl => ?_)
          refine lv_iload_n hx hb dX2_oddPieceCount_40 rfl (lv_at hl 3 rfl) ?_
          refine lv_iload hx hb dX2_oddPieceCount_41 (lv_at hl 1 rfl) ?_
          refine lz_ss (As := [.int r32416]) (rest := [.int y12_l3]) ⟨hx, hb, hml, hown, hts⟩ (k_J6_bitCount_0f7a4 l D cI cS r32416) hKK (hP.sub (ws' := []) [] rfl) (va_cwS 1 hts gX2_oddPieceCount_J6_bitCount_0f7a4 rfl rfl rfl (by decide +kernel) ⟨Nat.le_of_ble_eq_true rfl, Nat.le_of_ble_eq_true rfl⟩) rfl hl.1 rfl (Nat.le_of_ble_eq_true rfl) dX2_oddPieceCount_43 ⟨Nat.le_of_ble_eq_true rfl, Nat.le_of_ble_eq_true rfl⟩ (fun r32419 hr32419 => ?_)
          refine lv_iconst (v := 1) hx hb dX2_oddPieceCount_46 (by decide) ?_
          refine wk_iandr hx hb dX2_oddPieceCount_47 (by decide : Rg 1 1 (1 : Int32)) (by decide) (fun r32420 hr32420 qr32420 => ?_)
          refine lv_iadd hx hb dX2_oddPieceCount_48 ?_
          refine wk_topP (P := fun r => r = y12_l3 + r32420) rfl (fun r32421 qr32421 => ?_)
          refine lv_istore_n (lv' := [(3, .int r32421), (2, .int r32418), (5, .int r32416), (0, .ref (a 1)), (4, .int y12_l4)]) hx hb dX2_oddPieceCount_49 rfl hl (by decide) rfl (fun ls hl => ?_)
          refine wk_iinc (lv' := fun r => [(4, .int r), (3, .int r32421), (2, .int r32418), (5, .int r32416), (0, .ref (a 1))]) (e1 := 1) (f := 12) hx hb dX2_oddPieceCount_50 hl (k := 4) rfl (by decide) g32412 (by decide) (fun _ => rfl) (fun r32422 ls hr32422 er32422 hl => ?_)
          refine lv_goto (tgt := 12) hx hb dX2_oddPieceCount_53 (by decide) ?_
          exact ih12 r32418 r32421 r32422 ls hr32418 (show Rg 0 12 r32422 from rg_w hr32422 (by decide) (by decide)) (lv_sub (l' := [(0, .ref (a 1)), (2, .int r32418), (3, .int r32421), (4, .int r32422)]) hl [4, 2, 1, 0] rfl) (me_up hm12 er32422 (by decide))
  refine lv_iload_n hx hb dX2_oddPieceCount_0 rfl (lv_at hl 1 rfl) ?_
  refine lv_aload_n hx hb dX2_oddPieceCount_1 rfl (lv_at hl 0 rfl) ?_
  refine wk_sv 1 (As := []) (rest := [.int x0]) ⟨hx, hb, hml, hown, hts⟩ (k_X2_all l D cI cS a na nc N L u hL hN) hKK hP (ci := 2) rfl rfl (cwV 0 hts gX2_oddPieceCount_X2_all rfl rfl rfl (by decide +kernel) ⟨Nat.le_of_ble_eq_true rfl, Nat.le_of_ble_eq_true rfl⟩) rfl hl.1 rfl (Nat.le_of_ble_eq_true rfl) dX2_oddPieceCount_2 ⟨Nat.le_of_ble_eq_true rfl, Nat.le_of_ble_eq_true rfl⟩ (fun r32423 hr32423 => ?_)
  refine wk_iandr hx hb dX2_oddPieceCount_5 hr32423.1 (by decide) (fun r32424 hr32424 qr32424 => ?_)
  refine lv_istore_n (lv' := [(2, .int r32424), (0, .ref (a 1)), (1, .int x0)]) hx hb dX2_oddPieceCount_6 rfl hl (by decide) rfl (fun ls hl => ?_)
  refine lv_iconst (v := 0) hx hb dX2_oddPieceCount_7 (by decide) ?_
  refine lv_istore_n (lv' := [(3, .int 0), (2, .int r32424), (0, .ref (a 1)), (1, .int x0)]) hx hb dX2_oddPieceCount_8 rfl hl (by decide) rfl (fun ls hl => ?_)
  refine lv_iconst (v := 0) hx hb dX2_oddPieceCount_9 (by decide) ?_
  refine lv_istore (lv' := [(4, .int 0), (3, .int 0), (2, .int r32424), (0, .ref (a 1)), (1, .int x0)]) hx hb dX2_oddPieceCount_10 hl (by decide) rfl (fun ls hl => ?_)
  exact lp12 13 r32424 (0 : Int32) (0 : Int32) ls hr32424 (by decide : Rg 0 12 (0 : Int32)) (lv_sub (l' := [(0, .ref (a 1)), (2, .int r32424), (3, .int 0), (4, .int 0)]) hl [3, 2, 1, 0] rfl) (me_i (by decide : Rg 0 12 (0 : Int32)) (by decide))
set_option maxRecDepth 20000 in
theorem ggX2_pieceAt_X2_firstPiece : GoodIn wsX2_pieceAt wsX2_firstPiece := goodIn_r _ [10, 11, 12, 13, 14, 15, 16, 17, 18] (by decide +kernel) (by decide +kernel)
set_option maxRecDepth 20000 in
theorem gX2_pieceAt_X2_firstPiece : GoodIn wsX2_pieceAt (va_wsS RX2 71 yX2_firstPiece wsX2_firstPiece) := goodIn_app (goodIn_of _ (by decide +kernel)) ggX2_pieceAt_X2_firstPiece
theorem dX2_pieceAt_21 : decode cX2_pieceAt 21 = .ok (.aload_n 0, 1) := by decide +kernel
theorem dX2_pieceAt_22 : decode cX2_pieceAt 22 = .ok (.getfield 9, 3) := by decide +kernel
theorem dX2_pieceAt_25 : decode cX2_pieceAt 25 = .ok (.iload_n 3, 1) := by decide +kernel
theorem dX2_pieceAt_26 : decode cX2_pieceAt 26 = .ok (.invokestatic 71, 3) := by decide +kernel
theorem dX2_pieceAt_29 : decode cX2_pieceAt 29 = .ok (.istore 5, 2) := by decide +kernel
theorem dX2_pieceAt_31 : decode cX2_pieceAt 31 = .ok (.iload 4, 2) := by decide +kernel
theorem dX2_pieceAt_33 : decode cX2_pieceAt 33 = .ok (.iload_n 2, 1) := by decide +kernel
theorem dX2_pieceAt_34 : decode cX2_pieceAt 34 = .ok (.if_icmp .ne 6, 3) := by decide +kernel
theorem dX2_pieceAt_37 : decode cX2_pieceAt 37 = .ok (.iload 5, 2) := by decide +kernel
theorem dX2_pieceAt_39 : decode cX2_pieceAt 39 = .ok (.ireturn, 1) := by decide +kernel
theorem dX2_pieceAt_40 : decode cX2_pieceAt 40 = .ok (.iload_n 3, 1) := by decide +kernel
theorem dX2_pieceAt_41 : decode cX2_pieceAt 41 = .ok (.iload 5, 2) := by decide +kernel
theorem dX2_pieceAt_43 : decode cX2_pieceAt 43 = .ok (.iconst (-1), 1) := by decide +kernel
theorem dX2_pieceAt_44 : decode cX2_pieceAt 44 = .ok (.ixor, 1) := by decide +kernel
theorem dX2_pieceAt_45 : decode cX2_pieceAt 45 = .ok (.iand, 1) := by decide +kernel
theorem dX2_pieceAt_46 : decode cX2_pieceAt 46 = .ok (.istore_n 3, 1) := by decide +kernel
theorem dX2_pieceAt_47 : decode cX2_pieceAt 47 = .ok (.iinc 4 1, 3) := by decide +kernel
theorem dX2_pieceAt_50 : decode cX2_pieceAt 50 = .ok (.goto (-40), 3) := by decide +kernel
set_option maxHeartbeats 4000000 in
set_option maxRecDepth 100000 in
theorem k_X2_pieceAt (l : Launch) (D : va_G) (cI cS : ClassId) (a : Nat → Nat) (na nc N : Nat) (L u : SU) (hL : TyX L) (hN : N = 0 ∨ N = 24576) (x0 x1 : Int32) : Met l yX2_pieceAt wsX2_pieceAt ({ frames := 2, cells := 0, slots := 0, locals := 80 }) (PS D cI cS (wX cI cS a na nc N L u) [.ref (a 1), .int x0, .int x1]) (vp_Si (fun r => Rg (-2147483648) 2147483647 r ∧ True)) 0 0 (fun _ => False) := by
  refine Met.ofW (cc := cX2_pieceAt) (maxL := 6) (ret := (some .int)) (by decide) rfl ?_
  intro p e s m args below meth c s₁ B hml hv
  obtain ⟨rfl, hP, hKK⟩ := hv
  have hx := B.exec
  have hb := B.bytes
  have hr := B.returns
  have hts := atoms_spec (ws := wsX2_pieceAt) B.pre
  have hown : s.vm.findClass RX2 = some m.cls := findClass_of_methodNamed B.named
  have hlocks := B.notSynchronized
  have hK := hKK.1
  have hin2 : ∀ w ∈ wsX20, w ∈ wsX2_pieceAt := by decide +kernel
  have hl := lv_entry ([.ref (a 1), .int x0, .int x1]) (n := 6) (Nat.le_of_ble_eq_true rfl)
  rw [lg_entry_eq]
  generalize (lg_sl ([.ref (a 1), .int x0, .int x1]) ++ List.replicate (6 - (lg_sl ([.ref (a 1), .int x0, .int x1])).length) Slot.unset).toArray = ls at hl ⊢
  have hl : lv_has ls 6 [(0, .ref (a 1)), (1, .int x0), (2, .int x1)] := hl
  have lp10 : ∀ (n10 : Nat) (y10_l3 : Int32) (y10_l4 : Int32) (ls : Array Slot), Rg 0 4095 y10_l3 → Rg 0 12 y10_l4 → lv_has ls 6 [(0, .ref (a 1)), (2, .int x1), (3, .int y10_l3), (4, .int y10_l4)] → 12 - y10_l4.toInt < (n10 : Int) → W p l e (headSpec wsX2_pieceAt ({ frames := 2, cells := 0, slots := 0, locals := 80 })).room s m ([.ref (a 1), .int x0, .int x1]).toArray below meth c s.heap [] 0 0 (MQ below (vp_Si (fun r => Rg (-2147483648) 2147483647 r ∧ True)) ([.ref (a 1), .int x0, .int x1]).toArray s 0 0 (fun _ => False)) (F0 m 10 ls []) := by
    intro n10
    induction n10 with
    | zero =>
      intro y10_l3 y10_l4 ls g10_l3 g10_l4 hl hm10
      exact absurd rfl (me_z g10_l4 hm10)
    | succ n10 ih10 =>
      intro y10_l3 y10_l4 ls g10_l3 g10_l4 hl hm10
      refine lv_iload hx hb dX2_pieceAt_10 (lv_at hl 3 rfl) ?_
      refine lv_bipush (v := 12) hx hb dX2_pieceAt_12 (by decide) ?_
      refine lv_icmp_ge (tgt := 53) hx hb dX2_pieceAt_14 (by decide) (fun c32534 => ?_) (fun c32534 => ?_)
      · have g32535 : Rg 12 12 y10_l4 := rg_ler (by decide : Rg 12 12 (12 : Int32)) g10_l4 c32534 (by decide)
        refine lv_iconst (v := 0) hx hb dX2_pieceAt_53 (by decide) ?_
        exact W.iret (v := 0) hx hb hr (fun t ht hW => ⟨_, rfl, ⟨(by decide : Rg (-2147483648) 2147483647 (0 : Int32)), trivial⟩, ht⟩) (fun q hq => absurd hq List.not_mem_nil) dX2_pieceAt_54
      · have g32536 : Rg 0 11 y10_l4 := rg_ltl g10_l4 (by decide : Rg 12 12 (12 : Int32)) (rg_nle c32534) (by decide)
        refine lv_iload_n hx hb dX2_pieceAt_17 rfl (lv_at hl 2 rfl) ?_
        refine lv_if_eq (tgt := 53) hx hb dX2_pieceAt_18 (by decide) (fun c32537 => ?_) (fun c32537 => ?_)
        · have g32538 : Rg 0 0 y10_l3 := wk_eql g10_l3 (by decide : Rg 0 0 (0 : Int32)) c32537 (by decide)
          refine lv_iconst (v := 0) hx hb dX2_pieceAt_53 (by decide) ?_
          exact W.iret (v := 0) hx hb hr (fun t ht hW => ⟨_, rfl, ⟨(by decide : Rg (-2147483648) 2147483647 (0 : Int32)), trivial⟩, ht⟩) (fun q hq => absurd hq List.not_mem_nil) dX2_pieceAt_54
        · have g32539 : Rg 1 4095 y10_l3 := rg_ne_lo (k := 0) g10_l3 (by decide) c32537 (by decide)
          refine lv_aload_n hx hb dX2_pieceAt_21 rfl (lv_at hl 0 rfl) ?_
          refine va_get (D := D) (ci := 2) (v := .ref (a 2)) (C := RX2) (T := TX2) (N := 3) hx hb hts hin2 hown hK hP 1 rfl rfl 0 (by decide) (hts (.fieldLink RX2 9 "MissedPoints$Net" "links" "[I") (by decide +kernel)) (fun _ h9 => h9) rfl dX2_pieceAt_22 ?_
          refine lv_iload_n hx hb dX2_pieceAt_25 rfl (lv_at hl 2 rfl) ?_
          refine lz_ss (As := [.ref (a 2), .int y10_l3]) (rest := []) ⟨hx, hb, hml, hown, hts⟩ (k_X2_firstPiece l D cI cS a na nc N L u hL hN y10_l3) hKK hP (va_cwS 2 hts gX2_pieceAt_X2_firstPiece rfl rfl rfl (by decide +kernel) ⟨Nat.le_of_ble_eq_true rfl, Nat.le_of_ble_eq_true rfl⟩) rfl hl.1 rfl (Nat.le_of_ble_eq_true rfl) dX2_pieceAt_26 ⟨Nat.le_of_ble_eq_true rfl, Nat.le_of_ble_eq_true rfl⟩ (fun r32540 hr32540 => ?_)
          refine lv_istore (lv' := [(5, .int r32540), (0, .ref (a 1)), (2, .int x1), (3, .int y10_l3), (4, .int y10_l4)]) hx hb dX2_pieceAt_29 hl (by decide) rfl (fun ls hl => ?_)
          refine lv_iload hx hb dX2_pieceAt_31 (lv_at hl 4 rfl) ?_
          refine lv_iload_n hx hb dX2_pieceAt_33 rfl (lv_at hl 2 rfl) ?_
          refine lv_icmp_ne (tgt := 40) hx hb dX2_pieceAt_34 (by decide) (fun c32541 => ?_) (fun c32541 => ?_)
          · refine lv_iload_n hx hb dX2_pieceAt_40 rfl (lv_at hl 3 rfl) ?_
            refine lv_iload hx hb dX2_pieceAt_41 (lv_at hl 0 rfl) ?_
            refine lv_iconst (v := (-1)) hx hb dX2_pieceAt_43 (by decide) ?_
            refine lv_ixor hx hb dX2_pieceAt_44 ?_
            refine wk_topP (P := fun r => r = r32540 ^^^ ((-1) : Int32)) rfl (fun r32542 qr32542 => ?_)
            refine wk_iandl hx hb dX2_pieceAt_45 g32539 (by decide) (fun r32543 hr32543 qr32543 => ?_)
            refine lv_istore_n (lv' := [(3, .int r32543), (5, .int r32540), (0, .ref (a 1)), (2, .int x1), (4, .int y10_l4)]) hx hb dX2_pieceAt_46 rfl hl (by decide) rfl (fun ls hl => ?_)
            refine wk_iinc (lv' := fun r => [(4, .int r), (3, .int r32543), (5, .int r32540), (0, .ref (a 1)), (2, .int x1)]) (e1 := 1) (f := 12) hx hb dX2_pieceAt_47 hl (k := 4) rfl (by decide) g32536 (by decide) (fun _ => rfl) (fun r32544 ls hr32544 er32544 hl => ?_)
            refine lv_goto (tgt := 10) hx hb dX2_pieceAt_50 (by decide) ?_
            exact ih10 r32543 r32544 ls hr32543 (show Rg 0 12 r32544 from rg_w hr32544 (by decide) (by decide)) (lv_sub (l' := [(0, .ref (a 1)), (2, .int x1), (3, .int r32543), (4, .int r32544)]) hl [3, 4, 1, 0] rfl) (me_up hm10 er32544 (by decide))
          · have g32545 : Rg 0 11 x1 := wk_eqr g32536 (rg_any x1) c32541 (by decide)
            refine lv_iload hx hb dX2_pieceAt_37 (lv_at hl 0 rfl) ?_
            exact W.iret (v := r32540) hx hb hr (fun t ht hW => ⟨_, rfl, ⟨hr32540.1, trivial⟩, ht⟩) (fun q hq => absurd hq List.not_mem_nil) dX2_pieceAt_39
  refine lv_iload_n hx hb dX2_pieceAt_0 rfl (lv_at hl 1 rfl) ?_
  refine lv_aload_n hx hb dX2_pieceAt_1 rfl (lv_at hl 0 rfl) ?_
  refine wk_sv 1 (As := []) (rest := [.int x0]) ⟨hx, hb, hml, hown, hts⟩ (k_X2_all l D cI cS a na nc N L u hL hN) hKK hP (ci := 2) rfl rfl (cwV 0 hts gX2_pieceAt_X2_all rfl rfl rfl (by decide +kernel) ⟨Nat.le_of_ble_eq_true rfl, Nat.le_of_ble_eq_true rfl⟩) rfl hl.1 rfl (Nat.le_of_ble_eq_true rfl) dX2_pieceAt_2 ⟨Nat.le_of_ble_eq_true rfl, Nat.le_of_ble_eq_true rfl⟩ (fun r32546 hr32546 => ?_)
  refine wk_iandr hx hb dX2_pieceAt_5 hr32546.1 (by decide) (fun r32547 hr32547 qr32547 => ?_)
  refine lv_istore_n (lv' := [(3, .int r32547), (0, .ref (a 1)), (1, .int x0), (2, .int x1)]) hx hb dX2_pieceAt_6 rfl hl (by decide) rfl (fun ls hl => ?_)
  refine lv_iconst (v := 0) hx hb dX2_pieceAt_7 (by decide) ?_
  refine lv_istore (lv' := [(4, .int 0), (3, .int r32547), (0, .ref (a 1)), (1, .int x0), (2, .int x1)]) hx hb dX2_pieceAt_8 hl (by decide) rfl (fun ls hl => ?_)
  exact lp10 13 r32547 (0 : Int32) ls hr32547 (by decide : Rg 0 12 (0 : Int32)) (lv_sub (l' := [(0, .ref (a 1)), (2, .int x1), (3, .int r32547), (4, .int 0)]) hl [2, 4, 1, 0] rfl) (me_i (by decide : Rg 0 12 (0 : Int32)) (by decide))
set_option maxRecDepth 20000 in
theorem ggX2_joinAll_X2_join : GoodIn wsX2_joinAll wsX2_join := goodIn_r _ [19, 7, 20, 8, 9, 10, 5, 11, 12, 13, 14, 15, 1, 21, 22, 23] (by decide +kernel) (by decide +kernel)
set_option maxRecDepth 20000 in
theorem gX2_joinAll_X2_join : GoodIn wsX2_joinAll (wsV RX2 43 RX2 yX2_join wsX2_join) := goodIn_app (goodIn_of _ (by decide +kernel)) ggX2_joinAll_X2_join
set_option maxRecDepth 20000 in
theorem ggX2_joinAll_X2_joined : GoodIn wsX2_joinAll wsX2_joined := goodIn_r _ [6, 7, 8, 9, 10, 5, 11, 12, 13, 14, 15, 1, 21, 22, 23] (by decide +kernel) (by decide +kernel)
set_option maxRecDepth 20000 in
theorem gX2_joinAll_X2_joined : GoodIn wsX2_joinAll (wsV RX2 40 RX2 yX2_joined wsX2_joined) := goodIn_app (goodIn_of _ (by decide +kernel)) ggX2_joinAll_X2_joined
theorem dX2_joinAll_0 : decode cX2_joinAll 0 = .ok (.iconst 0, 1) := by decide +kernel
theorem dX2_joinAll_1 : decode cX2_joinAll 1 = .ok (.istore_n 2, 1) := by decide +kernel
theorem dX2_joinAll_12 : decode cX2_joinAll 12 = .ok (.iload_n 3, 1) := by decide +kernel
theorem dX2_joinAll_13 : decode cX2_joinAll 13 = .ok (.aload_n 1, 1) := by decide +kernel
theorem dX2_joinAll_14 : decode cX2_joinAll 14 = .ok (.arraylength, 1) := by decide +kernel
theorem dX2_joinAll_15 : decode cX2_joinAll 15 = .ok (.if_icmp .ge 61, 3) := by decide +kernel
theorem dX2_joinAll_18 : decode cX2_joinAll 18 = .ok (.iload_n 3, 1) := by decide +kernel
theorem dX2_joinAll_19 : decode cX2_joinAll 19 = .ok (.iconst 1, 1) := by decide +kernel
theorem dX2_joinAll_2 : decode cX2_joinAll 2 = .ok (.iconst 0, 1) := by decide +kernel
theorem dX2_joinAll_20 : decode cX2_joinAll 20 = .ok (.iadd, 1) := by decide +kernel
theorem dX2_joinAll_21 : decode cX2_joinAll 21 = .ok (.istore 4, 2) := by decide +kernel
theorem dX2_joinAll_23 : decode cX2_joinAll 23 = .ok (.iload 4, 2) := by decide +kernel
theorem dX2_joinAll_25 : decode cX2_joinAll 25 = .ok (.aload_n 0, 1) := by decide +kernel
theorem dX2_joinAll_26 : decode cX2_joinAll 26 = .ok (.getfield 15, 3) := by decide +kernel
theorem dX2_joinAll_29 : decode cX2_joinAll 29 = .ok (.if_icmp .ge 41, 3) := by decide +kernel
theorem dX2_joinAll_3 : decode cX2_joinAll 3 = .ok (.istore_n 3, 1) := by decide +kernel
theorem dX2_joinAll_32 : decode cX2_joinAll 32 = .ok (.aload_n 1, 1) := by decide +kernel
theorem dX2_joinAll_33 : decode cX2_joinAll 33 = .ok (.iload_n 3, 1) := by decide +kernel
theorem dX2_joinAll_34 : decode cX2_joinAll 34 = .ok (.iaload, 1) := by decide +kernel
theorem dX2_joinAll_35 : decode cX2_joinAll 35 = .ok (.iload 4, 2) := by decide +kernel
theorem dX2_joinAll_37 : decode cX2_joinAll 37 = .ok (.ishr, 1) := by decide +kernel
theorem dX2_joinAll_38 : decode cX2_joinAll 38 = .ok (.iconst 1, 1) := by decide +kernel
theorem dX2_joinAll_39 : decode cX2_joinAll 39 = .ok (.iand, 1) := by decide +kernel
theorem dX2_joinAll_4 : decode cX2_joinAll 4 = .ok (.iload_n 3, 1) := by decide +kernel
theorem dX2_joinAll_40 : decode cX2_joinAll 40 = .ok (.ifCond .eq 24, 3) := by decide +kernel
theorem dX2_joinAll_43 : decode cX2_joinAll 43 = .ok (.aload_n 0, 1) := by decide +kernel
theorem dX2_joinAll_44 : decode cX2_joinAll 44 = .ok (.iload_n 3, 1) := by decide +kernel
theorem dX2_joinAll_45 : decode cX2_joinAll 45 = .ok (.iload 4, 2) := by decide +kernel
theorem dX2_joinAll_47 : decode cX2_joinAll 47 = .ok (.invokevirtual 40, 3) := by decide +kernel
theorem dX2_joinAll_5 : decode cX2_joinAll 5 = .ok (.aload_n 0, 1) := by decide +kernel
theorem dX2_joinAll_50 : decode cX2_joinAll 50 = .ok (.ifCond .ne 14, 3) := by decide +kernel
theorem dX2_joinAll_53 : decode cX2_joinAll 53 = .ok (.aload_n 0, 1) := by decide +kernel
theorem dX2_joinAll_54 : decode cX2_joinAll 54 = .ok (.iload_n 3, 1) := by decide +kernel
theorem dX2_joinAll_55 : decode cX2_joinAll 55 = .ok (.iload 4, 2) := by decide +kernel
theorem dX2_joinAll_57 : decode cX2_joinAll 57 = .ok (.iconst 1, 1) := by decide +kernel
theorem dX2_joinAll_58 : decode cX2_joinAll 58 = .ok (.invokevirtual 43, 3) := by decide +kernel
theorem dX2_joinAll_6 : decode cX2_joinAll 6 = .ok (.getfield 15, 3) := by decide +kernel
theorem dX2_joinAll_61 : decode cX2_joinAll 61 = .ok (.iinc 2 1, 3) := by decide +kernel
theorem dX2_joinAll_64 : decode cX2_joinAll 64 = .ok (.iinc 4 1, 3) := by decide +kernel
theorem dX2_joinAll_67 : decode cX2_joinAll 67 = .ok (.goto (-44), 3) := by decide +kernel
theorem dX2_joinAll_70 : decode cX2_joinAll 70 = .ok (.iinc 3 1, 3) := by decide +kernel
theorem dX2_joinAll_73 : decode cX2_joinAll 73 = .ok (.goto (-69), 3) := by decide +kernel
theorem dX2_joinAll_76 : decode cX2_joinAll 76 = .ok (.iload_n 2, 1) := by decide +kernel
theorem dX2_joinAll_77 : decode cX2_joinAll 77 = .ok (.ireturn, 1) := by decide +kernel
theorem dX2_joinAll_9 : decode cX2_joinAll 9 = .ok (.if_icmp .ge 67, 3) := by decide +kernel
set_option maxHeartbeats 4000000 in
set_option maxRecDepth 100000 in
theorem k_X2_joinAll (l : Launch) (D : va_G) (cI cS : ClassId) (sz : Nat) (a : Nat → Nat) (na nc N : Nat) (L u0 : SU) (hL : TyX L) (hN : N = 0 ∨ N = 24576) : Met l yX2_joinAll wsX2_joinAll ({ frames := 3, cells := 0, slots := 0, locals := 120 }) (PQ D cI cS (wX cI cS a na nc N L u0) sz [.ref (a 1), .ref (a 24)]) (QF (S := SU) D (wX cI cS a na nc N L u0) (wX cI cS a na nc N L) sz (fun r _ => Rg (-2147483648) 2147483647 r ∧ True)) 0 0 (va_A (wX cI cS a na nc N L u0) sz) := by
  refine Met.ofW (cc := cX2_joinAll) (maxL := 5) (ret := (some .int)) (by decide) rfl ?_
  intro p e s m args below meth c s₁ B hml hv
  obtain ⟨rfl, hsz, hP, hKK, hD0⟩ := hv
  have hx := B.exec
  have hb := B.bytes
  have hr := B.returns
  have hts := atoms_spec (ws := wsX2_joinAll) B.pre
  have hown : s.vm.findClass RX2 = some m.cls := findClass_of_methodNamed B.named
  have hlocks := B.notSynchronized
  have hK := hKK.1
  have hin2 : ∀ w ∈ wsX20, w ∈ wsX2_joinAll := by decide +kernel
  subst hsz
  have hD := hD0.self (sz := s.heap.size)
  obtain ⟨A, hAe⟩ : ∃ A, A = va_A (wX cI cS a na nc N L u0) s.heap.size := ⟨_, rfl⟩
  rw [← hAe] at hD
  have hA : ∀ q : Nat, s.heap.size ≤ q → A q := fun q h => by rw [hAe]; exact Or.inr h
  have hS : va_S A s.heap s.heap [] := va_S.rf
  have hl := lv_entry ([.ref (a 1), .ref (a 24)]) (n := 5) (Nat.le_of_ble_eq_true rfl)
  rw [lg_entry_eq]
  generalize (lg_sl ([.ref (a 1), .ref (a 24)]) ++ List.replicate (5 - (lg_sl ([.ref (a 1), .ref (a 24)])).length) Slot.unset).toArray = ls at hl ⊢
  have hl : lv_has ls 5 [(0, .ref (a 1)), (1, .ref (a 24))] := hl
  obtain ⟨u, hu9⟩ : ∃ u : SU, u = u0 := ⟨_, rfl⟩
  rw [← hu9] at hP hD
  have lp4 : ∀ (n4 : Nat) (y4_l2 : Int32) (y4_l3 : Int32) (u : SU) (H : Heap) (locs : List Loc) (ls : Array Slot), Rg 0 12 y4_l3 → va_P D cls (wX cI cS a na nc N L u) H → va_D A (wX cI cS a na nc N L u) → va_S A s.heap H locs → lv_has ls 5 [(0, .ref (a 1)), (1, .ref (a 24)), (2, .int y4_l2), (3, .int y4_l3)] → 12 - y4_l3.toInt < (n4 : Int) → W p l e (headSpec wsX2_joinAll ({ frames := 3, cells := 0, slots := 0, locals := 120 })).room s m ([.ref (a 1), .ref (a 24)]).toArray below meth c H locs 0 0 (MQ below (QF (S := SU) D (wX cI cS a na nc N L u0) (wX cI cS a na nc N L) s.heap.size (fun r _ => Rg (-2147483648) 2147483647 r ∧ True)) ([.ref (a 1), .ref (a 24)]).toArray s 0 0 (va_A (wX cI cS a na nc N L u0) s.heap.size)) (F0 m 4 ls []) := by
    intro n4
    induction n4 with
    | zero =>
      intro y4_l2 y4_l3 u H locs ls g4_l3 hP hD hS hl hm4
      exact absurd rfl (me_z g4_l3 hm4)
    | succ n4 ih4 =>
      intro y4_l2 y4_l3 u H locs ls g4_l3 hP hD hS hl hm4
      have lp23 : ∀ (n23 : Nat) (y23_l2 : Int32) (y23_l4 : Int32) (u : SU) (H : Heap) (locs : List Loc) (ls : Array Slot), Rg 0 11 y4_l3 → Rg 1 12 y23_l4 → va_P D cls (wX cI cS a na nc N L u) H → va_D A (wX cI cS a na nc N L u) → va_S A s.heap H locs → lv_has ls 5 [(0, .ref (a 1)), (1, .ref (a 24)), (2, .int y23_l2), (3, .int y4_l3), (4, .int y23_l4)] → 12 - y23_l4.toInt < (n23 : Int) → W p l e (headSpec wsX2_joinAll ({ frames := 3, cells := 0, slots := 0, locals := 120 })).room s m ([.ref (a 1), .ref (a 24)]).toArray below meth c H locs 0 0 (MQ below (QF (S := SU) D (wX cI cS a na nc N L u0) (wX cI cS a na nc N L) s.heap.size (fun r _ => Rg (-2147483648) 2147483647 r ∧ True)) ([.ref (a 1), .ref (a 24)]).toArray s 0 0 (va_A (wX cI cS a na nc N L u0) s.heap.size)) (F0 m 23 ls []) := by
        intro n23
        induction n23 with
        | zero =>
          intro y23_l2 y23_l4 u H locs ls g23_l3 g23_l4 hP hD hS hl hm23
          exact absurd rfl (me_z g23_l4 hm23)
        | succ n23 ih23 =>
          intro y23_l2 y23_l4 u H locs ls g23_l3 g23_l4 hP hD hS hl hm23
          refine lv_iload hx hb dX2_joinAll_23 (lv_at hl 4 rfl) ?_
          refine lv_aload_n hx hb dX2_joinAll_25 rfl (lv_at hl 0 rfl) ?_
          refine va_get (D := D) (ci := 2) (v := .int (L 1 1)) (C := RX2) (T := TX2) (N := 3) hx hb hts hin2 hown hK hP 1 rfl rfl 1 (by decide) (hts (.fieldLink RX2 15 "MissedPoints$Net" "size" "I") (by decide +kernel)) (fun _ h9 => h9) rfl dX2_joinAll_26 ?_
          refine lv_icmp_ge (tgt := 70) hx hb dX2_joinAll_29 (by decide) (fun c33297 => ?_) (fun c33297 => ?_)
          · refine wk_iinc (lv' := fun r => [(3, .int r), (0, .ref (a 1)), (1, .ref (a 24)), (2, .int y23_l2), (4, .int y23_l4)]) (e1 := 1) (f := 12) hx hb dX2_joinAll_70 hl (k := 3) rfl (by decide) g23_l3 (by decide) (fun _ => rfl) (fun r33298 ls hr33298 er33298 hl => ?_)
            refine lv_goto (tgt := 4) hx hb dX2_joinAll_73 (by decide) ?_
            exact ih4 y23_l2 r33298 u _ _ ls (show Rg 0 12 r33298 from rg_w hr33298 (by decide) (by decide)) hP hD hS (lv_sub (l' := [(0, .ref (a 1)), (1, .ref (a 24)), (2, .int y23_l2), (3, .int r33298)]) hl [1, 2, 3, 0] rfl) (me_up hm4 er33298 (by decide))
          · have g33299 : Rg 2 12 (L 1 1) := rg_ltr g23_l4 hL.1 (rg_nle c33297) (by decide)
            have g33300 : Rg 1 11 y23_l4 := rg_ltl g23_l4 hL.1 (rg_nle c33297) (by decide)
            refine lv_aload_n hx hb dX2_joinAll_32 rfl (lv_at hl 1 rfl) ?_
            refine lv_iload_n hx hb dX2_joinAll_33 rfl (lv_at hl 3 rfl) ?_
            refine wk_aldA hx hb hK hP 24 0 rfl rfl (rg_in g23_l3 (by decide) (by decide)) dX2_joinAll_34 (fun r33301 => ?_)
            refine lv_iload hx hb dX2_joinAll_35 (lv_at hl 4 rfl) ?_
            refine lv_ishr hx hb dX2_joinAll_37 ?_
            refine wk_topP (P := fun r => r = r33301 >>> (y23_l4 &&& 31)) rfl (fun r33302 qr33302 => ?_)
            refine lv_iconst (v := 1) hx hb dX2_joinAll_38 (by decide) ?_
            refine wk_iandr hx hb dX2_joinAll_39 (by decide : Rg 1 1 (1 : Int32)) (by decide) (fun r33303 hr33303 qr33303 => ?_)
            refine lv_if_eq (tgt := 64) hx hb dX2_joinAll_40 (by decide) (fun c33304 => ?_) (fun c33304 => ?_)
            · have g33305 : Rg 0 0 r33303 := wk_eql hr33303 (by decide : Rg 0 0 (0 : Int32)) c33304 (by decide)
              refine wk_iinc (lv' := fun r => [(4, .int r), (0, .ref (a 1)), (1, .ref (a 24)), (2, .int y23_l2), (3, .int y4_l3)]) (e1 := 2) (f := 12) hx hb dX2_joinAll_64 hl (k := 4) rfl (by decide) g33300 (by decide) (fun _ => rfl) (fun r33306 ls hr33306 er33306 hl => ?_)
              refine lv_goto (tgt := 23) hx hb dX2_joinAll_67 (by decide) ?_
              exact ih23 y23_l2 r33306 u _ _ ls g23_l3 (show Rg 1 12 r33306 from rg_w hr33306 (by decide) (by decide)) hP hD hS (lv_sub (l' := [(0, .ref (a 1)), (1, .ref (a 24)), (2, .int y23_l2), (3, .int y4_l3), (4, .int r33306)]) hl [1, 2, 3, 4, 0] rfl) (me_up hm23 er33306 (by decide))
            · have g33307 : Rg 1 1 r33303 := rg_ne_lo (k := 0) hr33303 (by decide) c33304 (by decide)
              refine lv_aload_n hx hb dX2_joinAll_43 rfl (lv_at hl 0 rfl) ?_
              refine lv_iload_n hx hb dX2_joinAll_44 rfl (lv_at hl 3 rfl) ?_
              refine lv_iload hx hb dX2_joinAll_45 (lv_at hl 4 rfl) ?_
              refine wk_sv 1 (As := [.int y4_l3, .int y23_l4]) (rest := []) ⟨hx, hb, hml, hown, hts⟩ (k_X2_joined l D cI cS a na nc N L u hL hN y4_l3 y23_l4) hKK hP (ci := 2) rfl rfl (cwV 2 hts gX2_joinAll_X2_joined rfl rfl rfl (by decide +kernel) ⟨Nat.le_of_ble_eq_true rfl, Nat.le_of_ble_eq_true rfl⟩) rfl hl.1 rfl (Nat.le_of_ble_eq_true rfl) dX2_joinAll_47 ⟨Nat.le_of_ble_eq_true rfl, Nat.le_of_ble_eq_true rfl⟩ (fun r33308 hr33308 => ?_)
              refine lv_if_ne (tgt := 64) hx hb dX2_joinAll_50 (by decide) (fun c33309 => ?_) (fun c33309 => ?_)
              · have g33310 : Rg 1 1 r33308 := rg_ne_lo (k := 0) hr33308.1 (by decide) c33309 (by decide)
                refine wk_iinc (lv' := fun r => [(4, .int r), (0, .ref (a 1)), (1, .ref (a 24)), (2, .int y23_l2), (3, .int y4_l3)]) (e1 := 2) (f := 12) hx hb dX2_joinAll_64 hl (k := 4) rfl (by decide) g33300 (by decide) (fun _ => rfl) (fun r33311 ls hr33311 er33311 hl => ?_)
                refine lv_goto (tgt := 23) hx hb dX2_joinAll_67 (by decide) ?_
                exact ih23 y23_l2 r33311 u _ _ ls g23_l3 (show Rg 1 12 r33311 from rg_w hr33311 (by decide) (by decide)) hP hD hS (lv_sub (l' := [(0, .ref (a 1)), (1, .ref (a 24)), (2, .int y23_l2), (3, .int y4_l3), (4, .int r33311)]) hl [1, 2, 3, 4, 0] rfl) (me_up hm23 er33311 (by decide))
              · have g33312 : Rg 0 0 r33308 := wk_eql hr33308.1 (by decide : Rg 0 0 (0 : Int32)) c33309 (by decide)
                refine lv_aload_n hx hb dX2_joinAll_53 rfl (lv_at hl 0 rfl) ?_
                refine lv_iload_n hx hb dX2_joinAll_54 rfl (lv_at hl 3 rfl) ?_
                refine lv_iload hx hb dX2_joinAll_55 (lv_at hl 4 rfl) ?_
                refine lv_iconst (v := 1) hx hb dX2_joinAll_57 (by decide) ?_
                refine wk_qv (wX cI cS a na nc N L) u (As := [.int y4_l3, .int y23_l4, .int 1]) (rest := []) ⟨hx, hb, hml, hown, hts⟩ (k_X2_join l D cI cS _ a na nc N L u hL hN y4_l3 y23_l4 (1 : Int32) (by decide : Rg 0 1 (1 : Int32))) hKK hP hD hS hA 1 (ci := 2) rfl rfl (cwV 3 hts gX2_joinAll_X2_join rfl rfl rfl (by decide +kernel) ⟨Nat.le_of_ble_eq_true rfl, Nat.le_of_ble_eq_true rfl⟩) rfl hl.1 rfl (Nat.le_of_ble_eq_true rfl) dX2_joinAll_58 ⟨Nat.le_of_ble_eq_true rfl, Nat.le_of_ble_eq_true rfl⟩ (fun u H locs hr33313 hP hD hS => ?_)
                refine wk_iincA (lv' := fun r => [(2, .int r), (0, .ref (a 1)), (1, .ref (a 24)), (3, .int y4_l3), (4, .int y23_l4)]) hx hb dX2_joinAll_61 hl (k := 2) rfl (by decide) (fun _ => rfl) (fun r33314 ls hl => ?_)
                refine wk_iinc (lv' := fun r => [(4, .int r), (2, .int r33314), (0, .ref (a 1)), (1, .ref (a 24)), (3, .int y4_l3)]) (e1 := 2) (f := 12) hx hb dX2_joinAll_64 hl (k := 4) rfl (by decide) g33300 (by decide) (fun _ => rfl) (fun r33315 ls hr33315 er33315 hl => ?_)
                refine lv_goto (tgt := 23) hx hb dX2_joinAll_67 (by decide) ?_
                exact ih23 r33314 r33315 u _ _ ls g23_l3 (show Rg 1 12 r33315 from rg_w hr33315 (by decide) (by decide)) hP hD hS (lv_sub (l' := [(0, .ref (a 1)), (1, .ref (a 24)), (2, .int r33314), (3, .int y4_l3), (4, .int r33315)]) hl [2, 3, 1, 4, 0] rfl) (me_up hm23 er33315 (by decide))
      refine lv_iload_n hx hb dX2_joinAll_4 rfl (lv_at hl 3 rfl) ?_
      refine lv_aload_n hx hb dX2_joinAll_5 rfl (lv_at hl 0 rfl) ?_
      refine va_get (D := D) (ci := 2) (v := .int (L 1 1)) (C := RX2) (T := TX2) (N := 3) hx hb hts hin2 hown hK hP 1 rfl rfl 1 (by decide) (hts (.fieldLink RX2 15 "MissedPoints$Net" "size" "I") (by decide +kernel)) (fun _ h9 => h9) rfl dX2_joinAll_6 ?_
      refine lv_icmp_ge (tgt := 76) hx hb dX2_joinAll_9 (by decide) (fun c33316 => ?_) (fun c33316 => ?_)
      · refine lv_iload_n hx hb dX2_joinAll_76 rfl (lv_at hl 2 rfl) ?_
        subst hAe
        exact W.iret (v := y4_l2) hx hb hr (fun t ht hW => ⟨⟨_, u, rfl, ⟨(rg_any y4_l2), trivial⟩, by rw [ht]; exact hP, hD⟩, hS.F ht⟩) hS.2.2 dX2_joinAll_77
      · have g33317 : Rg 1 12 (L 1 1) := rg_ltr g4_l3 hL.1 (rg_nle c33316) (by decide)
        have g33318 : Rg 0 11 y4_l3 := rg_ltl g4_l3 hL.1 (rg_nle c33316) (by decide)
        refine lv_iload_n hx hb dX2_joinAll_12 rfl (lv_at hl 3 rfl) ?_
        refine lv_aload_n hx hb dX2_joinAll_13 rfl (lv_at hl 1 rfl) ?_
        refine va_alen hx hb hK hP 24 0 rfl rfl (v := 12) rfl dX2_joinAll_14 ?_
        refine lv_icmp_ge (tgt := 76) hx hb dX2_joinAll_15 (by decide) (fun c33319 => ?_) (fun c33319 => ?_)
        · exact absurd c33319 (wk_nle (by decide : Rg 12 12 (12 : Int32)) g33318 (by decide))
        · refine lv_iload_n hx hb dX2_joinAll_18 rfl (lv_at hl 3 rfl) ?_
          refine lv_iconst (v := 1) hx hb dX2_joinAll_19 (by decide) ?_
          refine wk_iadd (e1 := 1) (f := 12) hx hb dX2_joinAll_20 g33318 (by decide : Rg 1 1 (1 : Int32)) (by decide) (fun r33320 hr33320 er33320 qr33320 => ?_)
          refine lv_istore (lv' := [(4, .int r33320), (0, .ref (a 1)), (1, .ref (a 24)), (2, .int y4_l2), (3, .int y4_l3)]) hx hb dX2_joinAll_21 hl (by decide) rfl (fun ls hl => ?_)
          exact lp23 12 y4_l2 r33320 u _ _ ls g33318 hr33320 hP hD hS (lv_sub (l' := [(0, .ref (a 1)), (1, .ref (a 24)), (2, .int y4_l2), (3, .int y4_l3), (4, .int r33320)]) hl [1, 2, 3, 4, 0] rfl) (me_i hr33320 (by decide))
  refine lv_iconst (v := 0) hx hb dX2_joinAll_0 (by decide) ?_
  refine lv_istore_n (lv' := [(2, .int 0), (0, .ref (a 1)), (1, .ref (a 24))]) hx hb dX2_joinAll_1 rfl hl (by decide) rfl (fun ls hl => ?_)
  refine lv_iconst (v := 0) hx hb dX2_joinAll_2 (by decide) ?_
  refine lv_istore_n (lv' := [(3, .int 0), (2, .int 0), (0, .ref (a 1)), (1, .ref (a 24))]) hx hb dX2_joinAll_3 rfl hl (by decide) rfl (fun ls hl => ?_)
  exact lp4 13 (0 : Int32) (0 : Int32) u _ _ ls (by decide : Rg 0 12 (0 : Int32)) hP hD hS (lv_sub (l' := [(0, .ref (a 1)), (1, .ref (a 24)), (2, .int 0), (3, .int 0)]) hl [2, 3, 1, 0] rfl) (me_i (by decide : Rg 0 12 (0 : Int32)) (by decide))
set_option maxHeartbeats 4000000 in
set_option maxRecDepth 100000 in
theorem k_X1_recall (l : Launch) (D : va_G) (cI cS : ClassId) (a : Nat → Nat) (na nc N : Nat) (L u : SU) (hL : TyX L) (hN : N = 0 ∨ N = 24576) (x0 : Int32) : Met l yX1_recall wsX1_recall ({ frames := 0, cells := 0, slots := 0, locals := 0 }) (PS D cI cS (wX cI cS a na nc N L u) [.ref (a 9), .int x0]) (vp_Si (fun r => Rg (-1) 65535 r ∧ True)) 0 0 (fun _ => False) := by
  refine Met.ofW (cc := cX1_recall) (maxL := 2) (ret := (some .int)) (by decide) rfl ?_
  intro p e s m args below meth c s₁ B hml hv
  obtain ⟨rfl, hP, hKK⟩ := hv
  have hx := B.exec
  have hb := B.bytes
  have hr := B.returns
  have hts := atoms_spec (ws := wsX1_recall) B.pre
  have hown : s.vm.findClass RX1 = some m.cls := findClass_of_methodNamed B.named
  have hlocks := B.notSynchronized
  have hK := hKK.1
  have hin1 : ∀ w ∈ wsX10, w ∈ wsX1_recall := by decide +kernel
  have hl := lv_entry ([.ref (a 9), .int x0]) (n := 2) (Nat.le_of_ble_eq_true rfl)
  rw [lg_entry_eq]
  generalize (lg_sl ([.ref (a 9), .int x0]) ++ List.replicate (2 - (lg_sl ([.ref (a 9), .int x0])).length) Slot.unset).toArray = ls at hl ⊢
  have hl : lv_has ls 2 [(0, .ref (a 9)), (1, .int x0)] := hl
  refine lv_iload_n hx hb dX1_recall_0 rfl (lv_at hl 1 rfl) ?_
  refine lv_if_lt (tgt := 29) hx hb dX1_recall_1 (by decide) (fun c33333 => ?_) (fun c33333 => ?_)
  · have g33334 : Rg (-2147483648) (-1) x0 := rg_ltl (rg_any x0) (by decide : Rg 0 0 (0 : Int32)) c33333 (by decide)
    refine lv_iconst (v := (-1)) hx hb dX1_recall_29 (by decide) ?_
    exact W.iret (v := (-1)) hx hb hr (fun t ht hW => ⟨_, rfl, ⟨(by decide : Rg (-1) 65535 ((-1) : Int32)), trivial⟩, ht⟩) (fun q hq => absurd hq List.not_mem_nil) dX1_recall_30
  · have g33335 : Rg 0 2147483647 x0 := rg_ler (by decide : Rg 0 0 (0 : Int32)) (rg_any x0) (rg_nlt c33333) (by decide)
    refine lv_iload_n hx hb dX1_recall_4 rfl (lv_at hl 1 rfl) ?_
    refine lv_aload_n hx hb dX1_recall_5 rfl (lv_at hl 0 rfl) ?_
    refine va_get (D := D) (ci := 1) (v := .ref (a 10)) (C := RX1) (T := TX1) (N := 2) hx hb hts hin1 hown hK hP 9 rfl rfl 0 (by decide) (hts (.fieldLink RX1 21 "MissedPoints$Memo" "cells" "[I") (by decide +kernel)) (fun _ h9 => h9) rfl dX1_recall_6 ?_
    refine va_alen hx hb hK hP 10 0 rfl rfl (v := 4096) rfl dX1_recall_9 ?_
    refine lv_icmp_ge (tgt := 29) hx hb dX1_recall_10 (by decide) (fun c33336 => ?_) (fun c33336 => ?_)
    · have g33337 : Rg 4096 2147483647 x0 := rg_ler (by decide : Rg 4096 4096 (4096 : Int32)) g33335 c33336 (by decide)
      refine lv_iconst (v := (-1)) hx hb dX1_recall_29 (by decide) ?_
      exact W.iret (v := (-1)) hx hb hr (fun t ht hW => ⟨_, rfl, ⟨(by decide : Rg (-1) 65535 ((-1) : Int32)), trivial⟩, ht⟩) (fun q hq => absurd hq List.not_mem_nil) dX1_recall_30
    · have g33338 : Rg 0 4095 x0 := rg_ltl g33335 (by decide : Rg 4096 4096 (4096 : Int32)) (rg_nle c33336) (by decide)
      refine lv_aload_n hx hb dX1_recall_13 rfl (lv_at hl 0 rfl) ?_
      refine va_get (D := D) (ci := 1) (v := .ref (a 10)) (C := RX1) (T := TX1) (N := 2) hx hb hts hin1 hown hK hP 9 rfl rfl 0 (by decide) (hts (.fieldLink RX1 21 "MissedPoints$Memo" "cells" "[I") (by decide +kernel)) (fun _ h9 => h9) rfl dX1_recall_14 ?_
      refine lv_iload_n hx hb dX1_recall_17 rfl (lv_at hl 1 rfl) ?_
      refine wk_aldA hx hb hK hP 10 0 rfl rfl (rg_in g33338 (by decide) (by decide)) dX1_recall_18 (fun r33339 => ?_)
      refine lv_bipush (v := 16) hx hb dX1_recall_19 (by decide) ?_
      refine lv_iushr hx hb dX1_recall_21 rfl ?_
      refine wk_any (fun r33340 => ?_)
      refine lv_aload_n hx hb dX1_recall_22 rfl (lv_at hl 0 rfl) ?_
      refine va_get (D := D) (ci := 1) (v := .int (u 9 1)) (C := RX1) (T := TX1) (N := 2) hx hb hts hin1 hown hK hP 9 rfl rfl 1 (by decide) (hts (.fieldLink RX1 9 "MissedPoints$Memo" "age" "I") (by decide +kernel)) (fun _ h9 => h9) rfl dX1_recall_23 ?_
      refine wk_any (fun r33341 => ?_)
      refine lv_icmp_eq (tgt := 31) hx hb dX1_recall_26 (by decide) (fun c33342 => ?_) (fun c33342 => ?_)
      · refine lv_aload_n hx hb dX1_recall_31 rfl (lv_at hl 0 rfl) ?_
        refine va_get (D := D) (ci := 1) (v := .ref (a 10)) (C := RX1) (T := TX1) (N := 2) hx hb hts hin1 hown hK hP 9 rfl rfl 0 (by decide) (hts (.fieldLink RX1 21 "MissedPoints$Memo" "cells" "[I") (by decide +kernel)) (fun _ h9 => h9) rfl dX1_recall_32 ?_
        refine lv_iload_n hx hb dX1_recall_35 rfl (lv_at hl 1 rfl) ?_
        refine wk_aldA hx hb hK hP 10 0 rfl rfl (rg_in g33338 (by decide) (by decide)) dX1_recall_36 (fun r33343 => ?_)
        refine lv_ldc hx hb hown (hts (.constant RX1 25 (65535)) (by decide +kernel)) dX1_recall_37 ?_
        refine wk_iandr hx hb dX1_recall_39 (by decide : Rg 65535 65535 (65535 : Int32)) (by decide) (fun r33344 hr33344 qr33344 => ?_)
        exact W.iret (v := r33344) hx hb hr (fun t ht hW => ⟨_, rfl, ⟨(show Rg (-1) 65535 r33344 from rg_w hr33344 (by decide) (by decide)), trivial⟩, ht⟩) (fun q hq => absurd hq List.not_mem_nil) dX1_recall_40
      · refine lv_iconst (v := (-1)) hx hb dX1_recall_29 (by decide) ?_
        exact W.iret (v := (-1)) hx hb hr (fun t ht hW => ⟨_, rfl, ⟨(by decide : Rg (-1) 65535 ((-1) : Int32)), trivial⟩, ht⟩) (fun q hq => absurd hq List.not_mem_nil) dX1_recall_30
set_option maxHeartbeats 4000000 in
set_option maxRecDepth 100000 in
theorem k_X1_keep (l : Launch) (D : va_G) (cI cS : ClassId) (sz : Nat) (a : Nat → Nat) (na nc N : Nat) (L u0 : SU) (hL : TyX L) (hN : N = 0 ∨ N = 24576) (x0 x1 : Int32) : Met l yX1_keep wsX1_keep ({ frames := 0, cells := 0, slots := 0, locals := 0 }) (PQ D cI cS (wX cI cS a na nc N L u0) sz [.ref (a 9), .int x0, .int x1]) (QE (S := SU) D (wX cI cS a na nc N L u0) (wX cI cS a na nc N L) sz (fun _ => True)) 0 0 (va_A (wX cI cS a na nc N L u0) sz) := by
  refine Met.ofW (cc := cX1_keep) (maxL := 3) (ret := none) (by decide) rfl ?_
  intro p e s m args below meth c s₁ B hml hv
  obtain ⟨rfl, hsz, hP, hKK, hD0⟩ := hv
  have hx := B.exec
  have hb := B.bytes
  have hr := B.returns
  have hts := atoms_spec (ws := wsX1_keep) B.pre
  have hown : s.vm.findClass RX1 = some m.cls := findClass_of_methodNamed B.named
  have hlocks := B.notSynchronized
  have hK := hKK.1
  have hin1 : ∀ w ∈ wsX10, w ∈ wsX1_keep := by decide +kernel
  subst hsz
  have hD := hD0.self (sz := s.heap.size)
  obtain ⟨A, hAe⟩ : ∃ A, A = va_A (wX cI cS a na nc N L u0) s.heap.size := ⟨_, rfl⟩
  rw [← hAe] at hD
  have hA : ∀ q : Nat, s.heap.size ≤ q → A q := fun q h => by rw [hAe]; exact Or.inr h
  have hS : va_S A s.heap s.heap [] := va_S.rf
  have hl := lv_entry ([.ref (a 9), .int x0, .int x1]) (n := 3) (Nat.le_of_ble_eq_true rfl)
  rw [lg_entry_eq]
  generalize (lg_sl ([.ref (a 9), .int x0, .int x1]) ++ List.replicate (3 - (lg_sl ([.ref (a 9), .int x0, .int x1])).length) Slot.unset).toArray = ls at hl ⊢
  have hl : lv_has ls 3 [(0, .ref (a 9)), (1, .int x0), (2, .int x1)] := hl
  obtain ⟨u, hu9⟩ : ∃ u : SU, u = u0 := ⟨_, rfl⟩
  rw [← hu9] at hP hD
  refine lv_iload_n hx hb dX1_keep_0 rfl (lv_at hl 1 rfl) ?_
  refine lv_if_lt (tgt := 31) hx hb dX1_keep_1 (by decide) (fun c33355 => ?_) (fun c33355 => ?_)
  · have g33356 : Rg (-2147483648) (-1) x0 := rg_ltl (rg_any x0) (by decide : Rg 0 0 (0 : Int32)) c33355 (by decide)
    subst hAe
    exact W.vret hx hb hr (fun t ht hW => ⟨⟨u, rfl, trivial, by rw [ht]; exact hP, hD⟩, hS.F ht⟩) hS.2.2 dX1_keep_31
  · have g33357 : Rg 0 2147483647 x0 := rg_ler (by decide : Rg 0 0 (0 : Int32)) (rg_any x0) (rg_nlt c33355) (by decide)
    refine lv_iload_n hx hb dX1_keep_4 rfl (lv_at hl 1 rfl) ?_
    refine lv_aload_n hx hb dX1_keep_5 rfl (lv_at hl 0 rfl) ?_
    refine va_get (D := D) (ci := 1) (v := .ref (a 10)) (C := RX1) (T := TX1) (N := 2) hx hb hts hin1 hown hK hP 9 rfl rfl 0 (by decide) (hts (.fieldLink RX1 21 "MissedPoints$Memo" "cells" "[I") (by decide +kernel)) (fun _ h9 => h9) rfl dX1_keep_6 ?_
    refine va_alen hx hb hK hP 10 0 rfl rfl (v := 4096) rfl dX1_keep_9 ?_
    refine lv_icmp_ge (tgt := 31) hx hb dX1_keep_10 (by decide) (fun c33358 => ?_) (fun c33358 => ?_)
    · have g33359 : Rg 4096 2147483647 x0 := rg_ler (by decide : Rg 4096 4096 (4096 : Int32)) g33357 c33358 (by decide)
      subst hAe
      exact W.vret hx hb hr (fun t ht hW => ⟨⟨u, rfl, trivial, by rw [ht]; exact hP, hD⟩, hS.F ht⟩) hS.2.2 dX1_keep_31
    · have g33360 : Rg 0 4095 x0 := rg_ltl g33357 (by decide : Rg 4096 4096 (4096 : Int32)) (rg_nle c33358) (by decide)
      refine lv_aload_n hx hb dX1_keep_13 rfl (lv_at hl 0 rfl) ?_
      refine va_get (D := D) (ci := 1) (v := .ref (a 10)) (C := RX1) (T := TX1) (N := 2) hx hb hts hin1 hown hK hP 9 rfl rfl 0 (by decide) (hts (.fieldLink RX1 21 "MissedPoints$Memo" "cells" "[I") (by decide +kernel)) (fun _ h9 => h9) rfl dX1_keep_14 ?_
      refine lv_iload_n hx hb dX1_keep_17 rfl (lv_at hl 1 rfl) ?_
      refine lv_aload_n hx hb dX1_keep_18 rfl (lv_at hl 0 rfl) ?_
      refine va_get (D := D) (ci := 1) (v := .int (u 9 1)) (C := RX1) (T := TX1) (N := 2) hx hb hts hin1 hown hK hP 9 rfl rfl 1 (by decide) (hts (.fieldLink RX1 9 "MissedPoints$Memo" "age" "I") (by decide +kernel)) (fun _ h9 => h9) rfl dX1_keep_19 ?_
      refine wk_any (fun r33361 => ?_)
      refine lv_bipush (v := 16) hx hb dX1_keep_22 (by decide) ?_
      refine lv_ishl hx hb dX1_keep_24 ?_
      refine wk_topP (P := fun r => r = r33361 <<< ((16 : Int32) &&& 31)) rfl (fun r33362 qr33362 => ?_)
      refine lv_iload_n hx hb dX1_keep_25 rfl (lv_at hl 2 rfl) ?_
      refine lv_ldc hx hb hown (hts (.constant RX1 25 (65535)) (by decide +kernel)) dX1_keep_26 ?_
      refine wk_iandr hx hb dX1_keep_28 (by decide : Rg 65535 65535 (65535 : Int32)) (by decide) (fun r33363 hr33363 qr33363 => ?_)
      refine lv_ior hx hb dX1_keep_29 ?_
      refine wk_topP (P := fun r => r = r33362 ||| r33363) rfl (fun r33364 qr33364 => ?_)
      refine ks_ast hx hb hK hP hD hS rfl (k := 10) rfl sx_10 (rg_in g33360 (by decide) (by decide)) dX1_keep_30 (fun u H locs hP hD hS => ?_)
      subst hAe
      exact W.vret hx hb hr (fun t ht hW => ⟨⟨u, rfl, trivial, by rw [ht]; exact hP, hD⟩, hS.F ht⟩) hS.2.2 dX1_keep_31
theorem dX1_forget_10 : decode cX1_forget 10 = .ok (.iconst 0, 1) := by decide +kernel
theorem dX1_forget_11 : decode cX1_forget 11 = .ok (.istore_n 1, 1) := by decide +kernel
theorem dX1_forget_12 : decode cX1_forget 12 = .ok (.iload_n 1, 1) := by decide +kernel
theorem dX1_forget_13 : decode cX1_forget 13 = .ok (.aload_n 0, 1) := by decide +kernel
theorem dX1_forget_14 : decode cX1_forget 14 = .ok (.getfield 21, 3) := by decide +kernel
theorem dX1_forget_17 : decode cX1_forget 17 = .ok (.arraylength, 1) := by decide +kernel
theorem dX1_forget_18 : decode cX1_forget 18 = .ok (.if_icmp .ge 16, 3) := by decide +kernel
theorem dX1_forget_21 : decode cX1_forget 21 = .ok (.aload_n 0, 1) := by decide +kernel
theorem dX1_forget_22 : decode cX1_forget 22 = .ok (.getfield 21, 3) := by decide +kernel
theorem dX1_forget_25 : decode cX1_forget 25 = .ok (.iload_n 1, 1) := by decide +kernel
theorem dX1_forget_26 : decode cX1_forget 26 = .ok (.iconst 0, 1) := by decide +kernel
theorem dX1_forget_27 : decode cX1_forget 27 = .ok (.iastore, 1) := by decide +kernel
theorem dX1_forget_28 : decode cX1_forget 28 = .ok (.iinc 1 1, 3) := by decide +kernel
theorem dX1_forget_31 : decode cX1_forget 31 = .ok (.goto (-19), 3) := by decide +kernel
theorem dX1_forget_34 : decode cX1_forget 34 = .ok (.aload_n 0, 1) := by decide +kernel
theorem dX1_forget_35 : decode cX1_forget 35 = .ok (.iconst 0, 1) := by decide +kernel
theorem dX1_forget_36 : decode cX1_forget 36 = .ok (.putfield 9, 3) := by decide +kernel
set_option maxHeartbeats 4000000 in
set_option maxRecDepth 100000 in
theorem k_X1_forget (l : Launch) (D : va_G) (cI cS : ClassId) (sz : Nat) (a : Nat → Nat) (na nc N : Nat) (L u0 : SU) (hL : TyX L) (hN : N = 0 ∨ N = 24576) : Met l yX1_forget wsX1_forget ({ frames := 0, cells := 0, slots := 0, locals := 0 }) (PQ D cI cS (wX cI cS a na nc N L u0) sz [.ref (a 9)]) (QE (S := SU) D (wX cI cS a na nc N L u0) (wX cI cS a na nc N L) sz (fun _ => True)) 0 0 (va_A (wX cI cS a na nc N L u0) sz) := by
  refine Met.ofW (cc := cX1_forget) (maxL := 2) (ret := none) (by decide) rfl ?_
  intro p e s m args below meth c s₁ B hml hv
  obtain ⟨rfl, hsz, hP, hKK, hD0⟩ := hv
  have hx := B.exec
  have hb := B.bytes
  have hr := B.returns
  have hts := atoms_spec (ws := wsX1_forget) B.pre
  have hown : s.vm.findClass RX1 = some m.cls := findClass_of_methodNamed B.named
  have hlocks := B.notSynchronized
  have hK := hKK.1
  have hin1 : ∀ w ∈ wsX10, w ∈ wsX1_forget := by decide +kernel
  subst hsz
  have hD := hD0.self (sz := s.heap.size)
  obtain ⟨A, hAe⟩ : ∃ A, A = va_A (wX cI cS a na nc N L u0) s.heap.size := ⟨_, rfl⟩
  rw [← hAe] at hD
  have hA : ∀ q : Nat, s.heap.size ≤ q → A q := fun q h => by rw [hAe]; exact Or.inr h
  have hS : va_S A s.heap s.heap [] := va_S.rf
  have hl := lv_entry ([.ref (a 9)]) (n := 2) (Nat.le_of_ble_eq_true rfl)
  rw [lg_entry_eq]
  generalize (lg_sl ([.ref (a 9)]) ++ List.replicate (2 - (lg_sl ([.ref (a 9)])).length) Slot.unset).toArray = ls at hl ⊢
  have hl : lv_has ls 2 [(0, .ref (a 9))] := hl
  obtain ⟨u, hu9⟩ : ∃ u : SU, u = u0 := ⟨_, rfl⟩
  rw [← hu9] at hP hD
  have lp12 : ∀ (n12 : Nat) (y12_l1 : Int32) (u : SU) (H : Heap) (locs : List Loc) (ls : Array Slot), Rg 0 4096 y12_l1 → va_P D cls (wX cI cS a na nc N L u) H → va_D A (wX cI cS a na nc N L u) → va_S A s.heap H locs → lv_has ls 2 [(0, .ref (a 9)), (1, .int y12_l1)] → 4096 - y12_l1.toInt < (n12 : Int) → W p l e (headSpec wsX1_forget ({ frames := 0, cells := 0, slots := 0, locals := 0 })).room s m ([.ref (a 9)]).toArray below meth c H locs 0 0 (MQ below (QE (S := SU) D (wX cI cS a na nc N L u0) (wX cI cS a na nc N L) s.heap.size (fun _ => True)) ([.ref (a 9)]).toArray s 0 0 (va_A (wX cI cS a na nc N L u0) s.heap.size)) (F0 m 12 ls []) := by
    intro n12
    induction n12 with
    | zero =>
      intro y12_l1 u H locs ls g12_l1 hP hD hS hl hm12
      exact absurd rfl (me_z g12_l1 hm12)
    | succ n12 ih12 =>
      intro y12_l1 u H locs ls g12_l1 hP hD hS hl hm12
      refine lv_iload_n hx hb dX1_forget_12 rfl (lv_at hl 1 rfl) ?_
      refine lv_aload_n hx hb dX1_forget_13 rfl (lv_at hl 0 rfl) ?_
      refine va_get (D := D) (ci := 1) (v := .ref (a 10)) (C := RX1) (T := TX1) (N := 2) hx hb hts hin1 hown hK hP 9 rfl rfl 0 (by decide) (hts (.fieldLink RX1 21 "MissedPoints$Memo" "cells" "[I") (by decide +kernel)) (fun _ h9 => h9) rfl dX1_forget_14 ?_
      refine va_alen hx hb hK hP 10 0 rfl rfl (v := 4096) rfl dX1_forget_17 ?_
      refine lv_icmp_ge (tgt := 34) hx hb dX1_forget_18 (by decide) (fun c33523 => ?_) (fun c33523 => ?_)
      · have g33524 : Rg 4096 4096 y12_l1 := rg_ler (by decide : Rg 4096 4096 (4096 : Int32)) g12_l1 c33523 (by decide)
        refine lv_aload_n hx hb dX1_forget_34 rfl (lv_at hl 0 rfl) ?_
        refine lv_iconst (v := 0) hx hb dX1_forget_35 (by decide) ?_
        refine va_put (D := D) (ci := 1) (v := .int 0) (ty := .int) (C := RX1) (T := TX1) (N := 2) hx hb hts hin1 tyX1 tyX1_ok nmX1 hown hK hP hD hS 9 rfl rfl 1 (by decide) (hts (.fieldLink RX1 9 "MissedPoints$Memo" "age" "I") (by decide +kernel)) (fun _ h9 => h9) rfl (by decide +kernel) rfl rfl (Nat.le_of_ble_eq_true rfl) dX1_forget_36 (fun H locs hP hD hS => ?_)
        rw [sxf_9_1] at hP hD
        generalize sU u 9 _ = u at hP hD
        refine lv_aload_n hx hb dX1_forget_39 rfl (lv_at hl 0 rfl) ?_
        refine lv_dup hx hb dX1_forget_40 rfl ?_
        refine va_get (D := D) (ci := 1) (v := .int (u 9 1)) (C := RX1) (T := TX1) (N := 2) hx hb hts hin1 hown hK hP 9 rfl rfl 1 (by decide) (hts (.fieldLink RX1 9 "MissedPoints$Memo" "age" "I") (by decide +kernel)) (fun _ h9 => h9) rfl dX1_forget_41 ?_
        refine wk_any (fun r33525 => ?_)
        refine lv_iconst (v := 1) hx hb dX1_forget_44 (by decide) ?_
        refine lv_iadd hx hb dX1_forget_45 ?_
        refine wk_topP (P := fun r => r = r33525 + (1 : Int32)) rfl (fun r33526 qr33526 => ?_)
        refine va_put (D := D) (ci := 1) (v := .int r33526) (ty := .int) (C := RX1) (T := TX1) (N := 2) hx hb hts hin1 tyX1 tyX1_ok nmX1 hown hK hP hD hS 9 rfl rfl 1 (by decide) (hts (.fieldLink RX1 9 "MissedPoints$Memo" "age" "I") (by decide +kernel)) (fun _ h9 => h9) rfl (by decide +kernel) rfl rfl (Nat.le_of_ble_eq_true rfl) dX1_forget_46 (fun H locs hP hD hS => ?_)
        rw [sxf_9_1] at hP hD
        generalize sU u 9 _ = u at hP hD
        subst hAe
        exact W.vret hx hb hr (fun t ht hW => ⟨⟨u, rfl, trivial, by rw [ht]; exact hP, hD⟩, hS.F ht⟩) hS.2.2 dX1_forget_49
      · have g33527 : Rg 0 4095 y12_l1 := rg_ltl g12_l1 (by decide : Rg 4096 4096 (4096 : Int32)) (rg_nle c33523) (by decide)
        refine lv_aload_n hx hb dX1_forget_21 rfl (lv_at hl 0 rfl) ?_
        refine va_get (D := D) (ci := 1) (v := .ref (a 10)) (C := RX1) (T := TX1) (N := 2) hx hb hts hin1 hown hK hP 9 rfl rfl 0 (by decide) (hts (.fieldLink RX1 21 "MissedPoints$Memo" "cells" "[I") (by decide +kernel)) (fun _ h9 => h9) rfl dX1_forget_22 ?_
        refine lv_iload_n hx hb dX1_forget_25 rfl (lv_at hl 1 rfl) ?_
        refine lv_iconst (v := 0) hx hb dX1_forget_26 (by decide) ?_
        refine ks_ast hx hb hK hP hD hS rfl (k := 10) rfl sx_10 (rg_in g33527 (by decide) (by decide)) dX1_forget_27 (fun u H locs hP hD hS => ?_)
        refine wk_iinc (lv' := fun r => [(1, .int r), (0, .ref (a 9))]) (e1 := 1) (f := 4096) hx hb dX1_forget_28 hl (k := 1) rfl (by decide) g33527 (by decide) (fun _ => rfl) (fun r33528 ls hr33528 er33528 hl => ?_)
        refine lv_goto (tgt := 12) hx hb dX1_forget_31 (by decide) ?_
        exact ih12 r33528 u _ _ ls (show Rg 0 4096 r33528 from rg_w hr33528 (by decide) (by decide)) hP hD hS (lv_sub (l' := [(0, .ref (a 9)), (1, .int r33528)]) hl [1, 0] rfl) (me_up hm12 er33528 (by decide))
  refine lv_aload_n hx hb dX1_forget_0 rfl (lv_at hl 0 rfl) ?_
  refine va_get (D := D) (ci := 1) (v := .int (u 9 1)) (C := RX1) (T := TX1) (N := 2) hx hb hts hin1 hown hK hP 9 rfl rfl 1 (by decide) (hts (.fieldLink RX1 9 "MissedPoints$Memo" "age" "I") (by decide +kernel)) (fun _ h9 => h9) rfl dX1_forget_1 ?_
  refine wk_any (fun r33529 => ?_)
  refine lv_sipush (v := 32767) hx hb dX1_forget_4 (by decide) ?_
  refine lv_icmp_ne (tgt := 39) hx hb dX1_forget_7 (by decide) (fun c33530 => ?_) (fun c33530 => ?_)
  · refine lv_aload_n hx hb dX1_forget_39 rfl (lv_at hl 0 rfl) ?_
    refine lv_dup hx hb dX1_forget_40 rfl ?_
    refine va_get (D := D) (ci := 1) (v := .int (u 9 1)) (C := RX1) (T := TX1) (N := 2) hx hb hts hin1 hown hK hP 9 rfl rfl 1 (by decide) (hts (.fieldLink RX1 9 "MissedPoints$Memo" "age" "I") (by decide +kernel)) (fun _ h9 => h9) rfl dX1_forget_41 ?_
    refine wk_any (fun r33531 => ?_)
    refine lv_iconst (v := 1) hx hb dX1_forget_44 (by decide) ?_
    refine lv_iadd hx hb dX1_forget_45 ?_
    refine wk_topP (P := fun r => r = r33531 + (1 : Int32)) rfl (fun r33532 qr33532 => ?_)
    refine va_put (D := D) (ci := 1) (v := .int r33532) (ty := .int) (C := RX1) (T := TX1) (N := 2) hx hb hts hin1 tyX1 tyX1_ok nmX1 hown hK hP hD hS 9 rfl rfl 1 (by decide) (hts (.fieldLink RX1 9 "MissedPoints$Memo" "age" "I") (by decide +kernel)) (fun _ h9 => h9) rfl (by decide +kernel) rfl rfl (Nat.le_of_ble_eq_true rfl) dX1_forget_46 (fun H locs hP hD hS => ?_)
    rw [sxf_9_1] at hP hD
    generalize sU u 9 _ = u at hP hD
    subst hAe
    exact W.vret hx hb hr (fun t ht hW => ⟨⟨u, rfl, trivial, by rw [ht]; exact hP, hD⟩, hS.F ht⟩) hS.2.2 dX1_forget_49
  · have g33533 : Rg 32767 32767 r33529 := wk_eql (rg_any r33529) (by decide : Rg 32767 32767 (32767 : Int32)) c33530 (by decide)
    refine lv_iconst (v := 0) hx hb dX1_forget_10 (by decide) ?_
    refine lv_istore_n (lv' := [(1, .int 0), (0, .ref (a 9))]) hx hb dX1_forget_11 rfl hl (by decide) rfl (fun ls hl => ?_)
    exact lp12 4097 (0 : Int32) u _ _ ls (by decide : Rg 0 4096 (0 : Int32)) hP hD hS (lv_sub (l' := [(0, .ref (a 9)), (1, .int 0)]) hl [1, 0] rfl) (me_i (by decide : Rg 0 4096 (0 : Int32)) (by decide))
theorem dX1_isBlank_12 : decode cX1_isBlank 12 = .ok (.iconst 0, 1) := by decide +kernel
set_option maxHeartbeats 4000000 in
set_option maxRecDepth 100000 in
theorem k_X1_isBlank_13 (l : Launch) (D : va_G) (cI cS : ClassId) (a : Nat → Nat) (na nc N : Nat) (L u : SU) (hL : TyX L) (hN : N = 0 ∨ N = 24576) : Met l yX1_isBlank wsX1_isBlank ({ frames := 0, cells := 0, slots := 0, locals := 0 }) (PS D cI cS (wX cI cS a na nc N L u) [.ref na]) (vp_Si (fun r => Rg 0 1 r ∧ True)) 0 0 (fun _ => False) := by
  refine Met.ofW (cc := cX1_isBlank) (maxL := 1) (ret := (some .boolean)) (by decide) rfl ?_
  intro p e s m args below meth c s₁ B hml hv
  obtain ⟨rfl, hP, hKK⟩ := hv
  have hx := B.exec
  have hb := B.bytes
  have hr := B.returns
  have hts := atoms_spec (ws := wsX1_isBlank) B.pre
  have hown : s.vm.findClass RX1 = some m.cls := findClass_of_methodNamed B.named
  have hlocks := B.notSynchronized
  have hK := hKK.1
  have hin1 : ∀ w ∈ wsX10, w ∈ wsX1_isBlank := by decide +kernel
  have hl := lv_entry ([.ref na]) (n := 1) (Nat.le_of_ble_eq_true rfl)
  rw [lg_entry_eq]
  generalize (lg_sl ([.ref na]) ++ List.replicate (1 - (lg_sl ([.ref na])).length) Slot.unset).toArray = ls at hl ⊢
  have hl : lv_has ls 1 [(0, .ref na)] := hl
  refine lv_aload_n hx hb dX1_isBlank_0 rfl (lv_at hl 0 rfl) ?_
  refine va_get (D := D) (ci := 1) (v := .ref nc) (C := RX1) (T := TX1) (N := 2) hx hb hts hin1 hown hK hP 13 rfl rfl 0 (by decide) (hts (.fieldLink RX1 21 "MissedPoints$Memo" "cells" "[I") (by decide +kernel)) (fun _ h9 => h9) rfl dX1_isBlank_1 ?_
  refine va_alen hx hb hK hP 14 0 rfl rfl (v := nI N) rfl dX1_isBlank_4 ?_
  refine lv_if_ne (tgt := 12) hx hb dX1_isBlank_5 (by decide) (fun c33537 => ?_) (fun c33537 => ?_)
  · have g33538 : Rg 1 24576 (nI N) := rg_ne_lo (k := 0) (wk_N hN) (by decide) c33537 (by decide)
    refine lv_iconst (v := 0) hx hb dX1_isBlank_12 (by decide) ?_
    exact W.zret (v := 0) hx hb hr (by decide) (fun t ht hW => ⟨_, rfl, ⟨(by decide : Rg 0 1 (0 : Int32)), trivial⟩, ht⟩) (fun q hq => absurd hq List.not_mem_nil) dX1_isBlank_13
  · have g33539 : Rg 0 0 (nI N) := wk_eql (wk_N hN) (by decide : Rg 0 0 (0 : Int32)) c33537 (by decide)
    refine lv_iconst (v := 1) hx hb dX1_isBlank_8 (by decide) ?_
    refine lv_goto (tgt := 13) hx hb dX1_isBlank_9 (by decide) ?_
    exact W.zret (v := 1) hx hb hr (by decide) (fun t ht hW => ⟨_, rfl, ⟨(by decide : Rg 0 1 (1 : Int32)), trivial⟩, ht⟩) (fun q hq => absurd hq List.not_mem_nil) dX1_isBlank_13
set_option maxHeartbeats 4000000 in
set_option maxRecDepth 100000 in
theorem k_X1_recall_13 (l : Launch) (D : va_G) (cI cS : ClassId) (a : Nat → Nat) (na nc N : Nat) (L u : SU) (hL : TyX L) (hN : N = 0 ∨ N = 24576) (x0 : Int32) : Met l yX1_recall wsX1_recall ({ frames := 0, cells := 0, slots := 0, locals := 0 }) (PS D cI cS (wX cI cS a na nc N L u) [.ref na, .int x0]) (vp_Si (fun r => Rg (-1) 65535 r ∧ True)) 0 0 (fun _ => False) := by
  refine Met.ofW (cc := cX1_recall) (maxL := 2) (ret := (some .int)) (by decide) rfl ?_
  intro p e s m args below meth c s₁ B hml hv
  obtain ⟨rfl, hP, hKK⟩ := hv
  have hx := B.exec
  have hb := B.bytes
  have hr := B.returns
  have hts := atoms_spec (ws := wsX1_recall) B.pre
  have hown : s.vm.findClass RX1 = some m.cls := findClass_of_methodNamed B.named
  have hlocks := B.notSynchronized
  have hK := hKK.1
  have hin1 : ∀ w ∈ wsX10, w ∈ wsX1_recall := by decide +kernel
  have hl := lv_entry ([.ref na, .int x0]) (n := 2) (Nat.le_of_ble_eq_true rfl)
  rw [lg_entry_eq]
  generalize (lg_sl ([.ref na, .int x0]) ++ List.replicate (2 - (lg_sl ([.ref na, .int x0])).length) Slot.unset).toArray = ls at hl ⊢
  have hl : lv_has ls 2 [(0, .ref na), (1, .int x0)] := hl
  refine lv_iload_n hx hb dX1_recall_0 rfl (lv_at hl 1 rfl) ?_
  refine lv_if_lt (tgt := 29) hx hb dX1_recall_1 (by decide) (fun c33552 => ?_) (fun c33552 => ?_)
  · have g33553 : Rg (-2147483648) (-1) x0 := rg_ltl (rg_any x0) (by decide : Rg 0 0 (0 : Int32)) c33552 (by decide)
    refine lv_iconst (v := (-1)) hx hb dX1_recall_29 (by decide) ?_
    exact W.iret (v := (-1)) hx hb hr (fun t ht hW => ⟨_, rfl, ⟨(by decide : Rg (-1) 65535 ((-1) : Int32)), trivial⟩, ht⟩) (fun q hq => absurd hq List.not_mem_nil) dX1_recall_30
  · have g33554 : Rg 0 2147483647 x0 := rg_ler (by decide : Rg 0 0 (0 : Int32)) (rg_any x0) (rg_nlt c33552) (by decide)
    refine lv_iload_n hx hb dX1_recall_4 rfl (lv_at hl 1 rfl) ?_
    refine lv_aload_n hx hb dX1_recall_5 rfl (lv_at hl 0 rfl) ?_
    refine va_get (D := D) (ci := 1) (v := .ref nc) (C := RX1) (T := TX1) (N := 2) hx hb hts hin1 hown hK hP 13 rfl rfl 0 (by decide) (hts (.fieldLink RX1 21 "MissedPoints$Memo" "cells" "[I") (by decide +kernel)) (fun _ h9 => h9) rfl dX1_recall_6 ?_
    refine va_alen hx hb hK hP 14 0 rfl rfl (v := nI N) rfl dX1_recall_9 ?_
    refine lv_icmp_ge (tgt := 29) hx hb dX1_recall_10 (by decide) (fun c33555 => ?_) (fun c33555 => ?_)
    · refine lv_iconst (v := (-1)) hx hb dX1_recall_29 (by decide) ?_
      exact W.iret (v := (-1)) hx hb hr (fun t ht hW => ⟨_, rfl, ⟨(by decide : Rg (-1) 65535 ((-1) : Int32)), trivial⟩, ht⟩) (fun q hq => absurd hq List.not_mem_nil) dX1_recall_30
    · have g33556 : Rg 1 24576 (nI N) := rg_ltr g33554 (wk_N hN) (rg_nle c33555) (by decide)
      have g33557 : Rg 0 24575 x0 := rg_ltl g33554 (wk_N hN) (rg_nle c33555) (by decide)
      refine lv_aload_n hx hb dX1_recall_13 rfl (lv_at hl 0 rfl) ?_
      refine va_get (D := D) (ci := 1) (v := .ref nc) (C := RX1) (T := TX1) (N := 2) hx hb hts hin1 hown hK hP 13 rfl rfl 0 (by decide) (hts (.fieldLink RX1 21 "MissedPoints$Memo" "cells" "[I") (by decide +kernel)) (fun _ h9 => h9) rfl dX1_recall_14 ?_
      refine lv_iload_n hx hb dX1_recall_17 rfl (lv_at hl 1 rfl) ?_
      refine wk_aldA hx hb hK hP 14 0 rfl rfl (wk_inN hN g33557.1 (rg_nle c33555)) dX1_recall_18 (fun r33558 => ?_)
      refine lv_bipush (v := 16) hx hb dX1_recall_19 (by decide) ?_
      refine lv_iushr hx hb dX1_recall_21 rfl ?_
      refine wk_any (fun r33559 => ?_)
      refine lv_aload_n hx hb dX1_recall_22 rfl (lv_at hl 0 rfl) ?_
      refine va_get (D := D) (ci := 1) (v := .int (u 13 1)) (C := RX1) (T := TX1) (N := 2) hx hb hts hin1 hown hK hP 13 rfl rfl 1 (by decide) (hts (.fieldLink RX1 9 "MissedPoints$Memo" "age" "I") (by decide +kernel)) (fun _ h9 => h9) rfl dX1_recall_23 ?_
      refine wk_any (fun r33560 => ?_)
      refine lv_icmp_eq (tgt := 31) hx hb dX1_recall_26 (by decide) (fun c33561 => ?_) (fun c33561 => ?_)
      · refine lv_aload_n hx hb dX1_recall_31 rfl (lv_at hl 0 rfl) ?_
        refine va_get (D := D) (ci := 1) (v := .ref nc) (C := RX1) (T := TX1) (N := 2) hx hb hts hin1 hown hK hP 13 rfl rfl 0 (by decide) (hts (.fieldLink RX1 21 "MissedPoints$Memo" "cells" "[I") (by decide +kernel)) (fun _ h9 => h9) rfl dX1_recall_32 ?_
        refine lv_iload_n hx hb dX1_recall_35 rfl (lv_at hl 1 rfl) ?_
        refine wk_aldA hx hb hK hP 14 0 rfl rfl (wk_inN hN g33557.1 (rg_nle c33555)) dX1_recall_36 (fun r33562 => ?_)
        refine lv_ldc hx hb hown (hts (.constant RX1 25 (65535)) (by decide +kernel)) dX1_recall_37 ?_
        refine wk_iandr hx hb dX1_recall_39 (by decide : Rg 65535 65535 (65535 : Int32)) (by decide) (fun r33563 hr33563 qr33563 => ?_)
        exact W.iret (v := r33563) hx hb hr (fun t ht hW => ⟨_, rfl, ⟨(show Rg (-1) 65535 r33563 from rg_w hr33563 (by decide) (by decide)), trivial⟩, ht⟩) (fun q hq => absurd hq List.not_mem_nil) dX1_recall_40
      · refine lv_iconst (v := (-1)) hx hb dX1_recall_29 (by decide) ?_
        exact W.iret (v := (-1)) hx hb hr (fun t ht hW => ⟨_, rfl, ⟨(by decide : Rg (-1) 65535 ((-1) : Int32)), trivial⟩, ht⟩) (fun q hq => absurd hq List.not_mem_nil) dX1_recall_30
set_option maxHeartbeats 4000000 in
set_option maxRecDepth 100000 in
theorem k_X1_keep_13 (l : Launch) (D : va_G) (cI cS : ClassId) (sz : Nat) (a : Nat → Nat) (na nc N : Nat) (L u0 : SU) (hL : TyX L) (hN : N = 0 ∨ N = 24576) (x0 x1 : Int32) : Met l yX1_keep wsX1_keep ({ frames := 0, cells := 0, slots := 0, locals := 0 }) (PQ D cI cS (wX cI cS a na nc N L u0) sz [.ref na, .int x0, .int x1]) (QE (S := SU) D (wX cI cS a na nc N L u0) (wX cI cS a na nc N L) sz (fun _ => True)) 0 0 (va_A (wX cI cS a na nc N L u0) sz) := by
  refine Met.ofW (cc := cX1_keep) (maxL := 3) (ret := none) (by decide) rfl ?_
  intro p e s m args below meth c s₁ B hml hv
  obtain ⟨rfl, hsz, hP, hKK, hD0⟩ := hv
  have hx := B.exec
  have hb := B.bytes
  have hr := B.returns
  have hts := atoms_spec (ws := wsX1_keep) B.pre
  have hown : s.vm.findClass RX1 = some m.cls := findClass_of_methodNamed B.named
  have hlocks := B.notSynchronized
  have hK := hKK.1
  have hin1 : ∀ w ∈ wsX10, w ∈ wsX1_keep := by decide +kernel
  subst hsz
  have hD := hD0.self (sz := s.heap.size)
  obtain ⟨A, hAe⟩ : ∃ A, A = va_A (wX cI cS a na nc N L u0) s.heap.size := ⟨_, rfl⟩
  rw [← hAe] at hD
  have hA : ∀ q : Nat, s.heap.size ≤ q → A q := fun q h => by rw [hAe]; exact Or.inr h
  have hS : va_S A s.heap s.heap [] := va_S.rf
  have hl := lv_entry ([.ref na, .int x0, .int x1]) (n := 3) (Nat.le_of_ble_eq_true rfl)
  rw [lg_entry_eq]
  generalize (lg_sl ([.ref na, .int x0, .int x1]) ++ List.replicate (3 - (lg_sl ([.ref na, .int x0, .int x1])).length) Slot.unset).toArray = ls at hl ⊢
  have hl : lv_has ls 3 [(0, .ref na), (1, .int x0), (2, .int x1)] := hl
  obtain ⟨u, hu9⟩ : ∃ u : SU, u = u0 := ⟨_, rfl⟩
  rw [← hu9] at hP hD
  refine lv_iload_n hx hb dX1_keep_0 rfl (lv_at hl 1 rfl) ?_
  refine lv_if_lt (tgt := 31) hx hb dX1_keep_1 (by decide) (fun c33574 => ?_) (fun c33574 => ?_)
  · have g33575 : Rg (-2147483648) (-1) x0 := rg_ltl (rg_any x0) (by decide : Rg 0 0 (0 : Int32)) c33574 (by decide)
    subst hAe
    exact W.vret hx hb hr (fun t ht hW => ⟨⟨u, rfl, trivial, by rw [ht]; exact hP, hD⟩, hS.F ht⟩) hS.2.2 dX1_keep_31
  · have g33576 : Rg 0 2147483647 x0 := rg_ler (by decide : Rg 0 0 (0 : Int32)) (rg_any x0) (rg_nlt c33574) (by decide)
    refine lv_iload_n hx hb dX1_keep_4 rfl (lv_at hl 1 rfl) ?_
    refine lv_aload_n hx hb dX1_keep_5 rfl (lv_at hl 0 rfl) ?_
    refine va_get (D := D) (ci := 1) (v := .ref nc) (C := RX1) (T := TX1) (N := 2) hx hb hts hin1 hown hK hP 13 rfl rfl 0 (by decide) (hts (.fieldLink RX1 21 "MissedPoints$Memo" "cells" "[I") (by decide +kernel)) (fun _ h9 => h9) rfl dX1_keep_6 ?_
    refine va_alen hx hb hK hP 14 0 rfl rfl (v := nI N) rfl dX1_keep_9 ?_
    refine lv_icmp_ge (tgt := 31) hx hb dX1_keep_10 (by decide) (fun c33577 => ?_) (fun c33577 => ?_)
    · subst hAe
      exact W.vret hx hb hr (fun t ht hW => ⟨⟨u, rfl, trivial, by rw [ht]; exact hP, hD⟩, hS.F ht⟩) hS.2.2 dX1_keep_31
    · have g33578 : Rg 1 24576 (nI N) := rg_ltr g33576 (wk_N hN) (rg_nle c33577) (by decide)
      have g33579 : Rg 0 24575 x0 := rg_ltl g33576 (wk_N hN) (rg_nle c33577) (by decide)
      refine lv_aload_n hx hb dX1_keep_13 rfl (lv_at hl 0 rfl) ?_
      refine va_get (D := D) (ci := 1) (v := .ref nc) (C := RX1) (T := TX1) (N := 2) hx hb hts hin1 hown hK hP 13 rfl rfl 0 (by decide) (hts (.fieldLink RX1 21 "MissedPoints$Memo" "cells" "[I") (by decide +kernel)) (fun _ h9 => h9) rfl dX1_keep_14 ?_
      refine lv_iload_n hx hb dX1_keep_17 rfl (lv_at hl 1 rfl) ?_
      refine lv_aload_n hx hb dX1_keep_18 rfl (lv_at hl 0 rfl) ?_
      refine va_get (D := D) (ci := 1) (v := .int (u 13 1)) (C := RX1) (T := TX1) (N := 2) hx hb hts hin1 hown hK hP 13 rfl rfl 1 (by decide) (hts (.fieldLink RX1 9 "MissedPoints$Memo" "age" "I") (by decide +kernel)) (fun _ h9 => h9) rfl dX1_keep_19 ?_
      refine wk_any (fun r33580 => ?_)
      refine lv_bipush (v := 16) hx hb dX1_keep_22 (by decide) ?_
      refine lv_ishl hx hb dX1_keep_24 ?_
      refine wk_topP (P := fun r => r = r33580 <<< ((16 : Int32) &&& 31)) rfl (fun r33581 qr33581 => ?_)
      refine lv_iload_n hx hb dX1_keep_25 rfl (lv_at hl 2 rfl) ?_
      refine lv_ldc hx hb hown (hts (.constant RX1 25 (65535)) (by decide +kernel)) dX1_keep_26 ?_
      refine wk_iandr hx hb dX1_keep_28 (by decide : Rg 65535 65535 (65535 : Int32)) (by decide) (fun r33582 hr33582 qr33582 => ?_)
      refine lv_ior hx hb dX1_keep_29 ?_
      refine wk_topP (P := fun r => r = r33581 ||| r33582) rfl (fun r33583 qr33583 => ?_)
      refine ks_ast hx hb hK hP hD hS rfl (k := 14) rfl sx_14 (wk_inN hN g33579.1 (rg_nle c33577)) dX1_keep_30 (fun u H locs hP hD hS => ?_)
      subst hAe
      exact W.vret hx hb hr (fun t ht hW => ⟨⟨u, rfl, trivial, by rw [ht]; exact hP, hD⟩, hS.F ht⟩) hS.2.2 dX1_keep_31
set_option maxHeartbeats 4000000 in
set_option maxRecDepth 100000 in
theorem k_X1_forget_13 (l : Launch) (D : va_G) (cI cS : ClassId) (sz : Nat) (a : Nat → Nat) (na nc N : Nat) (L u0 : SU) (hL : TyX L) (hN : N = 0 ∨ N = 24576) : Met l yX1_forget wsX1_forget ({ frames := 0, cells := 0, slots := 0, locals := 0 }) (PQ D cI cS (wX cI cS a na nc N L u0) sz [.ref na]) (QE (S := SU) D (wX cI cS a na nc N L u0) (wX cI cS a na nc N L) sz (fun _ => True)) 0 0 (va_A (wX cI cS a na nc N L u0) sz) := by
  refine Met.ofW (cc := cX1_forget) (maxL := 2) (ret := none) (by decide) rfl ?_
  intro p e s m args below meth c s₁ B hml hv
  obtain ⟨rfl, hsz, hP, hKK, hD0⟩ := hv
  have hx := B.exec
  have hb := B.bytes
  have hr := B.returns
  have hts := atoms_spec (ws := wsX1_forget) B.pre
  have hown : s.vm.findClass RX1 = some m.cls := findClass_of_methodNamed B.named
  have hlocks := B.notSynchronized
  have hK := hKK.1
  have hin1 : ∀ w ∈ wsX10, w ∈ wsX1_forget := by decide +kernel
  subst hsz
  have hD := hD0.self (sz := s.heap.size)
  obtain ⟨A, hAe⟩ : ∃ A, A = va_A (wX cI cS a na nc N L u0) s.heap.size := ⟨_, rfl⟩
  rw [← hAe] at hD
  have hA : ∀ q : Nat, s.heap.size ≤ q → A q := fun q h => by rw [hAe]; exact Or.inr h
  have hS : va_S A s.heap s.heap [] := va_S.rf
  have hl := lv_entry ([.ref na]) (n := 2) (Nat.le_of_ble_eq_true rfl)
  rw [lg_entry_eq]
  generalize (lg_sl ([.ref na]) ++ List.replicate (2 - (lg_sl ([.ref na])).length) Slot.unset).toArray = ls at hl ⊢
  have hl : lv_has ls 2 [(0, .ref na)] := hl
  obtain ⟨u, hu9⟩ : ∃ u : SU, u = u0 := ⟨_, rfl⟩
  rw [← hu9] at hP hD
  have lp12 : ∀ (n12 : Nat) (y12_l1 : Int32) (u : SU) (H : Heap) (locs : List Loc) (ls : Array Slot), Rg 0 28671 y12_l1 → va_P D cls (wX cI cS a na nc N L u) H → va_D A (wX cI cS a na nc N L u) → va_S A s.heap H locs → lv_has ls 2 [(0, .ref na), (1, .int y12_l1)] → 28671 - y12_l1.toInt < (n12 : Int) → W p l e (headSpec wsX1_forget ({ frames := 0, cells := 0, slots := 0, locals := 0 })).room s m ([.ref na]).toArray below meth c H locs 0 0 (MQ below (QE (S := SU) D (wX cI cS a na nc N L u0) (wX cI cS a na nc N L) s.heap.size (fun _ => True)) ([.ref na]).toArray s 0 0 (va_A (wX cI cS a na nc N L u0) s.heap.size)) (F0 m 12 ls []) := by
    intro n12
    induction n12 with
    | zero =>
      intro y12_l1 u H locs ls g12_l1 hP hD hS hl hm12
      exact absurd rfl (me_z g12_l1 hm12)
    | succ n12 ih12 =>
      intro y12_l1 u H locs ls g12_l1 hP hD hS hl hm12
      refine lv_iload_n hx hb dX1_forget_12 rfl (lv_at hl 1 rfl) ?_
      refine lv_aload_n hx hb dX1_forget_13 rfl (lv_at hl 0 rfl) ?_
      refine va_get (D := D) (ci := 1) (v := .ref nc) (C := RX1) (T := TX1) (N := 2) hx hb hts hin1 hown hK hP 13 rfl rfl 0 (by decide) (hts (.fieldLink RX1 21 "MissedPoints$Memo" "cells" "[I") (by decide +kernel)) (fun _ h9 => h9) rfl dX1_forget_14 ?_
      refine va_alen hx hb hK hP 14 0 rfl rfl (v := nI N) rfl dX1_forget_17 ?_
      refine lv_icmp_ge (tgt := 34) hx hb dX1_forget_18 (by decide) (fun c33837 => ?_) (fun c33837 => ?_)
      · refine lv_aload_n hx hb dX1_forget_34 rfl (lv_at hl 0 rfl) ?_
        refine lv_iconst (v := 0) hx hb dX1_forget_35 (by decide) ?_
        refine va_put (D := D) (ci := 1) (v := .int 0) (ty := .int) (C := RX1) (T := TX1) (N := 2) hx hb hts hin1 tyX1 tyX1_ok nmX1 hown hK hP hD hS 13 rfl rfl 1 (by decide) (hts (.fieldLink RX1 9 "MissedPoints$Memo" "age" "I") (by decide +kernel)) (fun _ h9 => h9) rfl (by decide +kernel) rfl rfl (Nat.le_of_ble_eq_true rfl) dX1_forget_36 (fun H locs hP hD hS => ?_)
        rw [sxf_13_1] at hP hD
        generalize sU u 13 _ = u at hP hD
        refine lv_aload_n hx hb dX1_forget_39 rfl (lv_at hl 0 rfl) ?_
        refine lv_dup hx hb dX1_forget_40 rfl ?_
        refine va_get (D := D) (ci := 1) (v := .int (u 13 1)) (C := RX1) (T := TX1) (N := 2) hx hb hts hin1 hown hK hP 13 rfl rfl 1 (by decide) (hts (.fieldLink RX1 9 "MissedPoints$Memo" "age" "I") (by decide +kernel)) (fun _ h9 => h9) rfl dX1_forget_41 ?_
        refine wk_any (fun r33838 => ?_)
        refine lv_iconst (v := 1) hx hb dX1_forget_44 (by decide) ?_
        refine lv_iadd hx hb dX1_forget_45 ?_
        refine wk_topP (P := fun r => r = r33838 + (1 : Int32)) rfl (fun r33839 qr33839 => ?_)
        refine va_put (D := D) (ci := 1) (v := .int r33839) (ty := .int) (C := RX1) (T := TX1) (N := 2) hx hb hts hin1 tyX1 tyX1_ok nmX1 hown hK hP hD hS 13 rfl rfl 1 (by decide) (hts (.fieldLink RX1 9 "MissedPoints$Memo" "age" "I") (by decide +kernel)) (fun _ h9 => h9) rfl (by decide +kernel) rfl rfl (Nat.le_of_ble_eq_true rfl) dX1_forget_46 (fun H locs hP hD hS => ?_)
        rw [sxf_13_1] at hP hD
        generalize sU u 13 _ = u at hP hD
        subst hAe
        exact W.vret hx hb hr (fun t ht hW => ⟨⟨u, rfl, trivial, by rw [ht]; exact hP, hD⟩, hS.F ht⟩) hS.2.2 dX1_forget_49
      · have g33840 : Rg 1 24576 (nI N) := rg_ltr g12_l1 (wk_N hN) (rg_nle c33837) (by decide)
        have g33841 : Rg 0 24575 y12_l1 := rg_ltl g12_l1 (wk_N hN) (rg_nle c33837) (by decide)
        refine lv_aload_n hx hb dX1_forget_21 rfl (lv_at hl 0 rfl) ?_
        refine va_get (D := D) (ci := 1) (v := .ref nc) (C := RX1) (T := TX1) (N := 2) hx hb hts hin1 hown hK hP 13 rfl rfl 0 (by decide) (hts (.fieldLink RX1 21 "MissedPoints$Memo" "cells" "[I") (by decide +kernel)) (fun _ h9 => h9) rfl dX1_forget_22 ?_
        refine lv_iload_n hx hb dX1_forget_25 rfl (lv_at hl 1 rfl) ?_
        refine lv_iconst (v := 0) hx hb dX1_forget_26 (by decide) ?_
        refine ks_ast hx hb hK hP hD hS rfl (k := 14) rfl sx_14 (wk_inN hN g33841.1 (rg_nle c33837)) dX1_forget_27 (fun u H locs hP hD hS => ?_)
        refine wk_iinc (lv' := fun r => [(1, .int r), (0, .ref na)]) (e1 := 1) (f := 24576) hx hb dX1_forget_28 hl (k := 1) rfl (by decide) g33841 (by decide) (fun _ => rfl) (fun r33842 ls hr33842 er33842 hl => ?_)
        refine lv_goto (tgt := 12) hx hb dX1_forget_31 (by decide) ?_
        exact ih12 r33842 u _ _ ls (show Rg 0 28671 r33842 from rg_w hr33842 (by decide) (by decide)) hP hD hS (lv_sub (l' := [(0, .ref na), (1, .int r33842)]) hl [1, 0] rfl) (me_up hm12 er33842 (by decide))
  refine lv_aload_n hx hb dX1_forget_0 rfl (lv_at hl 0 rfl) ?_
  refine va_get (D := D) (ci := 1) (v := .int (u 13 1)) (C := RX1) (T := TX1) (N := 2) hx hb hts hin1 hown hK hP 13 rfl rfl 1 (by decide) (hts (.fieldLink RX1 9 "MissedPoints$Memo" "age" "I") (by decide +kernel)) (fun _ h9 => h9) rfl dX1_forget_1 ?_
  refine wk_any (fun r33843 => ?_)
  refine lv_sipush (v := 32767) hx hb dX1_forget_4 (by decide) ?_
  refine lv_icmp_ne (tgt := 39) hx hb dX1_forget_7 (by decide) (fun c33844 => ?_) (fun c33844 => ?_)
  · refine lv_aload_n hx hb dX1_forget_39 rfl (lv_at hl 0 rfl) ?_
    refine lv_dup hx hb dX1_forget_40 rfl ?_
    refine va_get (D := D) (ci := 1) (v := .int (u 13 1)) (C := RX1) (T := TX1) (N := 2) hx hb hts hin1 hown hK hP 13 rfl rfl 1 (by decide) (hts (.fieldLink RX1 9 "MissedPoints$Memo" "age" "I") (by decide +kernel)) (fun _ h9 => h9) rfl dX1_forget_41 ?_
    refine wk_any (fun r33845 => ?_)
    refine lv_iconst (v := 1) hx hb dX1_forget_44 (by decide) ?_
    refine lv_iadd hx hb dX1_forget_45 ?_
    refine wk_topP (P := fun r => r = r33845 + (1 : Int32)) rfl (fun r33846 qr33846 => ?_)
    refine va_put (D := D) (ci := 1) (v := .int r33846) (ty := .int) (C := RX1) (T := TX1) (N := 2) hx hb hts hin1 tyX1 tyX1_ok nmX1 hown hK hP hD hS 13 rfl rfl 1 (by decide) (hts (.fieldLink RX1 9 "MissedPoints$Memo" "age" "I") (by decide +kernel)) (fun _ h9 => h9) rfl (by decide +kernel) rfl rfl (Nat.le_of_ble_eq_true rfl) dX1_forget_46 (fun H locs hP hD hS => ?_)
    rw [sxf_13_1] at hP hD
    generalize sU u 13 _ = u at hP hD
    subst hAe
    exact W.vret hx hb hr (fun t ht hW => ⟨⟨u, rfl, trivial, by rw [ht]; exact hP, hD⟩, hS.F ht⟩) hS.2.2 dX1_forget_49
  · have g33847 : Rg 32767 32767 r33843 := wk_eql (rg_any r33843) (by decide : Rg 32767 32767 (32767 : Int32)) c33844 (by decide)
    refine lv_iconst (v := 0) hx hb dX1_forget_10 (by decide) ?_
    refine lv_istore_n (lv' := [(1, .int 0), (0, .ref na)]) hx hb dX1_forget_11 rfl hl (by decide) rfl (fun ls hl => ?_)
    exact lp12 28672 (0 : Int32) u _ _ ls (by decide : Rg 0 28671 (0 : Int32)) hP hD hS (lv_sub (l' := [(0, .ref na), (1, .int 0)]) hl [1, 0] rfl) (me_i (by decide : Rg 0 28671 (0 : Int32)) (by decide))
set_option maxHeartbeats 4000000 in
set_option maxRecDepth 100000 in
theorem k_X3_notice (l : Launch) (D : va_G) (cI cS : ClassId) (sz : Nat) (a : Nat → Nat) (na nc N : Nat) (L u0 : SU) (hL : TyX L) (hN : N = 0 ∨ N = 24576) : Met l yX3_notice wsX3_notice ({ frames := 1, cells := 0, slots := 0, locals := 40 }) (PQ D cI cS (wX cI cS a na nc N L u0) sz [.ref (a 7)]) (QE (S := SU) D (wX cI cS a na nc N L u0) (wX cI cS a na nc N L) sz (fun _ => True)) 0 0 (va_A (wX cI cS a na nc N L u0) sz) := by
  refine Met.ofW (cc := cX3_notice) (maxL := 1) (ret := none) (by decide) rfl ?_
  intro p e s m args below meth c s₁ B hml hv
  obtain ⟨rfl, hsz, hP, hKK, hD0⟩ := hv
  have hx := B.exec
  have hb := B.bytes
  have hr := B.returns
  have hts := atoms_spec (ws := wsX3_notice) B.pre
  have hown : s.vm.findClass RX3 = some m.cls := findClass_of_methodNamed B.named
  have hlocks := B.notSynchronized
  have hK := hKK.1
  have hin2 : ∀ w ∈ wsX20, w ∈ wsX3_notice := by decide +kernel
  have hin3 : ∀ w ∈ wsX30, w ∈ wsX3_notice := by decide +kernel
  subst hsz
  have hD := hD0.self (sz := s.heap.size)
  obtain ⟨A, hAe⟩ : ∃ A, A = va_A (wX cI cS a na nc N L u0) s.heap.size := ⟨_, rfl⟩
  rw [← hAe] at hD
  have hA : ∀ q : Nat, s.heap.size ≤ q → A q := fun q h => by rw [hAe]; exact Or.inr h
  have hS : va_S A s.heap s.heap [] := va_S.rf
  have hl := lv_entry ([.ref (a 7)]) (n := 1) (Nat.le_of_ble_eq_true rfl)
  rw [lg_entry_eq]
  generalize (lg_sl ([.ref (a 7)]) ++ List.replicate (1 - (lg_sl ([.ref (a 7)])).length) Slot.unset).toArray = ls at hl ⊢
  have hl : lv_has ls 1 [(0, .ref (a 7))] := hl
  obtain ⟨u, hu9⟩ : ∃ u : SU, u = u0 := ⟨_, rfl⟩
  rw [← hu9] at hP hD
  refine lv_aload_n hx hb dX3_notice_0 rfl (lv_at hl 0 rfl) ?_
  refine va_get (D := D) (ci := 3) (v := .int (u 7 3)) (C := RX3) (T := TX3) (N := 4) hx hb hts hin3 hown hK hP 7 rfl rfl 3 (by decide) (hts (.fieldLink RX3 27 "MissedPoints$Pairs" "changesSeen" "I") (by decide +kernel)) (fun _ h9 => h9) rfl dX3_notice_1 ?_
  refine wk_any (fun r33854 => ?_)
  refine lv_aload_n hx hb dX3_notice_4 rfl (lv_at hl 0 rfl) ?_
  refine va_get (D := D) (ci := 3) (v := .ref (a 1)) (C := RX3) (T := TX3) (N := 4) hx hb hts hin3 hown hK hP 7 rfl rfl 0 (by decide) (hts (.fieldLink RX3 23 "MissedPoints$Pairs" "net" "LMissedPoints$Net;") (by decide +kernel)) (fun _ h9 => h9) rfl dX3_notice_5 ?_
  refine va_getN (D := D) (ci := 2) (v := .int (u 1 2)) (C := RX2) (T := TX2) (N := 3) hx hb hts hin2 hown hK hP 1 rfl rfl 2 (by decide) (va_Nw.use rfl hKK.2.2.2.2.2.2.2.2.2.2.2.1) (fun _ h9 => h9) rfl dX3_notice_8 ?_
  refine wk_any (fun r33855 => ?_)
  refine lv_icmp_eq (tgt := 39) hx hb dX3_notice_11 (by decide) (fun c33856 => ?_) (fun c33856 => ?_)
  · subst hAe
    exact W.vret hx hb hr (fun t ht hW => ⟨⟨u, rfl, trivial, by rw [ht]; exact hP, hD⟩, hS.F ht⟩) hS.2.2 dX3_notice_39
  · refine lv_aload_n hx hb dX3_notice_14 rfl (lv_at hl 0 rfl) ?_
    refine lv_aload_n hx hb dX3_notice_15 rfl (lv_at hl 0 rfl) ?_
    refine va_get (D := D) (ci := 3) (v := .ref (a 1)) (C := RX3) (T := TX3) (N := 4) hx hb hts hin3 hown hK hP 7 rfl rfl 0 (by decide) (hts (.fieldLink RX3 23 "MissedPoints$Pairs" "net" "LMissedPoints$Net;") (by decide +kernel)) (fun _ h9 => h9) rfl dX3_notice_16 ?_
    refine va_getN (D := D) (ci := 2) (v := .int (u 1 2)) (C := RX2) (T := TX2) (N := 3) hx hb hts hin2 hown hK hP 1 rfl rfl 2 (by decide) (va_Nw.use rfl hKK.2.2.2.2.2.2.2.2.2.2.2.1) (fun _ h9 => h9) rfl dX3_notice_19 ?_
    refine wk_any (fun r33857 => ?_)
    refine va_put (D := D) (ci := 3) (v := .int r33857) (ty := .int) (C := RX3) (T := TX3) (N := 4) hx hb hts hin3 tyX3 tyX3_ok nmX3 hown hK hP hD hS 7 rfl rfl 3 (by decide) (hts (.fieldLink RX3 27 "MissedPoints$Pairs" "changesSeen" "I") (by decide +kernel)) (fun _ h9 => h9) rfl (by decide +kernel) rfl rfl (Nat.le_of_ble_eq_true rfl) dX3_notice_22 (fun H locs hP hD hS => ?_)
    rw [sxf_7_3] at hP hD
    generalize sU u 7 _ = u at hP hD
    refine lv_aload_n hx hb dX3_notice_25 rfl (lv_at hl 0 rfl) ?_
    refine va_get (D := D) (ci := 3) (v := .ref (a 9)) (C := RX3) (T := TX3) (N := 4) hx hb hts hin3 hown hK hP 7 rfl rfl 1 (by decide) (hts (.fieldLink RX3 14 "MissedPoints$Pairs" "mosts" "LMissedPoints$Memo;") (by decide +kernel)) (fun _ h9 => h9) rfl dX3_notice_26 ?_
    refine wk_qv (wX cI cS a na nc N L) u (As := []) (rest := []) ⟨hx, hb, hml, hown, hts⟩ (k_X1_forget l D cI cS _ a na nc N L u hL hN) hKK hP hD hS hA 9 (ci := 1) rfl rfl (cwV 0 hts gX3_notice_X1_forget rfl rfl rfl (by decide +kernel) ⟨Nat.le_of_ble_eq_true rfl, Nat.le_of_ble_eq_true rfl⟩) rfl hl.1 rfl (Nat.le_of_ble_eq_true rfl) dX3_notice_29 ⟨Nat.le_of_ble_eq_true rfl, Nat.le_of_ble_eq_true rfl⟩ (fun u H locs hr33858 hP hD hS => ?_)
    refine lv_aload_n hx hb dX3_notice_32 rfl (lv_at hl 0 rfl) ?_
    refine va_get (D := D) (ci := 3) (v := .ref na) (C := RX3) (T := TX3) (N := 4) hx hb hts hin3 hown hK hP 7 rfl rfl 2 (by decide) (hts (.fieldLink RX3 20 "MissedPoints$Pairs" "numbers" "LMissedPoints$Memo;") (by decide +kernel)) (fun _ h9 => h9) rfl dX3_notice_33 ?_
    refine wk_qv (wX cI cS a na nc N L) u (As := []) (rest := []) ⟨hx, hb, hml, hown, hts⟩ (k_X1_forget_13 l D cI cS _ a na nc N L u hL hN) hKK hP hD hS hA 13 (ci := 1) rfl rfl (cwV 0 hts gX3_notice_X1_forget rfl rfl rfl (by decide +kernel) ⟨Nat.le_of_ble_eq_true rfl, Nat.le_of_ble_eq_true rfl⟩) rfl hl.1 rfl (Nat.le_of_ble_eq_true rfl) dX3_notice_36 ⟨Nat.le_of_ble_eq_true rfl, Nat.le_of_ble_eq_true rfl⟩ (fun u H locs hr33859 hP hD hS => ?_)
    subst hAe
    exact W.vret hx hb hr (fun t ht hW => ⟨⟨u, rfl, trivial, by rw [ht]; exact hP, hD⟩, hS.F ht⟩) hS.2.2 dX3_notice_39
set_option maxHeartbeats 8000000 in
set_option maxRecDepth 100000 in
theorem k_X3_bestOf_r (l : Launch) (D : va_G) (cI cS : ClassId) (a : Nat → Nat) (na nc N : Nat) (L : SU) (hL : TyX L) (hN : N = 0 ∨ N = 24576) : ∀ (n sz : Nat) (u0 : SU) (x0 x1 : Int32), Rg 0 13 x1 → 13 - x1.toInt ≤ (n : Int) → Met l yX3_bestOf wsX3_bestOf ({ frames := n + 1, cells := 0, slots := 0, locals := 40 * (n + 1) }) (PQ D cI cS (wX cI cS a na nc N L u0) sz [.ref (a 7), .int x0, .int x1]) (QF (S := SU) D (wX cI cS a na nc N L u0) (wX cI cS a na nc N L) sz (fun r _ => Rg 0 65549 r ∧ r.toInt ≤ 65549 - x1.toInt)) 0 0 (va_A (wX cI cS a na nc N L u0) sz) := by
  intro n
  induction n with
  | zero =>
    intro sz u0 x0 x1 px1 hrk
    have px1 : Rg 13 13 x1 := ⟨by omega, px1.2⟩
    refine Met.ofW (cc := cX3_bestOf) (maxL := 11) (ret := (some .int)) (by decide) rfl ?_
    intro p e s m args below meth c s₁ B hml hv
    obtain ⟨rfl, hsz, hP, hKK, hD0⟩ := hv
    have hx := B.exec
    have hb := B.bytes
    have hr := B.returns
    have hts := atoms_spec (ws := wsX3_bestOf) B.pre
    have hown : s.vm.findClass RX3 = some m.cls := findClass_of_methodNamed B.named
    have hlocks := B.notSynchronized
    have hK := hKK.1
    subst hsz
    have hD := hD0.self (sz := s.heap.size)
    obtain ⟨A, hAe⟩ : ∃ A, A = va_A (wX cI cS a na nc N L u0) s.heap.size := ⟨_, rfl⟩
    rw [← hAe] at hD
    have hA : ∀ q : Nat, s.heap.size ≤ q → A q := fun q h => by rw [hAe]; exact Or.inr h
    have hS : va_S A s.heap s.heap [] := va_S.rf
    have hl := lv_entry ([.ref (a 7), .int x0, .int x1]) (n := 11) (Nat.le_of_ble_eq_true rfl)
    rw [lg_entry_eq]
    generalize (lg_sl ([.ref (a 7), .int x0, .int x1]) ++ List.replicate (11 - (lg_sl ([.ref (a 7), .int x0, .int x1])).length) Slot.unset).toArray = ls at hl ⊢
    have hl : lv_has ls 11 [(0, .ref (a 7)), (1, .int x0), (2, .int x1)] := hl
    obtain ⟨u, hu9⟩ : ∃ u : SU, u = u0 := ⟨_, rfl⟩
    rw [← hu9] at hP hD
    refine lv_bipush (v := 31) hx hb dX3_bestOf_0 (by decide) ?_
    refine lv_iload_n hx hb dX3_bestOf_2 rfl (lv_at hl 1 rfl) ?_
    refine lz_ss (As := [.int x0]) (rest := [.int 31]) ⟨hx, hb, hml, hown, hts⟩ (k_J6_numberOfLeadingZeros_0f7a4 l D cI cS x0) hKK (hP.sub (ws' := []) [] rfl) (va_cwS 1 hts gX3_bestOf_J6_numberOfLeadingZeros_0f7a4 rfl rfl rfl (by decide +kernel) ⟨by show 0 + 1 ≤ 0 + 1; omega, by show 8 + (2 + 11) + 0 ≤ 40 * (0 + 1); omega⟩) rfl hl.1 rfl (Nat.le_of_ble_eq_true rfl) dX3_bestOf_3 ⟨Nat.le_of_ble_eq_true rfl, Nat.le_of_ble_eq_true rfl⟩ (fun r33869 hr33869 => ?_)
    refine wk_isub (e1 := (-1)) (f := 31) hx hb dX3_bestOf_6 (by decide : Rg 31 31 (31 : Int32)) hr33869.1 (by decide) (fun r33870 hr33870 er33870 qr33870 => ?_)
    refine lv_istore_n (lv' := [(3, .int r33870), (0, .ref (a 7)), (1, .int x0), (2, .int x1)]) hx hb dX3_bestOf_7 rfl hl (by decide) rfl (fun ls hl => ?_)
    refine lv_iload_n hx hb dX3_bestOf_8 rfl (lv_at hl 0 rfl) ?_
    refine lv_iconst (v := 1) hx hb dX3_bestOf_9 (by decide) ?_
    refine lv_icmp_lt (tgt := 25) hx hb dX3_bestOf_10 (by decide) (fun c33871 => ?_) (fun c33871 => ?_)
    · have g33872 : Rg (-1) 0 r33870 := rg_ltl hr33870 (by decide : Rg 1 1 (1 : Int32)) c33871 (by decide)
      refine lv_iconst (v := 0) hx hb dX3_bestOf_25 (by decide) ?_
      subst hAe
      exact W.iret (v := 0) hx hb hr (fun t ht hW => ⟨⟨_, u, rfl, ⟨(by decide : Rg 0 65549 (0 : Int32)), (by have z1 := px1; have z2 : (0 : Int32).toInt = 0 := (by decide); omega)⟩, by rw [ht]; exact hP, hD⟩, hS.F ht⟩) hS.2.2 dX3_bestOf_26
    · have g33873 : Rg 1 31 r33870 := rg_ler (by decide : Rg 1 1 (1 : Int32)) hr33870 (rg_nlt c33871) (by decide)
      refine lv_iload_n hx hb dX3_bestOf_13 rfl (lv_at hl 0 rfl) ?_
      refine lv_bipush (v := 12) hx hb dX3_bestOf_14 (by decide) ?_
      refine lv_icmp_ge (tgt := 25) hx hb dX3_bestOf_16 (by decide) (fun c33874 => ?_) (fun c33874 => ?_)
      · have g33875 : Rg 12 31 r33870 := rg_ler (by decide : Rg 12 12 (12 : Int32)) g33873 c33874 (by decide)
        refine lv_iconst (v := 0) hx hb dX3_bestOf_25 (by decide) ?_
        subst hAe
        exact W.iret (v := 0) hx hb hr (fun t ht hW => ⟨⟨_, u, rfl, ⟨(by decide : Rg 0 65549 (0 : Int32)), (by have z1 := px1; have z2 : (0 : Int32).toInt = 0 := (by decide); omega)⟩, by rw [ht]; exact hP, hD⟩, hS.F ht⟩) hS.2.2 dX3_bestOf_26
      · have g33876 : Rg 1 11 r33870 := rg_ltl g33873 (by decide : Rg 12 12 (12 : Int32)) (rg_nle c33874) (by decide)
        refine lv_iload_n hx hb dX3_bestOf_19 rfl (lv_at hl 3 rfl) ?_
        refine lv_bipush (v := 12) hx hb dX3_bestOf_20 (by decide) ?_
        refine lv_icmp_le (tgt := 27) hx hb dX3_bestOf_22 (by decide) (fun c33877 => ?_) (fun c33877 => ?_)
        · exact absurd c33877 (wk_nle px1 (by decide : Rg 12 12 (12 : Int32)) (by decide))
        · refine lv_iconst (v := 0) hx hb dX3_bestOf_25 (by decide) ?_
          subst hAe
          exact W.iret (v := 0) hx hb hr (fun t ht hW => ⟨⟨_, u, rfl, ⟨(by decide : Rg 0 65549 (0 : Int32)), (by have z1 := px1; have z2 : (0 : Int32).toInt = 0 := (by decide); omega)⟩, by rw [ht]; exact hP, hD⟩, hS.F ht⟩) hS.2.2 dX3_bestOf_26
  | succ n ih =>
    intro sz u0 x0 x1 px1 hrk
    refine Met.ofW (cc := cX3_bestOf) (maxL := 11) (ret := (some .int)) (by decide) rfl ?_
    intro p e s m args below meth c s₁ B hml hv
    obtain ⟨rfl, hsz, hP, hKK, hD0⟩ := hv
    have hx := B.exec
    have hb := B.bytes
    have hr := B.returns
    have hts := atoms_spec (ws := wsX3_bestOf) B.pre
    have hown : s.vm.findClass RX3 = some m.cls := findClass_of_methodNamed B.named
    have hlocks := B.notSynchronized
    have hK := hKK.1
    have hin2 : ∀ w ∈ wsX20, w ∈ wsX3_bestOf := by decide +kernel
    have hin3 : ∀ w ∈ wsX30, w ∈ wsX3_bestOf := by decide +kernel
    subst hsz
    have hD := hD0.self (sz := s.heap.size)
    obtain ⟨A, hAe⟩ : ∃ A, A = va_A (wX cI cS a na nc N L u0) s.heap.size := ⟨_, rfl⟩
    rw [← hAe] at hD
    have hA : ∀ q : Nat, s.heap.size ≤ q → A q := fun q h => by rw [hAe]; exact Or.inr h
    have hS : va_S A s.heap s.heap [] := va_S.rf
    have hl := lv_entry ([.ref (a 7), .int x0, .int x1]) (n := 11) (Nat.le_of_ble_eq_true rfl)
    rw [lg_entry_eq]
    generalize (lg_sl ([.ref (a 7), .int x0, .int x1]) ++ List.replicate (11 - (lg_sl ([.ref (a 7), .int x0, .int x1])).length) Slot.unset).toArray = ls at hl ⊢
    have hl : lv_has ls 11 [(0, .ref (a 7)), (1, .int x0), (2, .int x1)] := hl
    obtain ⟨u, hu9⟩ : ∃ u : SU, u = u0 := ⟨_, rfl⟩
    rw [← hu9] at hP hD
    have lp106 : ∀ (n106 : Nat) (y106_l3 : Int32) (y106_l5 : Int32) (y106_l6 : Int32) (y106_l7 : Int32) (y106_l8 : Int32) (y106_l9 : Int32) (y106_l10 : Int32) (u : SU) (H : Heap) (locs : List Loc) (ls : Array Slot), Rg 0 12 x1 → Rg 1 11 y106_l3 → Rg 0 65548 y106_l7 → Rg 0 65549 y106_l8 → Rg 0 1 y106_l9 → Rg 0 11 y106_l10 → (y106_l8.toInt ≤ 65549 - x1.toInt ∧ y106_l7.toInt ≤ 65548 - x1.toInt) → va_P D cls (wX cI cS a na nc N L u) H → va_D A (wX cI cS a na nc N L u) → va_S A s.heap H locs → lv_has ls 11 [(0, .ref (a 7)), (1, .int x0), (2, .int x1), (3, .int y106_l3), (5, .int y106_l5), (6, .int y106_l6), (7, .int y106_l7), (8, .int y106_l8), (9, .int y106_l9), (10, .int y106_l10)] → 11 - y106_l10.toInt < (n106 : Int) → W p l e (headSpec wsX3_bestOf ({ frames := n + 1 + 1, cells := 0, slots := 0, locals := 40 * (n + 1 + 1) })).room s m ([.ref (a 7), .int x0, .int x1]).toArray below meth c H locs 0 0 (MQ below (QF (S := SU) D (wX cI cS a na nc N L u0) (wX cI cS a na nc N L) s.heap.size (fun r _ => Rg 0 65549 r ∧ r.toInt ≤ 65549 - x1.toInt)) ([.ref (a 7), .int x0, .int x1]).toArray s 0 0 (va_A (wX cI cS a na nc N L u0) s.heap.size)) (F0 m 106 ls []) := by
      intro n106
      induction n106 with
      | zero =>
        intro y106_l3 y106_l5 y106_l6 y106_l7 y106_l8 y106_l9 y106_l10 u H locs ls g106_l2 g106_l3 g106_l7 g106_l8 g106_l9 g106_l10 x106_0 hP hD hS hl hm106
        exact absurd rfl (me_z g106_l10 hm106)
      | succ n106 ih106 =>
        intro y106_l3 y106_l5 y106_l6 y106_l7 y106_l8 y106_l9 y106_l10 u H locs ls g106_l2 g106_l3 g106_l7 g106_l8 g106_l9 g106_l10 x106_0 hP hD hS hl hm106
        refine lv_iload hx hb dX3_bestOf_106 (lv_at hl 9 rfl) ?_
        refine lv_iload_n hx hb dX3_bestOf_108 rfl (lv_at hl 3 rfl) ?_
        refine lv_icmp_ge (tgt := 164) hx hb dX3_bestOf_109 (by decide) (fun c34337 => ?_) (fun c34337 => ?_)
        · have g34338 : Rg 1 11 y106_l10 := rg_ler g106_l3 g106_l10 c34337 (by decide)
          refine lv_aload_n hx hb dX3_bestOf_164 rfl (lv_at hl 0 rfl) ?_
          refine va_get (D := D) (ci := 3) (v := .ref (a 9)) (C := RX3) (T := TX3) (N := 4) hx hb hts hin3 hown hK hP 7 rfl rfl 1 (by decide) (hts (.fieldLink RX3 14 "MissedPoints$Pairs" "mosts" "LMissedPoints$Memo;") (by decide +kernel)) (fun _ h9 => h9) rfl dX3_bestOf_165 ?_
          refine lv_iload_n hx hb dX3_bestOf_168 rfl (lv_at hl 1 rfl) ?_
          refine lv_iload hx hb dX3_bestOf_169 (lv_at hl 7 rfl) ?_
          refine wk_qv (wX cI cS a na nc N L) u (As := [.int x0, .int y106_l8]) (rest := []) ⟨hx, hb, hml, hown, hts⟩ (k_X1_keep l D cI cS _ a na nc N L u hL hN x0 y106_l8) hKK hP hD hS hA 9 (ci := 1) rfl rfl (cwV 2 hts gX3_bestOf_X1_keep rfl rfl rfl (by decide +kernel) ⟨by show 0 + 1 ≤ (n + 1) + 1; omega, by show 8 + (3 + 11) + 0 ≤ 40 * ((n + 1) + 1); omega⟩) rfl hl.1 rfl (Nat.le_of_ble_eq_true rfl) dX3_bestOf_171 ⟨Nat.le_of_ble_eq_true rfl, Nat.le_of_ble_eq_true rfl⟩ (fun u H locs hr34339 hP hD hS => ?_)
          refine lv_iload hx hb dX3_bestOf_174 (lv_at hl 7 rfl) ?_
          subst hAe
          exact W.iret (v := y106_l8) hx hb hr (fun t ht hW => ⟨⟨_, u, rfl, ⟨g106_l8, x106_0.1⟩, by rw [ht]; exact hP, hD⟩, hS.F ht⟩) hS.2.2 dX3_bestOf_176
        · have g34340 : Rg 0 10 y106_l10 := rg_ltl g106_l10 g106_l3 (rg_nle c34337) (by decide)
          refine lv_iload hx hb dX3_bestOf_112 (lv_at hl 8 rfl) ?_
          refine lv_if_eq (tgt := 164) hx hb dX3_bestOf_114 (by decide) (fun c34341 => ?_) (fun c34341 => ?_)
          · have g34342 : Rg 0 0 y106_l9 := wk_eql g106_l9 (by decide : Rg 0 0 (0 : Int32)) c34341 (by decide)
            refine lv_aload_n hx hb dX3_bestOf_164 rfl (lv_at hl 0 rfl) ?_
            refine va_get (D := D) (ci := 3) (v := .ref (a 9)) (C := RX3) (T := TX3) (N := 4) hx hb hts hin3 hown hK hP 7 rfl rfl 1 (by decide) (hts (.fieldLink RX3 14 "MissedPoints$Pairs" "mosts" "LMissedPoints$Memo;") (by decide +kernel)) (fun _ h9 => h9) rfl dX3_bestOf_165 ?_
            refine lv_iload_n hx hb dX3_bestOf_168 rfl (lv_at hl 1 rfl) ?_
            refine lv_iload hx hb dX3_bestOf_169 (lv_at hl 7 rfl) ?_
            refine wk_qv (wX cI cS a na nc N L) u (As := [.int x0, .int y106_l8]) (rest := []) ⟨hx, hb, hml, hown, hts⟩ (k_X1_keep l D cI cS _ a na nc N L u hL hN x0 y106_l8) hKK hP hD hS hA 9 (ci := 1) rfl rfl (cwV 2 hts gX3_bestOf_X1_keep rfl rfl rfl (by decide +kernel) ⟨by show 0 + 1 ≤ (n + 1) + 1; omega, by show 8 + (3 + 11) + 0 ≤ 40 * ((n + 1) + 1); omega⟩) rfl hl.1 rfl (Nat.le_of_ble_eq_true rfl) dX3_bestOf_171 ⟨Nat.le_of_ble_eq_true rfl, Nat.le_of_ble_eq_true rfl⟩ (fun u H locs hr34343 hP hD hS => ?_)
            refine lv_iload hx hb dX3_bestOf_174 (lv_at hl 7 rfl) ?_
            subst hAe
            exact W.iret (v := y106_l8) hx hb hr (fun t ht hW => ⟨⟨_, u, rfl, ⟨g106_l8, x106_0.1⟩, by rw [ht]; exact hP, hD⟩, hS.F ht⟩) hS.2.2 dX3_bestOf_176
          · have g34344 : Rg 1 1 y106_l9 := rg_ne_lo (k := 0) g106_l9 (by decide) c34341 (by decide)
            refine lv_iload hx hb dX3_bestOf_117 (lv_at hl 7 rfl) ?_
            refine lv_iload hx hb dX3_bestOf_119 (lv_at hl 6 rfl) ?_
            refine lv_icmp_ne (tgt := 164) hx hb dX3_bestOf_121 (by decide) (fun c34345 => ?_) (fun c34345 => ?_)
            · refine lv_aload_n hx hb dX3_bestOf_164 rfl (lv_at hl 0 rfl) ?_
              refine va_get (D := D) (ci := 3) (v := .ref (a 9)) (C := RX3) (T := TX3) (N := 4) hx hb hts hin3 hown hK hP 7 rfl rfl 1 (by decide) (hts (.fieldLink RX3 14 "MissedPoints$Pairs" "mosts" "LMissedPoints$Memo;") (by decide +kernel)) (fun _ h9 => h9) rfl dX3_bestOf_165 ?_
              refine lv_iload_n hx hb dX3_bestOf_168 rfl (lv_at hl 1 rfl) ?_
              refine lv_iload hx hb dX3_bestOf_169 (lv_at hl 7 rfl) ?_
              refine wk_qv (wX cI cS a na nc N L) u (As := [.int x0, .int y106_l8]) (rest := []) ⟨hx, hb, hml, hown, hts⟩ (k_X1_keep l D cI cS _ a na nc N L u hL hN x0 y106_l8) hKK hP hD hS hA 9 (ci := 1) rfl rfl (cwV 2 hts gX3_bestOf_X1_keep rfl rfl rfl (by decide +kernel) ⟨by show 0 + 1 ≤ (n + 1) + 1; omega, by show 8 + (3 + 11) + 0 ≤ 40 * ((n + 1) + 1); omega⟩) rfl hl.1 rfl (Nat.le_of_ble_eq_true rfl) dX3_bestOf_171 ⟨Nat.le_of_ble_eq_true rfl, Nat.le_of_ble_eq_true rfl⟩ (fun u H locs hr34346 hP hD hS => ?_)
              refine lv_iload hx hb dX3_bestOf_174 (lv_at hl 7 rfl) ?_
              subst hAe
              exact W.iret (v := y106_l8) hx hb hr (fun t ht hW => ⟨⟨_, u, rfl, ⟨g106_l8, x106_0.1⟩, by rw [ht]; exact hP, hD⟩, hS.F ht⟩) hS.2.2 dX3_bestOf_176
            · have g34347 : Rg 0 65548 y106_l8 := wk_eql g106_l8 g106_l7 c34345 (by decide)
              refine lv_iload hx hb dX3_bestOf_124 (lv_at hl 5 rfl) ?_
              refine lv_iload hx hb dX3_bestOf_126 (lv_at hl 9 rfl) ?_
              refine lv_ishr hx hb dX3_bestOf_128 ?_
              refine wk_topP (P := fun r => r = y106_l6 >>> (y106_l10 &&& 31)) rfl (fun r34348 qr34348 => ?_)
              refine lv_iconst (v := 1) hx hb dX3_bestOf_129 (by decide) ?_
              refine wk_iandr hx hb dX3_bestOf_130 (by decide : Rg 1 1 (1 : Int32)) (by decide) (fun r34349 hr34349 qr34349 => ?_)
              refine lv_if_eq (tgt := 158) hx hb dX3_bestOf_131 (by decide) (fun c34350 => ?_) (fun c34350 => ?_)
              · have g34351 : Rg 0 0 r34349 := wk_eql hr34349 (by decide : Rg 0 0 (0 : Int32)) c34350 (by decide)
                refine wk_iinc (lv' := fun r => [(10, .int r), (0, .ref (a 7)), (1, .int x0), (2, .int x1), (3, .int y106_l3), (5, .int y106_l5), (6, .int y106_l6), (7, .int y106_l7), (8, .int y106_l8), (9, .int y106_l9)]) (e1 := 1) (f := 11) hx hb dX3_bestOf_158 hl (k := 9) rfl (by decide) g34340 (by decide) (fun _ => rfl) (fun r34352 ls hr34352 er34352 hl => ?_)
                refine lv_goto (tgt := 106) hx hb dX3_bestOf_161 (by decide) ?_
                exact ih106 y106_l3 y106_l5 y106_l6 y106_l7 y106_l8 y106_l9 r34352 u _ _ ls g106_l2 g106_l3 g106_l7 (show Rg 0 65549 y106_l8 from rg_w g34347 (by decide) (by decide)) (show Rg 0 1 y106_l9 from rg_w g34344 (by decide) (by decide)) (show Rg 0 11 r34352 from rg_w hr34352 (by decide) (by decide)) (by exact x106_0) hP hD hS (lv_sub (l' := [(0, .ref (a 7)), (1, .int x0), (2, .int x1), (3, .int y106_l3), (5, .int y106_l5), (6, .int y106_l6), (7, .int y106_l7), (8, .int y106_l8), (9, .int y106_l9), (10, .int r34352)]) hl [1, 2, 3, 4, 5, 6, 7, 8, 9, 0] rfl) (me_up hm106 er34352 (by decide))
              · have g34353 : Rg 1 1 r34349 := rg_ne_lo (k := 0) hr34349 (by decide) c34350 (by decide)
                refine lv_aload_n hx hb dX3_bestOf_134 rfl (lv_at hl 0 rfl) ?_
                refine lv_iload hx hb dX3_bestOf_135 (lv_at hl 4 rfl) ?_
                refine lv_iconst (v := 1) hx hb dX3_bestOf_137 (by decide) ?_
                refine lv_iload hx hb dX3_bestOf_138 (lv_at hl 9 rfl) ?_
                refine wk_ishl1 (f := 1024) hx hb dX3_bestOf_140 g34340 (by decide) (fun r34354 hr34354 qr34354 => ?_)
                refine lv_iconst (v := (-1)) hx hb dX3_bestOf_141 (by decide) ?_
                refine lv_ixor hx hb dX3_bestOf_142 ?_
                refine wk_topP (P := fun r => r = r34354 ^^^ ((-1) : Int32)) rfl (fun r34355 qr34355 => ?_)
                refine lv_iand hx hb dX3_bestOf_143 ?_
                refine wk_topP (P := fun r => r = y106_l5 &&& r34355) rfl (fun r34356 qr34356 => ?_)
                refine lv_iload_n hx hb dX3_bestOf_144 rfl (lv_at hl 2 rfl) ?_
                refine lv_iconst (v := 1) hx hb dX3_bestOf_145 (by decide) ?_
                refine wk_iadd (e1 := 1) (f := 13) hx hb dX3_bestOf_146 g106_l2 (by decide : Rg 1 1 (1 : Int32)) (by decide) (fun r34357 hr34357 er34357 qr34357 => ?_)
                refine wk_qi (wX cI cS a na nc N L) u (As := [.int r34356, .int r34357]) (rest := []) ⟨hx, hb, hml, hown, hts⟩ (ih _ u r34356 r34357 ((show Rg 0 13 r34357 from rg_w hr34357 (by decide) (by decide))) (by have z1 := er34357; have z9 : (1 : Int32).toInt = 1 := (by decide); omega)) hKK hP hD hS hA 7 (ci := 3) rfl rfl (cwV 2 hts gX3_bestOf_X3_bestOf rfl rfl rfl (by decide +kernel) ⟨by show n + 1 + 1 ≤ (n + 1) + 1; omega, by show 8 + (11 + 11) + 40 * (n + 1) ≤ 40 * ((n + 1) + 1); omega⟩) rfl hl.1 rfl (Nat.le_of_ble_eq_true rfl) dX3_bestOf_147 ⟨Nat.le_of_ble_eq_true rfl, Nat.le_of_ble_eq_true rfl⟩ (fun r34358 u H locs hr34358 hP hD hS => ?_)
                have g34359 : Rg 0 65548 r34358 := ⟨hr34358.1.1, by have z1 := hr34358.2; have z2 := er34357; have z3 := px1; have z9 : (1 : Int32).toInt = 1 := (by decide); omega⟩
                refine lv_iload hx hb dX3_bestOf_150 (lv_at hl 6 rfl) ?_
                refine lv_icmp_ne (tgt := 158) hx hb dX3_bestOf_152 (by decide) (fun c34360 => ?_) (fun c34360 => ?_)
                · refine wk_iinc (lv' := fun r => [(10, .int r), (0, .ref (a 7)), (1, .int x0), (2, .int x1), (3, .int y106_l3), (5, .int y106_l5), (6, .int y106_l6), (7, .int y106_l7), (8, .int y106_l8), (9, .int y106_l9)]) (e1 := 1) (f := 11) hx hb dX3_bestOf_158 hl (k := 9) rfl (by decide) g34340 (by decide) (fun _ => rfl) (fun r34361 ls hr34361 er34361 hl => ?_)
                  refine lv_goto (tgt := 106) hx hb dX3_bestOf_161 (by decide) ?_
                  exact ih106 y106_l3 y106_l5 y106_l6 y106_l7 y106_l8 y106_l9 r34361 u _ _ ls g106_l2 g106_l3 g106_l7 (show Rg 0 65549 y106_l8 from rg_w g34347 (by decide) (by decide)) (show Rg 0 1 y106_l9 from rg_w g34344 (by decide) (by decide)) (show Rg 0 11 r34361 from rg_w hr34361 (by decide) (by decide)) (by exact x106_0) hP hD hS (lv_sub (l' := [(0, .ref (a 7)), (1, .int x0), (2, .int x1), (3, .int y106_l3), (5, .int y106_l5), (6, .int y106_l6), (7, .int y106_l7), (8, .int y106_l8), (9, .int y106_l9), (10, .int r34361)]) hl [1, 2, 3, 4, 5, 6, 7, 8, 9, 0] rfl) (me_up hm106 er34361 (by decide))
                · refine wk_iinc (lv' := fun r => [(8, .int r), (0, .ref (a 7)), (1, .int x0), (2, .int x1), (3, .int y106_l3), (5, .int y106_l5), (6, .int y106_l6), (7, .int y106_l7), (9, .int y106_l9), (10, .int y106_l10)]) (e1 := 1) (f := 65549) hx hb dX3_bestOf_155 hl (k := 7) rfl (by decide) g34347 (by decide) (fun _ => rfl) (fun r34362 ls hr34362 er34362 hl => ?_)
                  refine wk_iinc (lv' := fun r => [(10, .int r), (8, .int r34362), (0, .ref (a 7)), (1, .int x0), (2, .int x1), (3, .int y106_l3), (5, .int y106_l5), (6, .int y106_l6), (7, .int y106_l7), (9, .int y106_l9)]) (e1 := 1) (f := 11) hx hb dX3_bestOf_158 hl (k := 9) rfl (by decide) g34340 (by decide) (fun _ => rfl) (fun r34363 ls hr34363 er34363 hl => ?_)
                  refine lv_goto (tgt := 106) hx hb dX3_bestOf_161 (by decide) ?_
                  exact ih106 y106_l3 y106_l5 y106_l6 y106_l7 r34362 y106_l9 r34363 u _ _ ls g106_l2 g106_l3 g106_l7 (show Rg 0 65549 r34362 from rg_w hr34362 (by decide) (by decide)) (show Rg 0 1 y106_l9 from rg_w g34344 (by decide) (by decide)) (show Rg 0 11 r34363 from rg_w hr34363 (by decide) (by decide)) (by have z1 := x106_0; have z2 := er34362; have z3 := congrArg Int32.toInt c34345; exact ⟨by omega, z1.2⟩) hP hD hS (lv_sub (l' := [(0, .ref (a 7)), (1, .int x0), (2, .int x1), (3, .int y106_l3), (5, .int y106_l5), (6, .int y106_l6), (7, .int y106_l7), (8, .int r34362), (9, .int y106_l9), (10, .int r34363)]) hl [2, 3, 4, 5, 6, 7, 8, 1, 9, 0] rfl) (me_up hm106 er34363 (by decide))
    refine lv_bipush (v := 31) hx hb dX3_bestOf_0 (by decide) ?_
    refine lv_iload_n hx hb dX3_bestOf_2 rfl (lv_at hl 1 rfl) ?_
    refine lz_ss (As := [.int x0]) (rest := [.int 31]) ⟨hx, hb, hml, hown, hts⟩ (k_J6_numberOfLeadingZeros_0f7a4 l D cI cS x0) hKK (hP.sub (ws' := []) [] rfl) (va_cwS 1 hts gX3_bestOf_J6_numberOfLeadingZeros_0f7a4 rfl rfl rfl (by decide +kernel) ⟨by show 0 + 1 ≤ (n + 1) + 1; omega, by show 8 + (2 + 11) + 0 ≤ 40 * ((n + 1) + 1); omega⟩) rfl hl.1 rfl (Nat.le_of_ble_eq_true rfl) dX3_bestOf_3 ⟨Nat.le_of_ble_eq_true rfl, Nat.le_of_ble_eq_true rfl⟩ (fun r34364 hr34364 => ?_)
    refine wk_isub (e1 := (-1)) (f := 31) hx hb dX3_bestOf_6 (by decide : Rg 31 31 (31 : Int32)) hr34364.1 (by decide) (fun r34365 hr34365 er34365 qr34365 => ?_)
    refine lv_istore_n (lv' := [(3, .int r34365), (0, .ref (a 7)), (1, .int x0), (2, .int x1)]) hx hb dX3_bestOf_7 rfl hl (by decide) rfl (fun ls hl => ?_)
    refine lv_iload_n hx hb dX3_bestOf_8 rfl (lv_at hl 0 rfl) ?_
    refine lv_iconst (v := 1) hx hb dX3_bestOf_9 (by decide) ?_
    refine lv_icmp_lt (tgt := 25) hx hb dX3_bestOf_10 (by decide) (fun c34366 => ?_) (fun c34366 => ?_)
    · have g34367 : Rg (-1) 0 r34365 := rg_ltl hr34365 (by decide : Rg 1 1 (1 : Int32)) c34366 (by decide)
      refine lv_iconst (v := 0) hx hb dX3_bestOf_25 (by decide) ?_
      subst hAe
      exact W.iret (v := 0) hx hb hr (fun t ht hW => ⟨⟨_, u, rfl, ⟨(by decide : Rg 0 65549 (0 : Int32)), (by have z1 := px1; have z2 : (0 : Int32).toInt = 0 := (by decide); omega)⟩, by rw [ht]; exact hP, hD⟩, hS.F ht⟩) hS.2.2 dX3_bestOf_26
    · have g34368 : Rg 1 31 r34365 := rg_ler (by decide : Rg 1 1 (1 : Int32)) hr34365 (rg_nlt c34366) (by decide)
      refine lv_iload_n hx hb dX3_bestOf_13 rfl (lv_at hl 0 rfl) ?_
      refine lv_bipush (v := 12) hx hb dX3_bestOf_14 (by decide) ?_
      refine lv_icmp_ge (tgt := 25) hx hb dX3_bestOf_16 (by decide) (fun c34369 => ?_) (fun c34369 => ?_)
      · have g34370 : Rg 12 31 r34365 := rg_ler (by decide : Rg 12 12 (12 : Int32)) g34368 c34369 (by decide)
        refine lv_iconst (v := 0) hx hb dX3_bestOf_25 (by decide) ?_
        subst hAe
        exact W.iret (v := 0) hx hb hr (fun t ht hW => ⟨⟨_, u, rfl, ⟨(by decide : Rg 0 65549 (0 : Int32)), (by have z1 := px1; have z2 : (0 : Int32).toInt = 0 := (by decide); omega)⟩, by rw [ht]; exact hP, hD⟩, hS.F ht⟩) hS.2.2 dX3_bestOf_26
      · have g34371 : Rg 1 11 r34365 := rg_ltl g34368 (by decide : Rg 12 12 (12 : Int32)) (rg_nle c34369) (by decide)
        refine lv_iload_n hx hb dX3_bestOf_19 rfl (lv_at hl 3 rfl) ?_
        refine lv_bipush (v := 12) hx hb dX3_bestOf_20 (by decide) ?_
        refine lv_icmp_le (tgt := 27) hx hb dX3_bestOf_22 (by decide) (fun c34372 => ?_) (fun c34372 => ?_)
        · have g34373 : Rg 0 12 x1 := rg_lel px1 (by decide : Rg 12 12 (12 : Int32)) c34372 (by decide)
          refine lv_aload_n hx hb dX3_bestOf_27 rfl (lv_at hl 1 rfl) ?_
          refine va_get (D := D) (ci := 3) (v := .ref (a 9)) (C := RX3) (T := TX3) (N := 4) hx hb hts hin3 hown hK hP 7 rfl rfl 1 (by decide) (hts (.fieldLink RX3 14 "MissedPoints$Pairs" "mosts" "LMissedPoints$Memo;") (by decide +kernel)) (fun _ h9 => h9) rfl dX3_bestOf_28 ?_
          refine lv_iload_n hx hb dX3_bestOf_31 rfl (lv_at hl 2 rfl) ?_
          refine wk_sv 9 (As := [.int x0]) (rest := []) ⟨hx, hb, hml, hown, hts⟩ (k_X1_recall l D cI cS a na nc N L u hL hN x0) hKK hP (ci := 1) rfl rfl (cwV 1 hts gX3_bestOf_X1_recall rfl rfl rfl (by decide +kernel) ⟨by show 0 + 1 ≤ (n + 1) + 1; omega, by show 8 + (2 + 11) + 0 ≤ 40 * ((n + 1) + 1); omega⟩) rfl hl.1 rfl (Nat.le_of_ble_eq_true rfl) dX3_bestOf_32 ⟨Nat.le_of_ble_eq_true rfl, Nat.le_of_ble_eq_true rfl⟩ (fun r34374 hr34374 => ?_)
          refine lv_istore (lv' := [(4, .int r34374), (3, .int r34365), (0, .ref (a 7)), (1, .int x0), (2, .int x1)]) hx hb dX3_bestOf_35 hl (by decide) rfl (fun ls hl => ?_)
          refine lv_iload hx hb dX3_bestOf_37 (lv_at hl 0 rfl) ?_
          refine lv_if_lt (tgt := 45) hx hb dX3_bestOf_39 (by decide) (fun c34375 => ?_) (fun c34375 => ?_)
          · have g34376 : Rg (-1) (-1) r34374 := rg_ltl hr34374.1 (by decide : Rg 0 0 (0 : Int32)) c34375 (by decide)
            refine lv_iload_n hx hb dX3_bestOf_45 rfl (lv_at hl 3 rfl) ?_
            refine lv_iconst (v := 1) hx hb dX3_bestOf_46 (by decide) ?_
            refine lv_iload_n hx hb dX3_bestOf_47 rfl (lv_at hl 1 rfl) ?_
            refine wk_ishl1 (f := 2048) hx hb dX3_bestOf_48 (show Rg 0 11 r34365 from rg_w g34371 (by decide) (by decide)) (by decide) (fun r34377 hr34377 qr34377 => ?_)
            refine lv_iconst (v := (-1)) hx hb dX3_bestOf_49 (by decide) ?_
            refine lv_ixor hx hb dX3_bestOf_50 ?_
            refine wk_topP (P := fun r => r = r34377 ^^^ ((-1) : Int32)) rfl (fun r34378 qr34378 => ?_)
            refine lv_iand hx hb dX3_bestOf_51 ?_
            refine wk_topP (P := fun r => r = x0 &&& r34378) rfl (fun r34379 qr34379 => ?_)
            refine lv_istore (lv' := [(5, .int r34379), (4, .int r34374), (3, .int r34365), (0, .ref (a 7)), (1, .int x0), (2, .int x1)]) hx hb dX3_bestOf_52 hl (by decide) rfl (fun ls hl => ?_)
            refine lv_aload_n hx hb dX3_bestOf_54 rfl (lv_at hl 3 rfl) ?_
            refine va_get (D := D) (ci := 3) (v := .ref (a 1)) (C := RX3) (T := TX3) (N := 4) hx hb hts hin3 hown hK hP 7 rfl rfl 0 (by decide) (hts (.fieldLink RX3 23 "MissedPoints$Pairs" "net" "LMissedPoints$Net;") (by decide +kernel)) (fun _ h9 => h9) rfl dX3_bestOf_55 ?_
            refine va_getN (D := D) (ci := 2) (v := .ref (a 2)) (C := RX2) (T := TX2) (N := 3) hx hb hts hin2 hown hK hP 1 rfl rfl 0 (by decide) (va_Nw.use rfl hKK.2.2.2.2.2.2.2.2.2.2.2.2.1) (fun _ h9 => h9) rfl dX3_bestOf_58 ?_
            refine lv_iload_n hx hb dX3_bestOf_61 rfl (lv_at hl 2 rfl) ?_
            refine wk_aldA hx hb hK hP 2 0 rfl rfl (rg_in g34371 (by decide) (by decide)) dX3_bestOf_62 (fun r34380 => ?_)
            refine lv_iload hx hb dX3_bestOf_63 (lv_at hl 0 rfl) ?_
            refine lv_iand hx hb dX3_bestOf_65 ?_
            refine wk_topP (P := fun r => r = r34380 &&& r34379) rfl (fun r34381 qr34381 => ?_)
            refine lv_istore (lv' := [(6, .int r34381), (5, .int r34379), (4, .int r34374), (3, .int r34365), (0, .ref (a 7)), (1, .int x0), (2, .int x1)]) hx hb dX3_bestOf_66 hl (by decide) rfl (fun ls hl => ?_)
            refine lv_aload_n hx hb dX3_bestOf_68 rfl (lv_at hl 4 rfl) ?_
            refine lv_iload hx hb dX3_bestOf_69 (lv_at hl 1 rfl) ?_
            refine lv_iload_n hx hb dX3_bestOf_71 rfl (lv_at hl 6 rfl) ?_
            refine lv_iconst (v := 1) hx hb dX3_bestOf_72 (by decide) ?_
            refine wk_iadd (e1 := 1) (f := 13) hx hb dX3_bestOf_73 g34373 (by decide : Rg 1 1 (1 : Int32)) (by decide) (fun r34382 hr34382 er34382 qr34382 => ?_)
            refine wk_qi (wX cI cS a na nc N L) u (As := [.int r34379, .int r34382]) (rest := []) ⟨hx, hb, hml, hown, hts⟩ (ih _ u r34379 r34382 ((show Rg 0 13 r34382 from rg_w hr34382 (by decide) (by decide))) (by have z1 := er34382; have z9 : (1 : Int32).toInt = 1 := (by decide); omega)) hKK hP hD hS hA 7 (ci := 3) rfl rfl (cwV 2 hts gX3_bestOf_X3_bestOf rfl rfl rfl (by decide +kernel) ⟨by show n + 1 + 1 ≤ (n + 1) + 1; omega, by show 8 + (11 + 11) + 40 * (n + 1) ≤ 40 * ((n + 1) + 1); omega⟩) rfl hl.1 rfl (Nat.le_of_ble_eq_true rfl) dX3_bestOf_74 ⟨Nat.le_of_ble_eq_true rfl, Nat.le_of_ble_eq_true rfl⟩ (fun r34383 u H locs hr34383 hP hD hS => ?_)
            have g34384 : Rg 0 65548 r34383 := ⟨hr34383.1.1, by have z1 := hr34383.2; have z2 := er34382; have z3 := px1; have z9 : (1 : Int32).toInt = 1 := (by decide); omega⟩
            refine lv_istore (lv' := [(7, .int r34383), (6, .int r34381), (5, .int r34379), (4, .int r34374), (3, .int r34365), (0, .ref (a 7)), (1, .int x0), (2, .int x1)]) hx hb dX3_bestOf_77 hl (by decide) rfl (fun ls hl => ?_)
            refine lv_iload hx hb dX3_bestOf_79 (lv_at hl 0 rfl) ?_
            refine lv_istore (lv' := [(8, .int r34383), (7, .int r34383), (6, .int r34381), (5, .int r34379), (4, .int r34374), (3, .int r34365), (0, .ref (a 7)), (1, .int x0), (2, .int x1)]) hx hb dX3_bestOf_81 hl (by decide) rfl (fun ls hl => ?_)
            refine lv_iconst (v := 2) hx hb dX3_bestOf_83 (by decide) ?_
            refine lv_iload hx hb dX3_bestOf_84 (lv_at hl 1 rfl) ?_
            refine wk_imul (f := 131096) hx hb dX3_bestOf_86 (by decide : Rg 0 2 (2 : Int32)) g34384 (by decide) (fun r34385 hr34385 er34385 qr34385 => ?_)
            refine lv_iconst (v := 2) hx hb dX3_bestOf_87 (by decide) ?_
            refine wk_iadd (e1 := 2) (f := 131098) hx hb dX3_bestOf_88 hr34385 (by decide : Rg 2 2 (2 : Int32)) (by decide) (fun r34386 hr34386 er34386 qr34386 => ?_)
            refine lv_iload_n hx hb dX3_bestOf_89 rfl (lv_at hl 7 rfl) ?_
            refine lz_ss (As := [.int x0]) (rest := [.int r34386]) ⟨hx, hb, hml, hown, hts⟩ (k_J6_bitCount_0f7a4 l D cI cS x0) hKK (hP.sub (ws' := []) [] rfl) (va_cwS 1 hts gX3_bestOf_J6_bitCount_0f7a4 rfl rfl rfl (by decide +kernel) ⟨by show 0 + 1 ≤ (n + 1) + 1; omega, by show 8 + (1 + 11) + 0 ≤ 40 * ((n + 1) + 1); omega⟩) rfl hl.1 rfl (Nat.le_of_ble_eq_true rfl) dX3_bestOf_90 ⟨Nat.le_of_ble_eq_true rfl, Nat.le_of_ble_eq_true rfl⟩ (fun r34387 hr34387 => ?_)
            refine lv_icmp_gt (tgt := 100) hx hb dX3_bestOf_93 (by decide) (fun c34388 => ?_) (fun c34388 => ?_)
            · have g34389 : Rg (-2147483648) 131097 r34387 := rg_ltl hr34387.1 hr34386 c34388 (by decide)
              refine lv_iconst (v := 0) hx hb dX3_bestOf_100 (by decide) ?_
              refine lv_istore (lv' := [(9, .int 0), (8, .int r34383), (7, .int r34383), (6, .int r34381), (5, .int r34379), (4, .int r34374), (3, .int r34365), (0, .ref (a 7)), (1, .int x0), (2, .int x1)]) hx hb dX3_bestOf_101 hl (by decide) rfl (fun ls hl => ?_)
              refine lv_iconst (v := 0) hx hb dX3_bestOf_103 (by decide) ?_
              refine lv_istore (lv' := [(10, .int 0), (9, .int 0), (8, .int r34383), (7, .int r34383), (6, .int r34381), (5, .int r34379), (4, .int r34374), (3, .int r34365), (0, .ref (a 7)), (1, .int x0), (2, .int x1)]) hx hb dX3_bestOf_104 hl (by decide) rfl (fun ls hl => ?_)
              exact lp106 12 r34365 r34379 r34381 r34383 r34383 (0 : Int32) (0 : Int32) u _ _ ls g34373 g34371 g34384 (show Rg 0 65549 r34383 from rg_w g34384 (by decide) (by decide)) (by decide : Rg 0 1 (0 : Int32)) (by decide : Rg 0 11 (0 : Int32)) (by have z1 := hr34383.2; have z2 := er34382; have z9 : (1 : Int32).toInt = 1 := (by decide); exact ⟨by omega, by omega⟩) hP hD hS (lv_sub (l' := [(0, .ref (a 7)), (1, .int x0), (2, .int x1), (3, .int r34365), (5, .int r34379), (6, .int r34381), (7, .int r34383), (8, .int r34383), (9, .int 0), (10, .int 0)]) hl [8, 9, 10, 7, 5, 4, 3, 2, 1, 0] rfl) (me_i (by decide : Rg 0 11 (0 : Int32)) (by decide))
            · have g34390 : Rg 2 2147483647 r34387 := rg_ler hr34386 hr34387.1 (rg_nlt c34388) (by decide)
              refine lv_iconst (v := 1) hx hb dX3_bestOf_96 (by decide) ?_
              refine lv_goto (tgt := 101) hx hb dX3_bestOf_97 (by decide) ?_
              refine lv_istore (lv' := [(9, .int 1), (8, .int r34383), (7, .int r34383), (6, .int r34381), (5, .int r34379), (4, .int r34374), (3, .int r34365), (0, .ref (a 7)), (1, .int x0), (2, .int x1)]) hx hb dX3_bestOf_101 hl (by decide) rfl (fun ls hl => ?_)
              refine lv_iconst (v := 0) hx hb dX3_bestOf_103 (by decide) ?_
              refine lv_istore (lv' := [(10, .int 0), (9, .int 1), (8, .int r34383), (7, .int r34383), (6, .int r34381), (5, .int r34379), (4, .int r34374), (3, .int r34365), (0, .ref (a 7)), (1, .int x0), (2, .int x1)]) hx hb dX3_bestOf_104 hl (by decide) rfl (fun ls hl => ?_)
              exact lp106 12 r34365 r34379 r34381 r34383 r34383 (1 : Int32) (0 : Int32) u _ _ ls g34373 g34371 g34384 (show Rg 0 65549 r34383 from rg_w g34384 (by decide) (by decide)) (by decide : Rg 0 1 (1 : Int32)) (by decide : Rg 0 11 (0 : Int32)) (by have z1 := hr34383.2; have z2 := er34382; have z9 : (1 : Int32).toInt = 1 := (by decide); exact ⟨by omega, by omega⟩) hP hD hS (lv_sub (l' := [(0, .ref (a 7)), (1, .int x0), (2, .int x1), (3, .int r34365), (5, .int r34379), (6, .int r34381), (7, .int r34383), (8, .int r34383), (9, .int 1), (10, .int 0)]) hl [8, 9, 10, 7, 5, 4, 3, 2, 1, 0] rfl) (me_i (by decide : Rg 0 11 (0 : Int32)) (by decide))
          · have g34391 : Rg 0 65535 r34374 := rg_ler (by decide : Rg 0 0 (0 : Int32)) hr34374.1 (rg_nlt c34375) (by decide)
            refine lv_iload hx hb dX3_bestOf_42 (lv_at hl 0 rfl) ?_
            subst hAe
            exact W.iret (v := r34374) hx hb hr (fun t ht hW => ⟨⟨_, u, rfl, ⟨(show Rg 0 65549 r34374 from rg_w g34391 (by decide) (by decide)), (by have z1 := px1; have z2 := g34391; omega)⟩, by rw [ht]; exact hP, hD⟩, hS.F ht⟩) hS.2.2 dX3_bestOf_44
        · have g34392 : Rg 13 13 x1 := rg_ltr (by decide : Rg 12 12 (12 : Int32)) px1 (rg_nle c34372) (by decide)
          refine lv_iconst (v := 0) hx hb dX3_bestOf_25 (by decide) ?_
          subst hAe
          exact W.iret (v := 0) hx hb hr (fun t ht hW => ⟨⟨_, u, rfl, ⟨(by decide : Rg 0 65549 (0 : Int32)), (by have z1 := px1; have z2 : (0 : Int32).toInt = 0 := (by decide); omega)⟩, by rw [ht]; exact hP, hD⟩, hS.F ht⟩) hS.2.2 dX3_bestOf_26
theorem k_X3_bestOf (l : Launch) (D : va_G) (cI cS : ClassId) (sz : Nat) (a : Nat → Nat) (na nc N : Nat) (L u0 : SU) (hL : TyX L) (hN : N = 0 ∨ N = 24576) (x0 x1 : Int32) (px1 : Rg 0 0 x1) : Met l yX3_bestOf wsX3_bestOf ({ frames := 13 + 1, cells := 0, slots := 0, locals := 40 * (13 + 1) }) (PQ D cI cS (wX cI cS a na nc N L u0) sz [.ref (a 7), .int x0, .int x1]) (QF (S := SU) D (wX cI cS a na nc N L u0) (wX cI cS a na nc N L) sz (fun r _ => Rg 0 65549 r ∧ r.toInt ≤ 65549 - x1.toInt)) 0 0 (va_A (wX cI cS a na nc N L u0) sz) := k_X3_bestOf_r l D cI cS a na nc N L hL hN 13 sz u0 x0 x1 (rg_w px1 (by decide) (by decide)) (by have z1 := px1; omega)
