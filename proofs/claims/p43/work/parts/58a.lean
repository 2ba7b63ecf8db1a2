theorem k_J6_bitCount_0f7a4 (l : Launch) (D : va_G) (cI cS : ClassId) (x0 : Int32) : Met l yJ6_bitCount_0f7a4 wsJ6_bitCount_0f7a4 ({ frames := 0, cells := 0, slots := 0, locals := 0 }) (PS D cI cS [] [.int x0]) (vp_Si (fun r => Rg (-2147483648) 2147483647 r ∧ (x0 = 0 → r = 0))) 0 0 (fun _ => False) :=
  met_si (c_J6_bitCount_0f7a4_1 l D cI cS x0) (fun r hr => ⟨rg_any r, fun h => by rw [hr, h]; decide⟩)
theorem dJ6_lowestOneBit_0f7a4_0 : decode cJ6_lowestOneBit_0f7a4 0 = .ok (.iload_n 0, 1) := by decide +kernel
theorem dJ6_lowestOneBit_0f7a4_1 : decode cJ6_lowestOneBit_0f7a4 1 = .ok (.iload_n 0, 1) := by decide +kernel
theorem dJ6_lowestOneBit_0f7a4_2 : decode cJ6_lowestOneBit_0f7a4 2 = .ok (.ineg, 1) := by decide +kernel
theorem dJ6_lowestOneBit_0f7a4_3 : decode cJ6_lowestOneBit_0f7a4 3 = .ok (.iand, 1) := by decide +kernel
theorem dJ6_lowestOneBit_0f7a4_4 : decode cJ6_lowestOneBit_0f7a4 4 = .ok (.ireturn, 1) := by decide +kernel
set_option maxHeartbeats 4000000 in
set_option maxRecDepth 100000 in
theorem k_J6_lowestOneBit_0f7a4 (l : Launch) (D : va_G) (cI cS : ClassId) (x0 : Int32) : Met l yJ6_lowestOneBit_0f7a4 wsJ6_lowestOneBit_0f7a4 ({ frames := 0, cells := 0, slots := 0, locals := 0 }) (PS D cI cS [] [.int x0]) (vp_Si (fun r => Rg (-2147483648) 2147483647 r ∧ True)) 0 0 (fun _ => False) := by
  refine Met.ofW (cc := cJ6_lowestOneBit_0f7a4) (maxL := 1) (ret := (some .int)) (by decide) rfl ?_
  intro p e s m args below meth c s₁ B hml hv
  obtain ⟨rfl, hP, hKK⟩ := hv
  have hx := B.exec
  have hb := B.bytes
  have hr := B.returns
  have hts := atoms_spec (ws := wsJ6_lowestOneBit_0f7a4) B.pre
  have hown : s.vm.findClass RJ6 = some m.cls := findClass_of_methodNamed B.named
  have hlocks := B.notSynchronized
  have hK := hKK.1
  have hl := lv_entry ([.int x0]) (n := 1) (Nat.le_of_ble_eq_true rfl)
  rw [lg_entry_eq]
  generalize (lg_sl ([.int x0]) ++ List.replicate (1 - (lg_sl ([.int x0])).length) Slot.unset).toArray = ls at hl ⊢
  have hl : lv_has ls 1 [(0, .int x0)] := hl
  refine lv_iload_n hx hb dJ6_lowestOneBit_0f7a4_0 rfl (lv_at hl 0 rfl) ?_
  refine lv_iload_n hx hb dJ6_lowestOneBit_0f7a4_1 rfl (lv_at hl 0 rfl) ?_
  refine lv_ineg hx hb dJ6_lowestOneBit_0f7a4_2 ?_
  refine wk_topP (P := fun r => r = -x0) rfl (fun r30967 qr30967 => ?_)
  refine lv_iand hx hb dJ6_lowestOneBit_0f7a4_3 ?_
  refine wk_topP (P := fun r => r = x0 &&& r30967) rfl (fun r30968 qr30968 => ?_)
  exact W.iret (v := r30968) hx hb hr (fun t ht hW => ⟨_, rfl, ⟨(rg_any r30968), trivial⟩, ht⟩) (fun q hq => absurd hq List.not_mem_nil) dJ6_lowestOneBit_0f7a4_4
theorem dJ6_numberOfTrailingZeros_0f7a4_0 : decode cJ6_numberOfTrailingZeros_0f7a4 0 = .ok (.iload_n 0, 1) := by decide +kernel
theorem dJ6_numberOfTrailingZeros_0f7a4_1 : decode cJ6_numberOfTrailingZeros_0f7a4 1 = .ok (.iconst (-1), 1) := by decide +kernel
theorem dJ6_numberOfTrailingZeros_0f7a4_12 : decode cJ6_numberOfTrailingZeros_0f7a4 12 = .ok (.iload_n 0, 1) := by decide +kernel
theorem dJ6_numberOfTrailingZeros_0f7a4_13 : decode cJ6_numberOfTrailingZeros_0f7a4 13 = .ok (.bipush 32, 2) := by decide +kernel
theorem dJ6_numberOfTrailingZeros_0f7a4_15 : decode cJ6_numberOfTrailingZeros_0f7a4 15 = .ok (.iand, 1) := by decide +kernel
theorem dJ6_numberOfTrailingZeros_0f7a4_16 : decode cJ6_numberOfTrailingZeros_0f7a4 16 = .ok (.ireturn, 1) := by decide +kernel
theorem dJ6_numberOfTrailingZeros_0f7a4_17 : decode cJ6_numberOfTrailingZeros_0f7a4 17 = .ok (.iconst 1, 1) := by decide +kernel
theorem dJ6_numberOfTrailingZeros_0f7a4_18 : decode cJ6_numberOfTrailingZeros_0f7a4 18 = .ok (.istore_n 1, 1) := by decide +kernel
theorem dJ6_numberOfTrailingZeros_0f7a4_19 : decode cJ6_numberOfTrailingZeros_0f7a4 19 = .ok (.iload_n 0, 1) := by decide +kernel
theorem dJ6_numberOfTrailingZeros_0f7a4_2 : decode cJ6_numberOfTrailingZeros_0f7a4 2 = .ok (.ixor, 1) := by decide +kernel
theorem dJ6_numberOfTrailingZeros_0f7a4_20 : decode cJ6_numberOfTrailingZeros_0f7a4 20 = .ok (.ldc_w 264, 3) := by decide +kernel
theorem dJ6_numberOfTrailingZeros_0f7a4_23 : decode cJ6_numberOfTrailingZeros_0f7a4 23 = .ok (.if_icmp .le 11, 3) := by decide +kernel
theorem dJ6_numberOfTrailingZeros_0f7a4_26 : decode cJ6_numberOfTrailingZeros_0f7a4 26 = .ok (.iinc 1 16, 3) := by decide +kernel
theorem dJ6_numberOfTrailingZeros_0f7a4_29 : decode cJ6_numberOfTrailingZeros_0f7a4 29 = .ok (.iload_n 0, 1) := by decide +kernel
theorem dJ6_numberOfTrailingZeros_0f7a4_3 : decode cJ6_numberOfTrailingZeros_0f7a4 3 = .ok (.iload_n 0, 1) := by decide +kernel
theorem dJ6_numberOfTrailingZeros_0f7a4_30 : decode cJ6_numberOfTrailingZeros_0f7a4 30 = .ok (.bipush 16, 2) := by decide +kernel
theorem dJ6_numberOfTrailingZeros_0f7a4_32 : decode cJ6_numberOfTrailingZeros_0f7a4 32 = .ok (.iushr, 1) := by decide +kernel
theorem dJ6_numberOfTrailingZeros_0f7a4_33 : decode cJ6_numberOfTrailingZeros_0f7a4 33 = .ok (.istore_n 0, 1) := by decide +kernel
theorem dJ6_numberOfTrailingZeros_0f7a4_34 : decode cJ6_numberOfTrailingZeros_0f7a4 34 = .ok (.iload_n 0, 1) := by decide +kernel
theorem dJ6_numberOfTrailingZeros_0f7a4_35 : decode cJ6_numberOfTrailingZeros_0f7a4 35 = .ok (.sipush 256, 3) := by decide +kernel
theorem dJ6_numberOfTrailingZeros_0f7a4_38 : decode cJ6_numberOfTrailingZeros_0f7a4 38 = .ok (.if_icmp .le 11, 3) := by decide +kernel
theorem dJ6_numberOfTrailingZeros_0f7a4_4 : decode cJ6_numberOfTrailingZeros_0f7a4 4 = .ok (.iconst 1, 1) := by decide +kernel
theorem dJ6_numberOfTrailingZeros_0f7a4_41 : decode cJ6_numberOfTrailingZeros_0f7a4 41 = .ok (.iinc 1 8, 3) := by decide +kernel
theorem dJ6_numberOfTrailingZeros_0f7a4_44 : decode cJ6_numberOfTrailingZeros_0f7a4 44 = .ok (.iload_n 0, 1) := by decide +kernel
theorem dJ6_numberOfTrailingZeros_0f7a4_45 : decode cJ6_numberOfTrailingZeros_0f7a4 45 = .ok (.bipush 8, 2) := by decide +kernel
theorem dJ6_numberOfTrailingZeros_0f7a4_47 : decode cJ6_numberOfTrailingZeros_0f7a4 47 = .ok (.iushr, 1) := by decide +kernel
theorem dJ6_numberOfTrailingZeros_0f7a4_48 : decode cJ6_numberOfTrailingZeros_0f7a4 48 = .ok (.istore_n 0, 1) := by decide +kernel
theorem dJ6_numberOfTrailingZeros_0f7a4_49 : decode cJ6_numberOfTrailingZeros_0f7a4 49 = .ok (.iload_n 0, 1) := by decide +kernel
theorem dJ6_numberOfTrailingZeros_0f7a4_5 : decode cJ6_numberOfTrailingZeros_0f7a4 5 = .ok (.isub, 1) := by decide +kernel
theorem dJ6_numberOfTrailingZeros_0f7a4_50 : decode cJ6_numberOfTrailingZeros_0f7a4 50 = .ok (.bipush 16, 2) := by decide +kernel
theorem dJ6_numberOfTrailingZeros_0f7a4_52 : decode cJ6_numberOfTrailingZeros_0f7a4 52 = .ok (.if_icmp .le 10, 3) := by decide +kernel
theorem dJ6_numberOfTrailingZeros_0f7a4_55 : decode cJ6_numberOfTrailingZeros_0f7a4 55 = .ok (.iinc 1 4, 3) := by decide +kernel
theorem dJ6_numberOfTrailingZeros_0f7a4_58 : decode cJ6_numberOfTrailingZeros_0f7a4 58 = .ok (.iload_n 0, 1) := by decide +kernel
theorem dJ6_numberOfTrailingZeros_0f7a4_59 : decode cJ6_numberOfTrailingZeros_0f7a4 59 = .ok (.iconst 4, 1) := by decide +kernel
theorem dJ6_numberOfTrailingZeros_0f7a4_6 : decode cJ6_numberOfTrailingZeros_0f7a4 6 = .ok (.iand, 1) := by decide +kernel
theorem dJ6_numberOfTrailingZeros_0f7a4_60 : decode cJ6_numberOfTrailingZeros_0f7a4 60 = .ok (.iushr, 1) := by decide +kernel
theorem dJ6_numberOfTrailingZeros_0f7a4_61 : decode cJ6_numberOfTrailingZeros_0f7a4 61 = .ok (.istore_n 0, 1) := by decide +kernel
theorem dJ6_numberOfTrailingZeros_0f7a4_62 : decode cJ6_numberOfTrailingZeros_0f7a4 62 = .ok (.iload_n 0, 1) := by decide +kernel
theorem dJ6_numberOfTrailingZeros_0f7a4_63 : decode cJ6_numberOfTrailingZeros_0f7a4 63 = .ok (.iconst 4, 1) := by decide +kernel
theorem dJ6_numberOfTrailingZeros_0f7a4_64 : decode cJ6_numberOfTrailingZeros_0f7a4 64 = .ok (.if_icmp .le 10, 3) := by decide +kernel
theorem dJ6_numberOfTrailingZeros_0f7a4_67 : decode cJ6_numberOfTrailingZeros_0f7a4 67 = .ok (.iinc 1 2, 3) := by decide +kernel
theorem dJ6_numberOfTrailingZeros_0f7a4_7 : decode cJ6_numberOfTrailingZeros_0f7a4 7 = .ok (.istore_n 0, 1) := by decide +kernel
theorem dJ6_numberOfTrailingZeros_0f7a4_70 : decode cJ6_numberOfTrailingZeros_0f7a4 70 = .ok (.iload_n 0, 1) := by decide +kernel
theorem dJ6_numberOfTrailingZeros_0f7a4_71 : decode cJ6_numberOfTrailingZeros_0f7a4 71 = .ok (.iconst 2, 1) := by decide +kernel
theorem dJ6_numberOfTrailingZeros_0f7a4_72 : decode cJ6_numberOfTrailingZeros_0f7a4 72 = .ok (.iushr, 1) := by decide +kernel
theorem dJ6_numberOfTrailingZeros_0f7a4_73 : decode cJ6_numberOfTrailingZeros_0f7a4 73 = .ok (.istore_n 0, 1) := by decide +kernel
theorem dJ6_numberOfTrailingZeros_0f7a4_74 : decode cJ6_numberOfTrailingZeros_0f7a4 74 = .ok (.iload_n 1, 1) := by decide +kernel
theorem dJ6_numberOfTrailingZeros_0f7a4_75 : decode cJ6_numberOfTrailingZeros_0f7a4 75 = .ok (.iload_n 0, 1) := by decide +kernel
theorem dJ6_numberOfTrailingZeros_0f7a4_76 : decode cJ6_numberOfTrailingZeros_0f7a4 76 = .ok (.iconst 1, 1) := by decide +kernel
theorem dJ6_numberOfTrailingZeros_0f7a4_77 : decode cJ6_numberOfTrailingZeros_0f7a4 77 = .ok (.iushr, 1) := by decide +kernel
theorem dJ6_numberOfTrailingZeros_0f7a4_78 : decode cJ6_numberOfTrailingZeros_0f7a4 78 = .ok (.iadd, 1) := by decide +kernel
theorem dJ6_numberOfTrailingZeros_0f7a4_79 : decode cJ6_numberOfTrailingZeros_0f7a4 79 = .ok (.ireturn, 1) := by decide +kernel
theorem dJ6_numberOfTrailingZeros_0f7a4_8 : decode cJ6_numberOfTrailingZeros_0f7a4 8 = .ok (.iload_n 0, 1) := by decide +kernel
theorem dJ6_numberOfTrailingZeros_0f7a4_9 : decode cJ6_numberOfTrailingZeros_0f7a4 9 = .ok (.ifCond .gt 8, 3) := by decide +kernel
set_option maxHeartbeats 4000000 in
set_option maxRecDepth 100000 in
theorem k_J6_numberOfTrailingZeros_0f7a4 (l : Launch) (D : va_G) (cI cS : ClassId) (x0 : Int32) : Met l yJ6_numberOfTrailingZeros_0f7a4 wsJ6_numberOfTrailingZeros_0f7a4 ({ frames := 0, cells := 0, slots := 0, locals := 0 }) (PS D cI cS [] [.int x0]) (vp_Si (fun r => Rg 0 33 r ∧ True)) 0 0 (fun _ => False) := by
  refine Met.ofW (cc := cJ6_numberOfTrailingZeros_0f7a4) (maxL := 2) (ret := (some .int)) (by decide) rfl ?_
  intro p e s m args below meth c s₁ B hml hv
  obtain ⟨rfl, hP, hKK⟩ := hv
  have hx := B.exec
  have hb := B.bytes
  have hr := B.returns
  have hts := atoms_spec (ws := wsJ6_numberOfTrailingZeros_0f7a4) B.pre
  have hown : s.vm.findClass RJ6 = some m.cls := findClass_of_methodNamed B.named
  have hlocks := B.notSynchronized
  have hK := hKK.1
  have hl := lv_entry ([.int x0]) (n := 2) (Nat.le_of_ble_eq_true rfl)
  rw [lg_entry_eq]
  generalize (lg_sl ([.int x0]) ++ List.replicate (2 - (lg_sl ([.int x0])).length) Slot.unset).toArray = ls at hl ⊢
  have hl : lv_has ls 2 [(0, .int x0)] := hl
  have ct62 : ∀ (y62_l0 : Int32) (y62_l1 : Int32) (ls : Array Slot), Rg 1 16 y62_l0 → Rg 1 29 y62_l1 → lv_has ls 2 [(0, .int y62_l0), (1, .int y62_l1)] → W p l e (headSpec wsJ6_numberOfTrailingZeros_0f7a4 ({ frames := 0, cells := 0, slots := 0, locals := 0 })).room s m ([.int x0]).toArray below meth c s.heap [] 0 0 (MQ below (vp_Si (fun r => Rg 0 33 r ∧ True)) ([.int x0]).toArray s 0 0 (fun _ => False)) (F0 m 62 ls []) := by
    intro y62_l0 y62_l1 ls g62_l0 g62_l1 hl
    refine lv_iload_n hx hb dJ6_numberOfTrailingZeros_0f7a4_62 rfl (lv_at hl 0 rfl) ?_
    refine lv_iconst (v := 4) hx hb dJ6_numberOfTrailingZeros_0f7a4_63 (by decide) ?_
    refine lv_icmp_le (tgt := 74) hx hb dJ6_numberOfTrailingZeros_0f7a4_64 (by decide) (fun c31032 => ?_) (fun c31032 => ?_)
    · have g31033 : Rg 1 4 y62_l0 := rg_lel g62_l0 (by decide : Rg 4 4 (4 : Int32)) c31032 (by decide)
      refine lv_iload_n hx hb dJ6_numberOfTrailingZeros_0f7a4_74 rfl (lv_at hl 1 rfl) ?_
      refine lv_iload_n hx hb dJ6_numberOfTrailingZeros_0f7a4_75 rfl (lv_at hl 0 rfl) ?_
      refine lv_iconst (v := 1) hx hb dJ6_numberOfTrailingZeros_0f7a4_76 (by decide) ?_
      refine wk_iushr 1 (e1 := 0) (f := 2) hx hb dJ6_numberOfTrailingZeros_0f7a4_77 g31033 (by decide) (by decide) (fun r31034 hr31034 => ?_)
      refine wk_iadd (e1 := 1) (f := 31) hx hb dJ6_numberOfTrailingZeros_0f7a4_78 g62_l1 hr31034 (by decide) (fun r31035 hr31035 er31035 qr31035 => ?_)
      exact W.iret (v := r31035) hx hb hr (fun t ht hW => ⟨_, rfl, ⟨(show Rg 0 33 r31035 from rg_w hr31035 (by decide) (by decide)), trivial⟩, ht⟩) (fun q hq => absurd hq List.not_mem_nil) dJ6_numberOfTrailingZeros_0f7a4_79
    · have g31036 : Rg 5 16 y62_l0 := rg_ltr (by decide : Rg 4 4 (4 : Int32)) g62_l0 (rg_nle c31032) (by decide)
      refine wk_iinc (lv' := fun r => [(1, .int r), (0, .int y62_l0)]) (e1 := 3) (f := 31) hx hb dJ6_numberOfTrailingZeros_0f7a4_67 hl (k := 1) rfl (by decide) g62_l1 (by decide) (fun _ => rfl) (fun r31037 ls hr31037 er31037 hl => ?_)
      refine lv_iload_n hx hb dJ6_numberOfTrailingZeros_0f7a4_70 rfl (lv_at hl 1 rfl) ?_
      refine lv_iconst (v := 2) hx hb dJ6_numberOfTrailingZeros_0f7a4_71 (by decide) ?_
      refine wk_iushr 2 (e1 := 1) (f := 4) hx hb dJ6_numberOfTrailingZeros_0f7a4_72 g31036 (by decide) (by decide) (fun r31038 hr31038 => ?_)
      refine lv_istore_n (lv' := [(0, .int r31038), (1, .int r31037)]) hx hb dJ6_numberOfTrailingZeros_0f7a4_73 rfl hl (by decide) rfl (fun ls hl => ?_)
      refine lv_iload_n hx hb dJ6_numberOfTrailingZeros_0f7a4_74 rfl (lv_at hl 1 rfl) ?_
      refine lv_iload_n hx hb dJ6_numberOfTrailingZeros_0f7a4_75 rfl (lv_at hl 0 rfl) ?_
      refine lv_iconst (v := 1) hx hb dJ6_numberOfTrailingZeros_0f7a4_76 (by decide) ?_
      refine wk_iushr 1 (e1 := 0) (f := 2) hx hb dJ6_numberOfTrailingZeros_0f7a4_77 hr31038 (by decide) (by decide) (fun r31039 hr31039 => ?_)
      refine wk_iadd (e1 := 3) (f := 33) hx hb dJ6_numberOfTrailingZeros_0f7a4_78 hr31037 hr31039 (by decide) (fun r31040 hr31040 er31040 qr31040 => ?_)
      exact W.iret (v := r31040) hx hb hr (fun t ht hW => ⟨_, rfl, ⟨(show Rg 0 33 r31040 from rg_w hr31040 (by decide) (by decide)), trivial⟩, ht⟩) (fun q hq => absurd hq List.not_mem_nil) dJ6_numberOfTrailingZeros_0f7a4_79
  have ct34 : ∀ (y34_l0 : Int32) (y34_l1 : Int32) (ls : Array Slot), Rg 1 65536 y34_l0 → Rg 1 17 y34_l1 → lv_has ls 2 [(0, .int y34_l0), (1, .int y34_l1)] → W p l e (headSpec wsJ6_numberOfTrailingZeros_0f7a4 ({ frames := 0, cells := 0, slots := 0, locals := 0 })).room s m ([.int x0]).toArray below meth c s.heap [] 0 0 (MQ below (vp_Si (fun r => Rg 0 33 r ∧ True)) ([.int x0]).toArray s 0 0 (fun _ => False)) (F0 m 34 ls []) := by
    intro y34_l0 y34_l1 ls g34_l0 g34_l1 hl
    refine lv_iload_n hx hb dJ6_numberOfTrailingZeros_0f7a4_34 rfl (lv_at hl 0 rfl) ?_
    refine lv_sipush (v := 256) hx hb dJ6_numberOfTrailingZeros_0f7a4_35 (by decide) ?_
    refine lv_icmp_le (tgt := 49) hx hb dJ6_numberOfTrailingZeros_0f7a4_38 (by decide) (fun c31041 => ?_) (fun c31041 => ?_)
    · have g31042 : Rg 1 256 y34_l0 := rg_lel g34_l0 (by decide : Rg 256 256 (256 : Int32)) c31041 (by decide)
      refine lv_iload_n hx hb dJ6_numberOfTrailingZeros_0f7a4_49 rfl (lv_at hl 0 rfl) ?_
      refine lv_bipush (v := 16) hx hb dJ6_numberOfTrailingZeros_0f7a4_50 (by decide) ?_
      refine lv_icmp_le (tgt := 62) hx hb dJ6_numberOfTrailingZeros_0f7a4_52 (by decide) (fun c31043 => ?_) (fun c31043 => ?_)
      · have g31044 : Rg 1 16 y34_l0 := rg_lel g31042 (by decide : Rg 16 16 (16 : Int32)) c31043 (by decide)
        exact ct62 y34_l0 y34_l1 ls g31044 (show Rg 1 29 y34_l1 from rg_w g34_l1 (by decide) (by decide)) (lv_sub (l' := [(0, .int y34_l0), (1, .int y34_l1)]) hl [0, 1] rfl)
      · have g31045 : Rg 17 256 y34_l0 := rg_ltr (by decide : Rg 16 16 (16 : Int32)) g31042 (rg_nle c31043) (by decide)
        refine wk_iinc (lv' := fun r => [(1, .int r), (0, .int y34_l0)]) (e1 := 5) (f := 21) hx hb dJ6_numberOfTrailingZeros_0f7a4_55 hl (k := 1) rfl (by decide) g34_l1 (by decide) (fun _ => rfl) (fun r31046 ls hr31046 er31046 hl => ?_)
        refine lv_iload_n hx hb dJ6_numberOfTrailingZeros_0f7a4_58 rfl (lv_at hl 1 rfl) ?_
        refine lv_iconst (v := 4) hx hb dJ6_numberOfTrailingZeros_0f7a4_59 (by decide) ?_
        refine wk_iushr 4 (e1 := 1) (f := 16) hx hb dJ6_numberOfTrailingZeros_0f7a4_60 g31045 (by decide) (by decide) (fun r31047 hr31047 => ?_)
        refine lv_istore_n (lv' := [(0, .int r31047), (1, .int r31046)]) hx hb dJ6_numberOfTrailingZeros_0f7a4_61 rfl hl (by decide) rfl (fun ls hl => ?_)
        exact ct62 r31047 r31046 ls hr31047 (show Rg 1 29 r31046 from rg_w hr31046 (by decide) (by decide)) (lv_sub (l' := [(0, .int r31047), (1, .int r31046)]) hl [0, 1] rfl)
    · have g31048 : Rg 257 65536 y34_l0 := rg_ltr (by decide : Rg 256 256 (256 : Int32)) g34_l0 (rg_nle c31041) (by decide)
      refine wk_iinc (lv' := fun r => [(1, .int r), (0, .int y34_l0)]) (e1 := 9) (f := 25) hx hb dJ6_numberOfTrailingZeros_0f7a4_41 hl (k := 1) rfl (by decide) g34_l1 (by decide) (fun _ => rfl) (fun r31049 ls hr31049 er31049 hl => ?_)
      refine lv_iload_n hx hb dJ6_numberOfTrailingZeros_0f7a4_44 rfl (lv_at hl 1 rfl) ?_
      refine lv_bipush (v := 8) hx hb dJ6_numberOfTrailingZeros_0f7a4_45 (by decide) ?_
      refine wk_iushr 8 (e1 := 1) (f := 256) hx hb dJ6_numberOfTrailingZeros_0f7a4_47 g31048 (by decide) (by decide) (fun r31050 hr31050 => ?_)
      refine lv_istore_n (lv' := [(0, .int r31050), (1, .int r31049)]) hx hb dJ6_numberOfTrailingZeros_0f7a4_48 rfl hl (by decide) rfl (fun ls hl => ?_)
      refine lv_iload_n hx hb dJ6_numberOfTrailingZeros_0f7a4_49 rfl (lv_at hl 0 rfl) ?_
      refine lv_bipush (v := 16) hx hb dJ6_numberOfTrailingZeros_0f7a4_50 (by decide) ?_
      refine lv_icmp_le (tgt := 62) hx hb dJ6_numberOfTrailingZeros_0f7a4_52 (by decide) (fun c31051 => ?_) (fun c31051 => ?_)
      · have g31052 : Rg 1 16 r31050 := rg_lel hr31050 (by decide : Rg 16 16 (16 : Int32)) c31051 (by decide)
        exact ct62 r31050 r31049 ls g31052 (show Rg 1 29 r31049 from rg_w hr31049 (by decide) (by decide)) (lv_sub (l' := [(0, .int r31050), (1, .int r31049)]) hl [0, 1] rfl)
      · have g31053 : Rg 17 256 r31050 := rg_ltr (by decide : Rg 16 16 (16 : Int32)) hr31050 (rg_nle c31051) (by decide)
        refine wk_iinc (lv' := fun r => [(1, .int r), (0, .int r31050)]) (e1 := 13) (f := 29) hx hb dJ6_numberOfTrailingZeros_0f7a4_55 hl (k := 1) rfl (by decide) hr31049 (by decide) (fun _ => rfl) (fun r31054 ls hr31054 er31054 hl => ?_)
        refine lv_iload_n hx hb dJ6_numberOfTrailingZeros_0f7a4_58 rfl (lv_at hl 1 rfl) ?_
        refine lv_iconst (v := 4) hx hb dJ6_numberOfTrailingZeros_0f7a4_59 (by decide) ?_
        refine wk_iushr 4 (e1 := 1) (f := 16) hx hb dJ6_numberOfTrailingZeros_0f7a4_60 g31053 (by decide) (by decide) (fun r31055 hr31055 => ?_)
        refine lv_istore_n (lv' := [(0, .int r31055), (1, .int r31054)]) hx hb dJ6_numberOfTrailingZeros_0f7a4_61 rfl hl (by decide) rfl (fun ls hl => ?_)
        exact ct62 r31055 r31054 ls hr31055 (show Rg 1 29 r31054 from rg_w hr31054 (by decide) (by decide)) (lv_sub (l' := [(0, .int r31055), (1, .int r31054)]) hl [0, 1] rfl)
  refine lv_iload_n hx hb dJ6_numberOfTrailingZeros_0f7a4_0 rfl (lv_at hl 0 rfl) ?_
  refine lv_iconst (v := (-1)) hx hb dJ6_numberOfTrailingZeros_0f7a4_1 (by decide) ?_
  refine lv_ixor hx hb dJ6_numberOfTrailingZeros_0f7a4_2 ?_
  refine wk_topP (P := fun r => r = x0 ^^^ ((-1) : Int32)) rfl (fun r31056 qr31056 => ?_)
  refine lv_iload_n hx hb dJ6_numberOfTrailingZeros_0f7a4_3 rfl (lv_at hl 0 rfl) ?_
  refine lv_iconst (v := 1) hx hb dJ6_numberOfTrailingZeros_0f7a4_4 (by decide) ?_
  refine lv_isub hx hb dJ6_numberOfTrailingZeros_0f7a4_5 ?_
  refine wk_topP (P := fun r => r = x0 - (1 : Int32)) rfl (fun r31057 qr31057 => ?_)
  refine lv_iand hx hb dJ6_numberOfTrailingZeros_0f7a4_6 ?_
  refine wk_topP (P := fun r => r = r31056 &&& r31057) rfl (fun r31058 qr31058 => ?_)
  refine lv_istore_n (lv' := [(0, .int r31058)]) hx hb dJ6_numberOfTrailingZeros_0f7a4_7 rfl hl (by decide) rfl (fun ls hl => ?_)
  refine lv_iload_n hx hb dJ6_numberOfTrailingZeros_0f7a4_8 rfl (lv_at hl 0 rfl) ?_
  refine lv_if_gt (tgt := 17) hx hb dJ6_numberOfTrailingZeros_0f7a4_9 (by decide) (fun c31059 => ?_) (fun c31059 => ?_)
  · have g31060 : Rg 1 2147483647 r31058 := rg_ltr (by decide : Rg 0 0 (0 : Int32)) (rg_any r31058) c31059 (by decide)
    refine lv_iconst (v := 1) hx hb dJ6_numberOfTrailingZeros_0f7a4_17 (by decide) ?_
    refine lv_istore_n (lv' := [(1, .int 1), (0, .int r31058)]) hx hb dJ6_numberOfTrailingZeros_0f7a4_18 rfl hl (by decide) rfl (fun ls hl => ?_)
    refine lv_iload_n hx hb dJ6_numberOfTrailingZeros_0f7a4_19 rfl (lv_at hl 1 rfl) ?_
    refine lv_ldcw hx hb hown (hts (.constant RJ6 264 (65536)) (by decide +kernel)) dJ6_numberOfTrailingZeros_0f7a4_20 ?_
    refine lv_icmp_le (tgt := 34) hx hb dJ6_numberOfTrailingZeros_0f7a4_23 (by decide) (fun c31061 => ?_) (fun c31061 => ?_)
    · have g31062 : Rg 1 65536 r31058 := rg_lel g31060 (by decide : Rg 65536 65536 (65536 : Int32)) c31061 (by decide)
      exact ct34 r31058 (1 : Int32) ls g31062 (by decide : Rg 1 17 (1 : Int32)) (lv_sub (l' := [(0, .int r31058), (1, .int 1)]) hl [1, 0] rfl)
    · have g31063 : Rg 65537 2147483647 r31058 := rg_ltr (by decide : Rg 65536 65536 (65536 : Int32)) g31060 (rg_nle c31061) (by decide)
      refine wk_iinc (lv' := fun r => [(1, .int r), (0, .int r31058)]) (e1 := 17) (f := 17) hx hb dJ6_numberOfTrailingZeros_0f7a4_26 hl (k := 0) rfl (by decide) (by decide : Rg 1 1 (1 : Int32)) (by decide) (fun _ => rfl) (fun r31064 ls hr31064 er31064 hl => ?_)
      refine lv_iload_n hx hb dJ6_numberOfTrailingZeros_0f7a4_29 rfl (lv_at hl 1 rfl) ?_
      refine lv_bipush (v := 16) hx hb dJ6_numberOfTrailingZeros_0f7a4_30 (by decide) ?_
      refine wk_iushr 16 (e1 := 1) (f := 32767) hx hb dJ6_numberOfTrailingZeros_0f7a4_32 g31063 (by decide) (by decide) (fun r31065 hr31065 => ?_)
      refine lv_istore_n (lv' := [(0, .int r31065), (1, .int r31064)]) hx hb dJ6_numberOfTrailingZeros_0f7a4_33 rfl hl (by decide) rfl (fun ls hl => ?_)
      exact ct34 r31065 r31064 ls (show Rg 1 65536 r31065 from rg_w hr31065 (by decide) (by decide)) (show Rg 1 17 r31064 from rg_w hr31064 (by decide) (by decide)) (lv_sub (l' := [(0, .int r31065), (1, .int r31064)]) hl [0, 1] rfl)
  · have g31066 : Rg (-2147483648) 0 r31058 := rg_lel (rg_any r31058) (by decide : Rg 0 0 (0 : Int32)) (rg_nlt c31059) (by decide)
    refine lv_iload_n hx hb dJ6_numberOfTrailingZeros_0f7a4_12 rfl (lv_at hl 0 rfl) ?_
    refine lv_bipush (v := 32) hx hb dJ6_numberOfTrailingZeros_0f7a4_13 (by decide) ?_
    refine wk_iandr hx hb dJ6_numberOfTrailingZeros_0f7a4_15 (by decide : Rg 32 32 (32 : Int32)) (by decide) (fun r31067 hr31067 qr31067 => ?_)
    exact W.iret (v := r31067) hx hb hr (fun t ht hW => ⟨_, rfl, ⟨(show Rg 0 33 r31067 from rg_w hr31067 (by decide) (by decide)), trivial⟩, ht⟩) (fun q hq => absurd hq List.not_mem_nil) dJ6_numberOfTrailingZeros_0f7a4_16
set_option maxHeartbeats 4000000 in
set_option maxRecDepth 100000 in
theorem k_J6_numberOfLeadingZeros_0f7a4 (l : Launch) (D : va_G) (cI cS : ClassId) (x0 : Int32) : Met l yJ6_numberOfLeadingZeros_0f7a4 wsJ6_numberOfLeadingZeros_0f7a4 ({ frames := 0, cells := 0, slots := 0, locals := 0 }) (PS D cI cS [] [.int x0]) (vp_Si (fun r => Rg 0 32 r ∧ (¬ x0 = 0 → Rg 0 31 r))) 0 0 (fun _ => False) := by
  refine Met.ofW (cc := cJ6_numberOfLeadingZeros_0f7a4) (maxL := 2) (ret := (some .int)) (by decide) rfl ?_
  intro p e s m args below meth c s₁ B hml hv
  obtain ⟨rfl, hP, hKK⟩ := hv
  have hx := B.exec
  have hb := B.bytes
  have hr := B.returns
  have hts := atoms_spec (ws := wsJ6_numberOfLeadingZeros_0f7a4) B.pre
  have hown : s.vm.findClass RJ6 = some m.cls := findClass_of_methodNamed B.named
  have hlocks := B.notSynchronized
  have hK := hKK.1
  have hl := lv_entry ([.int x0]) (n := 2) (Nat.le_of_ble_eq_true rfl)
  rw [lg_entry_eq]
  generalize (lg_sl ([.int x0]) ++ List.replicate (2 - (lg_sl ([.int x0])).length) Slot.unset).toArray = ls at hl ⊢
  have hl : lv_has ls 2 [(0, .int x0)] := hl
  have ct61 : ∀ (y61_l0 : Int32) (y61_l1 : Int32) (ls : Array Slot), Rg 1 15 y61_l0 → Rg 3 31 y61_l1 → lv_has ls 2 [(0, .int y61_l0), (1, .int y61_l1)] → W p l e (headSpec wsJ6_numberOfLeadingZeros_0f7a4 ({ frames := 0, cells := 0, slots := 0, locals := 0 })).room s m ([.int x0]).toArray below meth c s.heap [] 0 0 (MQ below (vp_Si (fun r => Rg 0 32 r ∧ (¬ x0 = 0 → Rg 0 31 r))) ([.int x0]).toArray s 0 0 (fun _ => False)) (F0 m 61 ls []) := by
    intro y61_l0 y61_l1 ls g61_l0 g61_l1 hl
    refine lv_iload_n hx hb dJ6_numberOfLeadingZeros_0f7a4_61 rfl (lv_at hl 0 rfl) ?_
    refine lv_iconst (v := 4) hx hb dJ6_numberOfLeadingZeros_0f7a4_62 (by decide) ?_
    refine lv_icmp_lt (tgt := 73) hx hb dJ6_numberOfLeadingZeros_0f7a4_63 (by decide) (fun c31129 => ?_) (fun c31129 => ?_)
    · have g31130 : Rg 1 3 y61_l0 := rg_ltl g61_l0 (by decide : Rg 4 4 (4 : Int32)) c31129 (by decide)
      refine lv_iload_n hx hb dJ6_numberOfLeadingZeros_0f7a4_73 rfl (lv_at hl 1 rfl) ?_
      refine lv_iload_n hx hb dJ6_numberOfLeadingZeros_0f7a4_74 rfl (lv_at hl 0 rfl) ?_
      refine lv_iconst (v := 1) hx hb dJ6_numberOfLeadingZeros_0f7a4_75 (by decide) ?_
      refine wk_iushr 1 (e1 := 0) (f := 1) hx hb dJ6_numberOfLeadingZeros_0f7a4_76 g31130 (by decide) (by decide) (fun r31131 hr31131 => ?_)
      refine wk_isub (e1 := 2) (f := 31) hx hb dJ6_numberOfLeadingZeros_0f7a4_77 g61_l1 hr31131 (by decide) (fun r31132 hr31132 er31132 qr31132 => ?_)
      exact W.iret (v := r31132) hx hb hr (fun t ht hW => ⟨_, rfl, ⟨(show Rg 0 32 r31132 from rg_w hr31132 (by decide) (by decide)), fun _ => (show Rg 0 31 r31132 from rg_w hr31132 (by decide) (by decide))⟩, ht⟩) (fun q hq => absurd hq List.not_mem_nil) dJ6_numberOfLeadingZeros_0f7a4_78
    · have g31133 : Rg 4 15 y61_l0 := rg_ler (by decide : Rg 4 4 (4 : Int32)) g61_l0 (rg_nlt c31129) (by decide)
      refine wk_iinc (lv' := fun r => [(1, .int r), (0, .int y61_l0)]) (e1 := 1) (f := 29) hx hb dJ6_numberOfLeadingZeros_0f7a4_66 hl (k := 1) rfl (by decide) g61_l1 (by decide) (fun _ => rfl) (fun r31134 ls hr31134 er31134 hl => ?_)
      refine lv_iload_n hx hb dJ6_numberOfLeadingZeros_0f7a4_69 rfl (lv_at hl 1 rfl) ?_
      refine lv_iconst (v := 2) hx hb dJ6_numberOfLeadingZeros_0f7a4_70 (by decide) ?_
      refine wk_iushr 2 (e1 := 1) (f := 3) hx hb dJ6_numberOfLeadingZeros_0f7a4_71 g31133 (by decide) (by decide) (fun r31135 hr31135 => ?_)
      refine lv_istore_n (lv' := [(0, .int r31135), (1, .int r31134)]) hx hb dJ6_numberOfLeadingZeros_0f7a4_72 rfl hl (by decide) rfl (fun ls hl => ?_)
      refine lv_iload_n hx hb dJ6_numberOfLeadingZeros_0f7a4_73 rfl (lv_at hl 1 rfl) ?_
      refine lv_iload_n hx hb dJ6_numberOfLeadingZeros_0f7a4_74 rfl (lv_at hl 0 rfl) ?_
      refine lv_iconst (v := 1) hx hb dJ6_numberOfLeadingZeros_0f7a4_75 (by decide) ?_
      refine wk_iushr 1 (e1 := 0) (f := 1) hx hb dJ6_numberOfLeadingZeros_0f7a4_76 hr31135 (by decide) (by decide) (fun r31136 hr31136 => ?_)
      refine wk_isub (e1 := 0) (f := 29) hx hb dJ6_numberOfLeadingZeros_0f7a4_77 hr31134 hr31136 (by decide) (fun r31137 hr31137 er31137 qr31137 => ?_)
      exact W.iret (v := r31137) hx hb hr (fun t ht hW => ⟨_, rfl, ⟨(show Rg 0 32 r31137 from rg_w hr31137 (by decide) (by decide)), fun _ => (show Rg 0 31 r31137 from rg_w hr31137 (by decide) (by decide))⟩, ht⟩) (fun q hq => absurd hq List.not_mem_nil) dJ6_numberOfLeadingZeros_0f7a4_78
  have ct33 : ∀ (y33_l0 : Int32) (y33_l1 : Int32) (ls : Array Slot), Rg 1 65535 y33_l0 → Rg 15 31 y33_l1 → lv_has ls 2 [(0, .int y33_l0), (1, .int y33_l1)] → W p l e (headSpec wsJ6_numberOfLeadingZeros_0f7a4 ({ frames := 0, cells := 0, slots := 0, locals := 0 })).room s m ([.int x0]).toArray below meth c s.heap [] 0 0 (MQ below (vp_Si (fun r => Rg 0 32 r ∧ (¬ x0 = 0 → Rg 0 31 r))) ([.int x0]).toArray s 0 0 (fun _ => False)) (F0 m 33 ls []) := by
    intro y33_l0 y33_l1 ls g33_l0 g33_l1 hl
    refine lv_iload_n hx hb dJ6_numberOfLeadingZeros_0f7a4_33 rfl (lv_at hl 0 rfl) ?_
    refine lv_sipush (v := 256) hx hb dJ6_numberOfLeadingZeros_0f7a4_34 (by decide) ?_
    refine lv_icmp_lt (tgt := 48) hx hb dJ6_numberOfLeadingZeros_0f7a4_37 (by decide) (fun c31138 => ?_) (fun c31138 => ?_)
    · have g31139 : Rg 1 255 y33_l0 := rg_ltl g33_l0 (by decide : Rg 256 256 (256 : Int32)) c31138 (by decide)
      refine lv_iload_n hx hb dJ6_numberOfLeadingZeros_0f7a4_48 rfl (lv_at hl 0 rfl) ?_
      refine lv_bipush (v := 16) hx hb dJ6_numberOfLeadingZeros_0f7a4_49 (by decide) ?_
      refine lv_icmp_lt (tgt := 61) hx hb dJ6_numberOfLeadingZeros_0f7a4_51 (by decide) (fun c31140 => ?_) (fun c31140 => ?_)
      · have g31141 : Rg 1 15 y33_l0 := rg_ltl g31139 (by decide : Rg 16 16 (16 : Int32)) c31140 (by decide)
        exact ct61 y33_l0 y33_l1 ls g31141 (show Rg 3 31 y33_l1 from rg_w g33_l1 (by decide) (by decide)) (lv_sub (l' := [(0, .int y33_l0), (1, .int y33_l1)]) hl [0, 1] rfl)
      · have g31142 : Rg 16 255 y33_l0 := rg_ler (by decide : Rg 16 16 (16 : Int32)) g31139 (rg_nlt c31140) (by decide)
        refine wk_iinc (lv' := fun r => [(1, .int r), (0, .int y33_l0)]) (e1 := 11) (f := 27) hx hb dJ6_numberOfLeadingZeros_0f7a4_54 hl (k := 1) rfl (by decide) g33_l1 (by decide) (fun _ => rfl) (fun r31143 ls hr31143 er31143 hl => ?_)
        refine lv_iload_n hx hb dJ6_numberOfLeadingZeros_0f7a4_57 rfl (lv_at hl 1 rfl) ?_
        refine lv_iconst (v := 4) hx hb dJ6_numberOfLeadingZeros_0f7a4_58 (by decide) ?_
        refine wk_iushr 4 (e1 := 1) (f := 15) hx hb dJ6_numberOfLeadingZeros_0f7a4_59 g31142 (by decide) (by decide) (fun r31144 hr31144 => ?_)
        refine lv_istore_n (lv' := [(0, .int r31144), (1, .int r31143)]) hx hb dJ6_numberOfLeadingZeros_0f7a4_60 rfl hl (by decide) rfl (fun ls hl => ?_)
        exact ct61 r31144 r31143 ls hr31144 (show Rg 3 31 r31143 from rg_w hr31143 (by decide) (by decide)) (lv_sub (l' := [(0, .int r31144), (1, .int r31143)]) hl [0, 1] rfl)
    · have g31145 : Rg 256 65535 y33_l0 := rg_ler (by decide : Rg 256 256 (256 : Int32)) g33_l0 (rg_nlt c31138) (by decide)
      refine wk_iinc (lv' := fun r => [(1, .int r), (0, .int y33_l0)]) (e1 := 7) (f := 23) hx hb dJ6_numberOfLeadingZeros_0f7a4_40 hl (k := 1) rfl (by decide) g33_l1 (by decide) (fun _ => rfl) (fun r31146 ls hr31146 er31146 hl => ?_)
      refine lv_iload_n hx hb dJ6_numberOfLeadingZeros_0f7a4_43 rfl (lv_at hl 1 rfl) ?_
      refine lv_bipush (v := 8) hx hb dJ6_numberOfLeadingZeros_0f7a4_44 (by decide) ?_
      refine wk_iushr 8 (e1 := 1) (f := 255) hx hb dJ6_numberOfLeadingZeros_0f7a4_46 g31145 (by decide) (by decide) (fun r31147 hr31147 => ?_)
      refine lv_istore_n (lv' := [(0, .int r31147), (1, .int r31146)]) hx hb dJ6_numberOfLeadingZeros_0f7a4_47 rfl hl (by decide) rfl (fun ls hl => ?_)
      refine lv_iload_n hx hb dJ6_numberOfLeadingZeros_0f7a4_48 rfl (lv_at hl 0 rfl) ?_
      refine lv_bipush (v := 16) hx hb dJ6_numberOfLeadingZeros_0f7a4_49 (by decide) ?_
      refine lv_icmp_lt (tgt := 61) hx hb dJ6_numberOfLeadingZeros_0f7a4_51 (by decide) (fun c31148 => ?_) (fun c31148 => ?_)
      · have g31149 : Rg 1 15 r31147 := rg_ltl hr31147 (by decide : Rg 16 16 (16 : Int32)) c31148 (by decide)
        exact ct61 r31147 r31146 ls g31149 (show Rg 3 31 r31146 from rg_w hr31146 (by decide) (by decide)) (lv_sub (l' := [(0, .int r31147), (1, .int r31146)]) hl [0, 1] rfl)
      · have g31150 : Rg 16 255 r31147 := rg_ler (by decide : Rg 16 16 (16 : Int32)) hr31147 (rg_nlt c31148) (by decide)
        refine wk_iinc (lv' := fun r => [(1, .int r), (0, .int r31147)]) (e1 := 3) (f := 19) hx hb dJ6_numberOfLeadingZeros_0f7a4_54 hl (k := 1) rfl (by decide) hr31146 (by decide) (fun _ => rfl) (fun r31151 ls hr31151 er31151 hl => ?_)
        refine lv_iload_n hx hb dJ6_numberOfLeadingZeros_0f7a4_57 rfl (lv_at hl 1 rfl) ?_
        refine lv_iconst (v := 4) hx hb dJ6_numberOfLeadingZeros_0f7a4_58 (by decide) ?_
        refine wk_iushr 4 (e1 := 1) (f := 15) hx hb dJ6_numberOfLeadingZeros_0f7a4_59 g31150 (by decide) (by decide) (fun r31152 hr31152 => ?_)
        refine lv_istore_n (lv' := [(0, .int r31152), (1, .int r31151)]) hx hb dJ6_numberOfLeadingZeros_0f7a4_60 rfl hl (by decide) rfl (fun ls hl => ?_)
        exact ct61 r31152 r31151 ls hr31152 (show Rg 3 31 r31151 from rg_w hr31151 (by decide) (by decide)) (lv_sub (l' := [(0, .int r31152), (1, .int r31151)]) hl [0, 1] rfl)
  refine lv_iload_n hx hb dJ6_numberOfLeadingZeros_0f7a4_0 rfl (lv_at hl 0 rfl) ?_
  refine lv_if_gt (tgt := 15) hx hb dJ6_numberOfLeadingZeros_0f7a4_1 (by decide) (fun c31153 => ?_) (fun c31153 => ?_)
  · have g31154 : Rg 1 2147483647 x0 := rg_ltr (by decide : Rg 0 0 (0 : Int32)) (rg_any x0) c31153 (by decide)
    refine lv_bipush (v := 31) hx hb dJ6_numberOfLeadingZeros_0f7a4_15 (by decide) ?_
    refine lv_istore_n (lv' := [(1, .int 31), (0, .int x0)]) hx hb dJ6_numberOfLeadingZeros_0f7a4_17 rfl hl (by decide) rfl (fun ls hl => ?_)
    refine lv_iload_n hx hb dJ6_numberOfLeadingZeros_0f7a4_18 rfl (lv_at hl 1 rfl) ?_
    refine lv_ldcw hx hb hown (hts (.constant RJ6 264 (65536)) (by decide +kernel)) dJ6_numberOfLeadingZeros_0f7a4_19 ?_
    refine lv_icmp_lt (tgt := 33) hx hb dJ6_numberOfLeadingZeros_0f7a4_22 (by decide) (fun c31155 => ?_) (fun c31155 => ?_)
    · have g31156 : Rg 1 65535 x0 := rg_ltl g31154 (by decide : Rg 65536 65536 (65536 : Int32)) c31155 (by decide)
      exact ct33 x0 (31 : Int32) ls g31156 (by decide : Rg 15 31 (31 : Int32)) (lv_sub (l' := [(0, .int x0), (1, .int 31)]) hl [1, 0] rfl)
    · have g31157 : Rg 65536 2147483647 x0 := rg_ler (by decide : Rg 65536 65536 (65536 : Int32)) g31154 (rg_nlt c31155) (by decide)
      refine wk_iinc (lv' := fun r => [(1, .int r), (0, .int x0)]) (e1 := 15) (f := 15) hx hb dJ6_numberOfLeadingZeros_0f7a4_25 hl (k := 0) rfl (by decide) (by decide : Rg 31 31 (31 : Int32)) (by decide) (fun _ => rfl) (fun r31158 ls hr31158 er31158 hl => ?_)
      refine lv_iload_n hx hb dJ6_numberOfLeadingZeros_0f7a4_28 rfl (lv_at hl 1 rfl) ?_
      refine lv_bipush (v := 16) hx hb dJ6_numberOfLeadingZeros_0f7a4_29 (by decide) ?_
      refine wk_iushr 16 (e1 := 1) (f := 32767) hx hb dJ6_numberOfLeadingZeros_0f7a4_31 g31157 (by decide) (by decide) (fun r31159 hr31159 => ?_)
      refine lv_istore_n (lv' := [(0, .int r31159), (1, .int r31158)]) hx hb dJ6_numberOfLeadingZeros_0f7a4_32 rfl hl (by decide) rfl (fun ls hl => ?_)
      exact ct33 r31159 r31158 ls (show Rg 1 65535 r31159 from rg_w hr31159 (by decide) (by decide)) (show Rg 15 31 r31158 from rg_w hr31158 (by decide) (by decide)) (lv_sub (l' := [(0, .int r31159), (1, .int r31158)]) hl [0, 1] rfl)
  · have g31160 : Rg (-2147483648) 0 x0 := rg_lel (rg_any x0) (by decide : Rg 0 0 (0 : Int32)) (rg_nlt c31153) (by decide)
    refine lv_iload_n hx hb dJ6_numberOfLeadingZeros_0f7a4_4 rfl (lv_at hl 0 rfl) ?_
    refine lv_if_ne (tgt := 13) hx hb dJ6_numberOfLeadingZeros_0f7a4_5 (by decide) (fun c31161 => ?_) (fun c31161 => ?_)
    · have g31162 : Rg (-2147483648) (-1) x0 := rg_ne_hi (k := 0) g31160 (by decide) c31161 (by decide)
      refine lv_iconst (v := 0) hx hb dJ6_numberOfLeadingZeros_0f7a4_13 (by decide) ?_
      exact W.iret (v := 0) hx hb hr (fun t ht hW => ⟨_, rfl, ⟨(by decide : Rg 0 32 (0 : Int32)), fun _ => (by decide : Rg 0 31 (0 : Int32))⟩, ht⟩) (fun q hq => absurd hq List.not_mem_nil) dJ6_numberOfLeadingZeros_0f7a4_14
    · have g31163 : Rg 0 0 x0 := wk_eql g31160 (by decide : Rg 0 0 (0 : Int32)) c31161 (by decide)
      refine lv_bipush (v := 32) hx hb dJ6_numberOfLeadingZeros_0f7a4_8 (by decide) ?_
      refine lv_goto (tgt := 14) hx hb dJ6_numberOfLeadingZeros_0f7a4_10 (by decide) ?_
      exact W.iret (v := 32) hx hb hr (fun t ht hW => ⟨_, rfl, ⟨(by decide : Rg 0 32 (32 : Int32)), fun h9 => absurd c31161 h9⟩, ht⟩) (fun q hq => absurd hq List.not_mem_nil) dJ6_numberOfLeadingZeros_0f7a4_14
set_option maxHeartbeats 4000000 in
set_option maxRecDepth 100000 in
theorem k_X2_all (l : Launch) (D : va_G) (cI cS : ClassId) (a : Nat → Nat) (na nc N : Nat) (L u : SU) (hL : TyX L) (hN : N = 0 ∨ N = 24576) : Met l yX2_all wsX2_all ({ frames := 0, cells := 0, slots := 0, locals := 0 }) (PS D cI cS (wX cI cS a na nc N L u) [.ref (a 1)]) (vp_Si (fun r => Rg 0 4095 r ∧ True)) 0 0 (fun _ => False) := by
  refine Met.ofW (cc := cX2_all) (maxL := 1) (ret := (some .int)) (by decide) rfl ?_
  intro p e s m args below meth c s₁ B hml hv
  obtain ⟨rfl, hP, hKK⟩ := hv
  have hx := B.exec
  have hb := B.bytes
  have hr := B.returns
  have hts := atoms_spec (ws := wsX2_all) B.pre
  have hown : s.vm.findClass RX2 = some m.cls := findClass_of_methodNamed B.named
  have hlocks := B.notSynchronized
  have hK := hKK.1
  have hin2 : ∀ w ∈ wsX20, w ∈ wsX2_all := by decide +kernel
  have hl := lv_entry ([.ref (a 1)]) (n := 1) (Nat.le_of_ble_eq_true rfl)
  rw [lg_entry_eq]
  generalize (lg_sl ([.ref (a 1)]) ++ List.replicate (1 - (lg_sl ([.ref (a 1)])).length) Slot.unset).toArray = ls at hl ⊢
  have hl : lv_has ls 1 [(0, .ref (a 1))] := hl
  refine lv_iconst (v := 1) hx hb dX2_all_0 (by decide) ?_
  refine lv_aload_n hx hb dX2_all_1 rfl (lv_at hl 0 rfl) ?_
  refine va_get (D := D) (ci := 2) (v := .int (L 1 1)) (C := RX2) (T := TX2) (N := 3) hx hb hts hin2 hown hK hP 1 rfl rfl 1 (by decide) (hts (.fieldLink RX2 15 "MissedPoints$Net" "size" "I") (by decide +kernel)) (fun _ h9 => h9) rfl dX2_all_2 ?_
  refine wk_ishl1 (f := 4096) hx hb dX2_all_5 hL.1 (by decide) (fun r31166 hr31166 qr31166 => ?_)
  refine lv_iconst (v := 1) hx hb dX2_all_6 (by decide) ?_
  refine wk_isub (e1 := 0) (f := 4095) hx hb dX2_all_7 hr31166 (by decide : Rg 1 1 (1 : Int32)) (by decide) (fun r31167 hr31167 er31167 qr31167 => ?_)
  exact W.iret (v := r31167) hx hb hr (fun t ht hW => ⟨_, rfl, ⟨hr31167, trivial⟩, ht⟩) (fun q hq => absurd hq List.not_mem_nil) dX2_all_8
set_option maxHeartbeats 4000000 in
set_option maxRecDepth 100000 in
theorem k_X2_hasPoint (l : Launch) (D : va_G) (cI cS : ClassId) (a : Nat → Nat) (na nc N : Nat) (L u : SU) (hL : TyX L) (hN : N = 0 ∨ N = 24576) (x0 : Int32) : Met l yX2_hasPoint wsX2_hasPoint ({ frames := 0, cells := 0, slots := 0, locals := 0 }) (PS D cI cS (wX cI cS a na nc N L u) [.ref (a 1), .int x0]) (vp_Si (fun r => Rg 0 1 r ∧ (r ≠ 0 → Rg 0 11 x0))) 0 0 (fun _ => False) := by
  refine Met.ofW (cc := cX2_hasPoint) (maxL := 2) (ret := (some .boolean)) (by decide) rfl ?_
  intro p e s m args below meth c s₁ B hml hv
  obtain ⟨rfl, hP, hKK⟩ := hv
  have hx := B.exec
  have hb := B.bytes
  have hr := B.returns
  have hts := atoms_spec (ws := wsX2_hasPoint) B.pre
  have hown : s.vm.findClass RX2 = some m.cls := findClass_of_methodNamed B.named
  have hlocks := B.notSynchronized
  have hK := hKK.1
  have hin2 : ∀ w ∈ wsX20, w ∈ wsX2_hasPoint := by decide +kernel
  have hl := lv_entry ([.ref (a 1), .int x0]) (n := 2) (Nat.le_of_ble_eq_true rfl)
  rw [lg_entry_eq]
  generalize (lg_sl ([.ref (a 1), .int x0]) ++ List.replicate (2 - (lg_sl ([.ref (a 1), .int x0])).length) Slot.unset).toArray = ls at hl ⊢
  have hl : lv_has ls 2 [(0, .ref (a 1)), (1, .int x0)] := hl
  refine lv_iload_n hx hb dX2_hasPoint_0 rfl (lv_at hl 1 rfl) ?_
  refine lv_if_lt (tgt := 16) hx hb dX2_hasPoint_1 (by decide) (fun c31174 => ?_) (fun c31174 => ?_)
  · have g31175 : Rg (-2147483648) (-1) x0 := rg_ltl (rg_any x0) (by decide : Rg 0 0 (0 : Int32)) c31174 (by decide)
    refine lv_iconst (v := 0) hx hb dX2_hasPoint_16 (by decide) ?_
    exact W.zret (v := 0) hx hb hr (by decide) (fun t ht hW => ⟨_, rfl, ⟨(by decide : Rg 0 1 (0 : Int32)), fun h9 => absurd rfl h9⟩, ht⟩) (fun q hq => absurd hq List.not_mem_nil) dX2_hasPoint_17
  · have g31176 : Rg 0 2147483647 x0 := rg_ler (by decide : Rg 0 0 (0 : Int32)) (rg_any x0) (rg_nlt c31174) (by decide)
    refine lv_iload_n hx hb dX2_hasPoint_4 rfl (lv_at hl 1 rfl) ?_
    refine lv_aload_n hx hb dX2_hasPoint_5 rfl (lv_at hl 0 rfl) ?_
    refine va_get (D := D) (ci := 2) (v := .int (L 1 1)) (C := RX2) (T := TX2) (N := 3) hx hb hts hin2 hown hK hP 1 rfl rfl 1 (by decide) (hts (.fieldLink RX2 15 "MissedPoints$Net" "size" "I") (by decide +kernel)) (fun _ h9 => h9) rfl dX2_hasPoint_6 ?_
    refine lv_icmp_ge (tgt := 16) hx hb dX2_hasPoint_9 (by decide) (fun c31177 => ?_) (fun c31177 => ?_)
    · refine lv_iconst (v := 0) hx hb dX2_hasPoint_16 (by decide) ?_
      exact W.zret (v := 0) hx hb hr (by decide) (fun t ht hW => ⟨_, rfl, ⟨(by decide : Rg 0 1 (0 : Int32)), fun h9 => absurd rfl h9⟩, ht⟩) (fun q hq => absurd hq List.not_mem_nil) dX2_hasPoint_17
    · have g31178 : Rg 1 12 (L 1 1) := rg_ltr g31176 hL.1 (rg_nle c31177) (by decide)
      have g31179 : Rg 0 11 x0 := rg_ltl g31176 hL.1 (rg_nle c31177) (by decide)
      refine lv_iconst (v := 1) hx hb dX2_hasPoint_12 (by decide) ?_
      refine lv_goto (tgt := 17) hx hb dX2_hasPoint_13 (by decide) ?_
      exact W.zret (v := 1) hx hb hr (by decide) (fun t ht hW => ⟨_, rfl, ⟨(by decide : Rg 0 1 (1 : Int32)), fun _ => g31179⟩, ht⟩) (fun q hq => absurd hq List.not_mem_nil) dX2_hasPoint_17
set_option maxHeartbeats 4000000 in
set_option maxRecDepth 100000 in
theorem k_X2_hasAll (l : Launch) (D : va_G) (cI cS : ClassId) (a : Nat → Nat) (na nc N : Nat) (L u : SU) (hL : TyX L) (hN : N = 0 ∨ N = 24576) (x0 : Int32) : Met l yX2_hasAll wsX2_hasAll ({ frames := 1, cells := 0, slots := 0, locals := 40 }) (PS D cI cS (wX cI cS a na nc N L u) [.ref (a 1), .int x0]) (vp_Si (fun r => Rg 0 1 r ∧ (r ≠ 0 → Rg 0 4095 x0))) 0 0 (fun _ => False) := by
  refine Met.ofW (cc := cX2_hasAll) (maxL := 2) (ret := (some .boolean)) (by decide) rfl ?_
  intro p e s m args below meth c s₁ B hml hv
  obtain ⟨rfl, hP, hKK⟩ := hv
  have hx := B.exec
  have hb := B.bytes
  have hr := B.returns
  have hts := atoms_spec (ws := wsX2_hasAll) B.pre
  have hown : s.vm.findClass RX2 = some m.cls := findClass_of_methodNamed B.named
  have hlocks := B.notSynchronized
  have hK := hKK.1
  have hl := lv_entry ([.ref (a 1), .int x0]) (n := 2) (Nat.le_of_ble_eq_true rfl)
  rw [lg_entry_eq]
  generalize (lg_sl ([.ref (a 1), .int x0]) ++ List.replicate (2 - (lg_sl ([.ref (a 1), .int x0])).length) Slot.unset).toArray = ls at hl ⊢
  have hl : lv_has ls 2 [(0, .ref (a 1)), (1, .int x0)] := hl
  refine lv_iload_n hx hb dX2_hasAll_0 rfl (lv_at hl 1 rfl) ?_
  refine lv_aload_n hx hb dX2_hasAll_1 rfl (lv_at hl 0 rfl) ?_
  refine wk_sv 1 (As := []) (rest := [.int x0]) ⟨hx, hb, hml, hown, hts⟩ (k_X2_all l D cI cS a na nc N L u hL hN) hKK hP (ci := 2) rfl rfl (cwV 0 hts gX2_hasAll_X2_all rfl rfl rfl (by decide +kernel) ⟨Nat.le_of_ble_eq_true rfl, Nat.le_of_ble_eq_true rfl⟩) rfl hl.1 rfl (Nat.le_of_ble_eq_true rfl) dX2_hasAll_2 ⟨Nat.le_of_ble_eq_true rfl, Nat.le_of_ble_eq_true rfl⟩ (fun r31186 hr31186 => ?_)
  refine lv_iconst (v := (-1)) hx hb dX2_hasAll_5 (by decide) ?_
  refine lv_ixor hx hb dX2_hasAll_6 ?_
  refine wk_topP (P := fun r => r = r31186 ^^^ ((-1) : Int32)) rfl (fun r31187 qr31187 => ?_)
  refine lv_iand hx hb dX2_hasAll_7 ?_
  refine wk_topP (P := fun r => r = x0 &&& r31187) rfl (fun r31188 qr31188 => ?_)
  refine lv_if_ne (tgt := 15) hx hb dX2_hasAll_8 (by decide) (fun c31189 => ?_) (fun c31189 => ?_)
  · refine lv_iconst (v := 0) hx hb dX2_hasAll_15 (by decide) ?_
    exact W.zret (v := 0) hx hb hr (by decide) (fun t ht hW => ⟨_, rfl, ⟨(by decide : Rg 0 1 (0 : Int32)), fun h9 => absurd rfl h9⟩, ht⟩) (fun q hq => absurd hq List.not_mem_nil) dX2_hasAll_16
  · have g31190 : Rg 0 4095 x0 := wk_set hr31186.1 (by decide) (by rw [← qr31187, ← qr31188]; exact c31189)
    have g31191 : Rg 0 0 r31188 := wk_eql (rg_any r31188) (by decide : Rg 0 0 (0 : Int32)) c31189 (by decide)
    refine lv_iconst (v := 1) hx hb dX2_hasAll_11 (by decide) ?_
    refine lv_goto (tgt := 16) hx hb dX2_hasAll_12 (by decide) ?_
    exact W.zret (v := 1) hx hb hr (by decide) (fun t ht hW => ⟨_, rfl, ⟨(by decide : Rg 0 1 (1 : Int32)), fun _ => g31190⟩, ht⟩) (fun q hq => absurd hq List.not_mem_nil) dX2_hasAll_16
set_option maxHeartbeats 4000000 in
set_option maxRecDepth 100000 in
theorem k_X2_areTwo (l : Launch) (D : va_G) (cI cS : ClassId) (a : Nat → Nat) (na nc N : Nat) (L u : SU) (hL : TyX L) (hN : N = 0 ∨ N = 24576) (x0 x1 : Int32) : Met l yX2_areTwo wsX2_areTwo ({ frames := 1, cells := 0, slots := 0, locals := 40 }) (PS D cI cS (wX cI cS a na nc N L u) [.ref (a 1), .int x0, .int x1]) (vp_Si (fun r => Rg 0 1 r ∧ (r ≠ 0 → Rg 0 11 x0 ∧ Rg 0 11 x1))) 0 0 (fun _ => False) := by
  refine Met.ofW (cc := cX2_areTwo) (maxL := 3) (ret := (some .boolean)) (by decide) rfl ?_
  intro p e s m args below meth c s₁ B hml hv
  obtain ⟨rfl, hP, hKK⟩ := hv
  have hx := B.exec
  have hb := B.bytes
  have hr := B.returns
  have hts := atoms_spec (ws := wsX2_areTwo) B.pre
  have hown : s.vm.findClass RX2 = some m.cls := findClass_of_methodNamed B.named
  have hlocks := B.notSynchronized
  have hK := hKK.1
  have hl := lv_entry ([.ref (a 1), .int x0, .int x1]) (n := 3) (Nat.le_of_ble_eq_true rfl)
  rw [lg_entry_eq]
  generalize (lg_sl ([.ref (a 1), .int x0, .int x1]) ++ List.replicate (3 - (lg_sl ([.ref (a 1), .int x0, .int x1])).length) Slot.unset).toArray = ls at hl ⊢
  have hl : lv_has ls 3 [(0, .ref (a 1)), (1, .int x0), (2, .int x1)] := hl
  refine lv_aload_n hx hb dX2_areTwo_0 rfl (lv_at hl 0 rfl) ?_
  refine lv_iload_n hx hb dX2_areTwo_1 rfl (lv_at hl 1 rfl) ?_
  refine wk_sv 1 (As := [.int x0]) (rest := []) ⟨hx, hb, hml, hown, hts⟩ (k_X2_hasPoint l D cI cS a na nc N L u hL hN x0) hKK hP (ci := 2) rfl rfl (cwV 1 hts gX2_areTwo_X2_hasPoint rfl rfl rfl (by decide +kernel) ⟨Nat.le_of_ble_eq_true rfl, Nat.le_of_ble_eq_true rfl⟩) rfl hl.1 rfl (Nat.le_of_ble_eq_true rfl) dX2_areTwo_2 ⟨Nat.le_of_ble_eq_true rfl, Nat.le_of_ble_eq_true rfl⟩ (fun r31203 hr31203 => ?_)
  refine lv_if_eq (tgt := 25) hx hb dX2_areTwo_5 (by decide) (fun c31204 => ?_) (fun c31204 => ?_)
  · have g31205 : Rg 0 0 r31203 := wk_eql hr31203.1 (by decide : Rg 0 0 (0 : Int32)) c31204 (by decide)
    refine lv_iconst (v := 0) hx hb dX2_areTwo_25 (by decide) ?_
    exact W.zret (v := 0) hx hb hr (by decide) (fun t ht hW => ⟨_, rfl, ⟨(by decide : Rg 0 1 (0 : Int32)), fun h9 => absurd rfl h9⟩, ht⟩) (fun q hq => absurd hq List.not_mem_nil) dX2_areTwo_26
  · have g31206 : Rg 0 11 x0 := (hr31203.2 c31204)
    have g31207 : Rg 1 1 r31203 := rg_ne_lo (k := 0) hr31203.1 (by decide) c31204 (by decide)
    refine lv_aload_n hx hb dX2_areTwo_8 rfl (lv_at hl 0 rfl) ?_
    refine lv_iload_n hx hb dX2_areTwo_9 rfl (lv_at hl 2 rfl) ?_
    refine wk_sv 1 (As := [.int x1]) (rest := []) ⟨hx, hb, hml, hown, hts⟩ (k_X2_hasPoint l D cI cS a na nc N L u hL hN x1) hKK hP (ci := 2) rfl rfl (cwV 1 hts gX2_areTwo_X2_hasPoint rfl rfl rfl (by decide +kernel) ⟨Nat.le_of_ble_eq_true rfl, Nat.le_of_ble_eq_true rfl⟩) rfl hl.1 rfl (Nat.le_of_ble_eq_true rfl) dX2_areTwo_10 ⟨Nat.le_of_ble_eq_true rfl, Nat.le_of_ble_eq_true rfl⟩ (fun r31208 hr31208 => ?_)
    refine lv_if_eq (tgt := 25) hx hb dX2_areTwo_13 (by decide) (fun c31209 => ?_) (fun c31209 => ?_)
    · have g31210 : Rg 0 0 r31208 := wk_eql hr31208.1 (by decide : Rg 0 0 (0 : Int32)) c31209 (by decide)
      refine lv_iconst (v := 0) hx hb dX2_areTwo_25 (by decide) ?_
      exact W.zret (v := 0) hx hb hr (by decide) (fun t ht hW => ⟨_, rfl, ⟨(by decide : Rg 0 1 (0 : Int32)), fun h9 => absurd rfl h9⟩, ht⟩) (fun q hq => absurd hq List.not_mem_nil) dX2_areTwo_26
    · have g31211 : Rg 0 11 x1 := (hr31208.2 c31209)
      have g31212 : Rg 1 1 r31208 := rg_ne_lo (k := 0) hr31208.1 (by decide) c31209 (by decide)
      refine lv_iload_n hx hb dX2_areTwo_16 rfl (lv_at hl 1 rfl) ?_
      refine lv_iload_n hx hb dX2_areTwo_17 rfl (lv_at hl 2 rfl) ?_
      refine lv_icmp_eq (tgt := 25) hx hb dX2_areTwo_18 (by decide) (fun c31213 => ?_) (fun c31213 => ?_)
      · refine lv_iconst (v := 0) hx hb dX2_areTwo_25 (by decide) ?_
        exact W.zret (v := 0) hx hb hr (by decide) (fun t ht hW => ⟨_, rfl, ⟨(by decide : Rg 0 1 (0 : Int32)), fun h9 => absurd rfl h9⟩, ht⟩) (fun q hq => absurd hq List.not_mem_nil) dX2_areTwo_26
      · refine lv_iconst (v := 1) hx hb dX2_areTwo_21 (by decide) ?_
        refine lv_goto (tgt := 26) hx hb dX2_areTwo_22 (by decide) ?_
        exact W.zret (v := 1) hx hb hr (by decide) (fun t ht hW => ⟨_, rfl, ⟨(by decide : Rg 0 1 (1 : Int32)), fun _ => ⟨g31206, g31211⟩⟩, ht⟩) (fun q hq => absurd hq List.not_mem_nil) dX2_areTwo_26
set_option maxRecDepth 20000 in
theorem ggX2_joined_X2_areTwo : GoodIn wsX2_joined wsX2_areTwo := goodIn_r _ [6, 7, 8, 9, 5, 10, 11, 12, 13, 14] rfl (by decide +kernel)
set_option maxRecDepth 20000 in
theorem gX2_joined_X2_areTwo : GoodIn wsX2_joined (wsV RX2 36 RX2 yX2_areTwo wsX2_areTwo) := goodIn_app (goodIn_of _ (by decide +kernel)) ggX2_joined_X2_areTwo
theorem dX2_joined_0 : decode cX2_joined 0 = .ok (.aload_n 0, 1) := by decide +kernel
theorem dX2_joined_1 : decode cX2_joined 1 = .ok (.iload_n 1, 1) := by decide +kernel
theorem dX2_joined_10 : decode cX2_joined 10 = .ok (.getfield 9, 3) := by decide +kernel
theorem dX2_joined_13 : decode cX2_joined 13 = .ok (.iload_n 1, 1) := by decide +kernel
theorem dX2_joined_14 : decode cX2_joined 14 = .ok (.iaload, 1) := by decide +kernel
theorem dX2_joined_15 : decode cX2_joined 15 = .ok (.iload_n 2, 1) := by decide +kernel
theorem dX2_joined_16 : decode cX2_joined 16 = .ok (.ishr, 1) := by decide +kernel
theorem dX2_joined_17 : decode cX2_joined 17 = .ok (.iconst 1, 1) := by decide +kernel
theorem dX2_joined_18 : decode cX2_joined 18 = .ok (.iand, 1) := by decide +kernel
theorem dX2_joined_19 : decode cX2_joined 19 = .ok (.ifCond .eq 7, 3) := by decide +kernel
theorem dX2_joined_2 : decode cX2_joined 2 = .ok (.iload_n 2, 1) := by decide +kernel
theorem dX2_joined_22 : decode cX2_joined 22 = .ok (.iconst 1, 1) := by decide +kernel
theorem dX2_joined_23 : decode cX2_joined 23 = .ok (.goto 4, 3) := by decide +kernel
theorem dX2_joined_26 : decode cX2_joined 26 = .ok (.iconst 0, 1) := by decide +kernel
theorem dX2_joined_27 : decode cX2_joined 27 = .ok (.ireturn, 1) := by decide +kernel
theorem dX2_joined_3 : decode cX2_joined 3 = .ok (.invokevirtual 36, 3) := by decide +kernel
theorem dX2_joined_6 : decode cX2_joined 6 = .ok (.ifCond .eq 20, 3) := by decide +kernel
theorem dX2_joined_9 : decode cX2_joined 9 = .ok (.aload_n 0, 1) := by decide +kernel
set_option maxHeartbeats 4000000 in
set_option maxRecDepth 100000 in
theorem k_X2_joined (l : Launch) (D : va_G) (cI cS : ClassId) (a : Nat → Nat) (na nc N : Nat) (L u : SU) (hL : TyX L) (hN : N = 0 ∨ N = 24576) (x0 x1 : Int32) : Met l yX2_joined wsX2_joined ({ frames := 2, cells := 0, slots := 0, locals := 80 }) (PS D cI cS (wX cI cS a na nc N L u) [.ref (a 1), .int x0, .int x1]) (vp_Si (fun r => Rg 0 1 r ∧ (r ≠ 0 → Rg 0 11 x0 ∧ Rg 0 11 x1))) 0 0 (fun _ => False) := by
  refine Met.ofW (cc := cX2_joined) (maxL := 3) (ret := (some .boolean)) (by decide) rfl ?_
  intro p e s m args below meth c s₁ B hml hv
  obtain ⟨rfl, hP, hKK⟩ := hv
  have hx := B.exec
  have hb := B.bytes
  have hr := B.returns
  have hts := atoms_spec (ws := wsX2_joined) B.pre
  have hown : s.vm.findClass RX2 = some m.cls := findClass_of_methodNamed B.named
  have hlocks := B.notSynchronized
  have hK := hKK.1
  have hin2 : ∀ w ∈ wsX20, w ∈ wsX2_joined := by decide +kernel
  have hl := lv_entry ([.ref (a 1), .int x0, .int x1]) (n := 3) (Nat.le_of_ble_eq_true rfl)
  rw [lg_entry_eq]
  generalize (lg_sl ([.ref (a 1), .int x0, .int x1]) ++ List.replicate (3 - (lg_sl ([.ref (a 1), .int x0, .int x1])).length) Slot.unset).toArray = ls at hl ⊢
  have hl : lv_has ls 3 [(0, .ref (a 1)), (1, .int x0), (2, .int x1)] := hl
  refine lv_aload_n hx hb dX2_joined_0 rfl (lv_at hl 0 rfl) ?_
  refine lv_iload_n hx hb dX2_joined_1 rfl (lv_at hl 1 rfl) ?_
  refine lv_iload_n hx hb dX2_joined_2 rfl (lv_at hl 2 rfl) ?_
  refine wk_sv 1 (As := [.int x0, .int x1]) (rest := []) ⟨hx, hb, hml, hown, hts⟩ (k_X2_areTwo l D cI cS a na nc N L u hL hN x0 x1) hKK hP (ci := 2) rfl rfl (cwV 2 hts gX2_joined_X2_areTwo rfl rfl rfl (by decide +kernel) ⟨Nat.le_of_ble_eq_true rfl, Nat.le_of_ble_eq_true rfl⟩) rfl hl.1 rfl (Nat.le_of_ble_eq_true rfl) dX2_joined_3 ⟨Nat.le_of_ble_eq_true rfl, Nat.le_of_ble_eq_true rfl⟩ (fun r31226 hr31226 => ?_)
  refine lv_if_eq (tgt := 26) hx hb dX2_joined_6 (by decide) (fun c31227 => ?_) (fun c31227 => ?_)
  · have g31228 : Rg 0 0 r31226 := wk_eql hr31226.1 (by decide : Rg 0 0 (0 : Int32)) c31227 (by decide)
    refine lv_iconst (v := 0) hx hb dX2_joined_26 (by decide) ?_
    exact W.zret (v := 0) hx hb hr (by decide) (fun t ht hW => ⟨_, rfl, ⟨(by decide : Rg 0 1 (0 : Int32)), fun h9 => absurd rfl h9⟩, ht⟩) (fun q hq => absurd hq List.not_mem_nil) dX2_joined_27
  · have g31229 : Rg 0 11 x0 := (hr31226.2 c31227).1
    have g31230 : Rg 0 11 x1 := (hr31226.2 c31227).2
    have g31231 : Rg 1 1 r31226 := rg_ne_lo (k := 0) hr31226.1 (by decide) c31227 (by decide)
    refine lv_aload_n hx hb dX2_joined_9 rfl (lv_at hl 0 rfl) ?_
    refine va_get (D := D) (ci := 2) (v := .ref (a 2)) (C := RX2) (T := TX2) (N := 3) hx hb hts hin2 hown hK hP 1 rfl rfl 0 (by decide) (hts (.fieldLink RX2 9 "MissedPoints$Net" "links" "[I") (by decide +kernel)) (fun _ h9 => h9) rfl dX2_joined_10 ?_
    refine lv_iload_n hx hb dX2_joined_13 rfl (lv_at hl 1 rfl) ?_
    refine wk_aldA hx hb hK hP 2 0 rfl rfl (rg_in g31229 (by decide) (by decide)) dX2_joined_14 (fun r31232 => ?_)
    refine lv_iload_n hx hb dX2_joined_15 rfl (lv_at hl 2 rfl) ?_
    refine lv_ishr hx hb dX2_joined_16 ?_
    refine wk_topP (P := fun r => r = r31232 >>> (x1 &&& 31)) rfl (fun r31233 qr31233 => ?_)
    refine lv_iconst (v := 1) hx hb dX2_joined_17 (by decide) ?_
    refine wk_iandr hx hb dX2_joined_18 (by decide : Rg 1 1 (1 : Int32)) (by decide) (fun r31234 hr31234 qr31234 => ?_)
    refine lv_if_eq (tgt := 26) hx hb dX2_joined_19 (by decide) (fun c31235 => ?_) (fun c31235 => ?_)
    · have g31236 : Rg 0 0 r31234 := wk_eql hr31234 (by decide : Rg 0 0 (0 : Int32)) c31235 (by decide)
      refine lv_iconst (v := 0) hx hb dX2_joined_26 (by decide) ?_
      exact W.zret (v := 0) hx hb hr (by decide) (fun t ht hW => ⟨_, rfl, ⟨(by decide : Rg 0 1 (0 : Int32)), fun h9 => absurd rfl h9⟩, ht⟩) (fun q hq => absurd hq List.not_mem_nil) dX2_joined_27
    · have g31237 : Rg 1 1 r31234 := rg_ne_lo (k := 0) hr31234 (by decide) c31235 (by decide)
      refine lv_iconst (v := 1) hx hb dX2_joined_22 (by decide) ?_
      refine lv_goto (tgt := 27) hx hb dX2_joined_23 (by decide) ?_
      exact W.zret (v := 1) hx hb hr (by decide) (fun t ht hW => ⟨_, rfl, ⟨(by decide : Rg 0 1 (1 : Int32)), fun _ => ⟨g31229, g31230⟩⟩, ht⟩) (fun q hq => absurd hq List.not_mem_nil) dX2_joined_27
theorem dX2_join_41 : decode cX2_join 41 = .ok (.aload_n 0, 1) := by decide +kernel
theorem dX2_join_42 : decode cX2_join 42 = .ok (.getfield 9, 3) := by decide +kernel
theorem dX2_join_45 : decode cX2_join 45 = .ok (.iload_n 1, 1) := by decide +kernel
theorem dX2_join_46 : decode cX2_join 46 = .ok (.dup2, 1) := by decide +kernel
theorem dX2_join_47 : decode cX2_join 47 = .ok (.iaload, 1) := by decide +kernel
theorem dX2_join_48 : decode cX2_join 48 = .ok (.iconst 1, 1) := by decide +kernel
theorem dX2_join_49 : decode cX2_join 49 = .ok (.iload_n 2, 1) := by decide +kernel
theorem dX2_join_50 : decode cX2_join 50 = .ok (.ishl, 1) := by decide +kernel
theorem dX2_join_51 : decode cX2_join 51 = .ok (.iconst (-1), 1) := by decide +kernel
theorem dX2_join_52 : decode cX2_join 52 = .ok (.ixor, 1) := by decide +kernel
theorem dX2_join_53 : decode cX2_join 53 = .ok (.iand, 1) := by decide +kernel
theorem dX2_join_54 : decode cX2_join 54 = .ok (.iastore, 1) := by decide +kernel
theorem dX2_join_55 : decode cX2_join 55 = .ok (.aload_n 0, 1) := by decide +kernel
theorem dX2_join_56 : decode cX2_join 56 = .ok (.getfield 9, 3) := by decide +kernel
theorem dX2_join_59 : decode cX2_join 59 = .ok (.iload_n 2, 1) := by decide +kernel
theorem dX2_join_60 : decode cX2_join 60 = .ok (.dup2, 1) := by decide +kernel
theorem dX2_join_61 : decode cX2_join 61 = .ok (.iaload, 1) := by decide +kernel
theorem dX2_join_62 : decode cX2_join 62 = .ok (.iconst 1, 1) := by decide +kernel
theorem dX2_join_63 : decode cX2_join 63 = .ok (.iload_n 1, 1) := by decide +kernel
theorem dX2_join_64 : decode cX2_join 64 = .ok (.ishl, 1) := by decide +kernel
theorem dX2_join_65 : decode cX2_join 65 = .ok (.iconst (-1), 1) := by decide +kernel
theorem dX2_join_66 : decode cX2_join 66 = .ok (.ixor, 1) := by decide +kernel
theorem dX2_join_67 : decode cX2_join 67 = .ok (.iand, 1) := by decide +kernel
theorem dX2_join_68 : decode cX2_join 68 = .ok (.iastore, 1) := by decide +kernel
theorem dX2_join_9 : decode cX2_join 9 = .ok (.return_, 1) := by decide +kernel
set_option maxHeartbeats 4000000 in
set_option maxRecDepth 100000 in
theorem k_X2_join (l : Launch) (D : va_G) (cI cS : ClassId) (sz : Nat) (a : Nat → Nat) (na nc N : Nat) (L u0 : SU) (hL : TyX L) (hN : N = 0 ∨ N = 24576) (x0 x1 x2 : Int32) (px2 : Rg 0 1 x2) : Met l yX2_join wsX2_join ({ frames := 2, cells := 0, slots := 0, locals := 80 }) (PQ D cI cS (wX cI cS a na nc N L u0) sz [.ref (a 1), .int x0, .int x1, .int x2]) (QE (S := SU) D (wX cI cS a na nc N L u0) (wX cI cS a na nc N L) sz (fun _ => True)) 0 0 (va_A (wX cI cS a na nc N L u0) sz) := by
  refine Met.ofW (cc := cX2_join) (maxL := 4) (ret := none) (by decide) rfl ?_
  intro p e s m args below meth c s₁ B hml hv
  obtain ⟨rfl, hsz, hP, hKK, hD0⟩ := hv
  have hx := B.exec
  have hb := B.bytes
  have hr := B.returns
  have hts := atoms_spec (ws := wsX2_join) B.pre
  have hown : s.vm.findClass RX2 = some m.cls := findClass_of_methodNamed B.named
  have hlocks := B.notSynchronized
  have hK := hKK.1
  have hin2 : ∀ w ∈ wsX20, w ∈ wsX2_join := by decide +kernel
  subst hsz
  have hD := hD0.self (sz := s.heap.size)
  obtain ⟨A, hAe⟩ : ∃ A, A = va_A (wX cI cS a na nc N L u0) s.heap.size := ⟨_, rfl⟩
  rw [← hAe] at hD
  have hA : ∀ q : Nat, s.heap.size ≤ q → A q := fun q h => by rw [hAe]; exact Or.inr h
  have hS : va_S A s.heap s.heap [] := va_S.rf
  have hl := lv_entry ([.ref (a 1), .int x0, .int x1, .int x2]) (n := 4) (Nat.le_of_ble_eq_true rfl)
  rw [lg_entry_eq]
  generalize (lg_sl ([.ref (a 1), .int x0, .int x1, .int x2]) ++ List.replicate (4 - (lg_sl ([.ref (a 1), .int x0, .int x1, .int x2])).length) Slot.unset).toArray = ls at hl ⊢
  have hl : lv_has ls 4 [(0, .ref (a 1)), (1, .int x0), (2, .int x1), (3, .int x2)] := hl
  obtain ⟨u, hu9⟩ : ∃ u : SU, u = u0 := ⟨_, rfl⟩
  rw [← hu9] at hP hD
  refine lv_aload_n hx hb dX2_join_0 rfl (lv_at hl 0 rfl) ?_
  refine lv_iload_n hx hb dX2_join_1 rfl (lv_at hl 1 rfl) ?_
  refine lv_iload_n hx hb dX2_join_2 rfl (lv_at hl 2 rfl) ?_
  refine wk_sv 1 (As := [.int x0, .int x1]) (rest := []) ⟨hx, hb, hml, hown, hts⟩ (k_X2_areTwo l D cI cS a na nc N L u hL hN x0 x1) hKK hP (ci := 2) rfl rfl (cwV 2 hts gX2_join_X2_areTwo rfl rfl rfl (by decide +kernel) ⟨Nat.le_of_ble_eq_true rfl, Nat.le_of_ble_eq_true rfl⟩) rfl hl.1 rfl (Nat.le_of_ble_eq_true rfl) dX2_join_3 ⟨Nat.le_of_ble_eq_true rfl, Nat.le_of_ble_eq_true rfl⟩ (fun r31265 hr31265 => ?_)
  refine lv_if_ne (tgt := 10) hx hb dX2_join_6 (by decide) (fun c31266 => ?_) (fun c31266 => ?_)
  · have g31267 : Rg 0 11 x0 := (hr31265.2 c31266).1
    have g31268 : Rg 0 11 x1 := (hr31265.2 c31266).2
    have g31269 : Rg 1 1 r31265 := rg_ne_lo (k := 0) hr31265.1 (by decide) c31266 (by decide)
    refine lv_iload_n hx hb dX2_join_10 rfl (lv_at hl 3 rfl) ?_
    refine lv_if_eq (tgt := 41) hx hb dX2_join_11 (by decide) (fun c31270 => ?_) (fun c31270 => ?_)
    · have g31271 : Rg 0 0 x2 := wk_eql px2 (by decide : Rg 0 0 (0 : Int32)) c31270 (by decide)
      refine lv_aload_n hx hb dX2_join_41 rfl (lv_at hl 0 rfl) ?_
      refine va_get (D := D) (ci := 2) (v := .ref (a 2)) (C := RX2) (T := TX2) (N := 3) hx hb hts hin2 hown hK hP 1 rfl rfl 0 (by decide) (hts (.fieldLink RX2 9 "MissedPoints$Net" "links" "[I") (by decide +kernel)) (fun _ h9 => h9) rfl dX2_join_42 ?_
      refine lv_iload_n hx hb dX2_join_45 rfl (lv_at hl 1 rfl) ?_
      refine lv_dup2_11 hx hb dX2_join_46 rfl rfl ?_
      refine wk_aldA hx hb hK hP 2 0 rfl rfl (rg_in g31267 (by decide) (by decide)) dX2_join_47 (fun r31272 => ?_)
      refine lv_iconst (v := 1) hx hb dX2_join_48 (by decide) ?_
      refine lv_iload_n hx hb dX2_join_49 rfl (lv_at hl 2 rfl) ?_
      refine wk_ishl1 (f := 2048) hx hb dX2_join_50 g31268 (by decide) (fun r31273 hr31273 qr31273 => ?_)
      refine lv_iconst (v := (-1)) hx hb dX2_join_51 (by decide) ?_
      refine lv_ixor hx hb dX2_join_52 ?_
      refine wk_topP (P := fun r => r = r31273 ^^^ ((-1) : Int32)) rfl (fun r31274 qr31274 => ?_)
      refine lv_iand hx hb dX2_join_53 ?_
      refine wk_topP (P := fun r => r = r31272 &&& r31274) rfl (fun r31275 qr31275 => ?_)
      refine ks_ast hx hb hK hP hD hS rfl (k := 2) rfl sx_2 (rg_in g31267 (by decide) (by decide)) dX2_join_54 (fun u H locs hP hD hS => ?_)
      refine lv_aload_n hx hb dX2_join_55 rfl (lv_at hl 0 rfl) ?_
      refine va_get (D := D) (ci := 2) (v := .ref (a 2)) (C := RX2) (T := TX2) (N := 3) hx hb hts hin2 hown hK hP 1 rfl rfl 0 (by decide) (hts (.fieldLink RX2 9 "MissedPoints$Net" "links" "[I") (by decide +kernel)) (fun _ h9 => h9) rfl dX2_join_56 ?_
      refine lv_iload_n hx hb dX2_join_59 rfl (lv_at hl 2 rfl) ?_
      refine lv_dup2_11 hx hb dX2_join_60 rfl rfl ?_
      refine wk_aldA hx hb hK hP 2 0 rfl rfl (rg_in g31268 (by decide) (by decide)) dX2_join_61 (fun r31276 => ?_)
      refine lv_iconst (v := 1) hx hb dX2_join_62 (by decide) ?_
      refine lv_iload_n hx hb dX2_join_63 rfl (lv_at hl 1 rfl) ?_
      refine wk_ishl1 (f := 2048) hx hb dX2_join_64 g31267 (by decide) (fun r31277 hr31277 qr31277 => ?_)
      refine lv_iconst (v := (-1)) hx hb dX2_join_65 (by decide) ?_
      refine lv_ixor hx hb dX2_join_66 ?_
      refine wk_topP (P := fun r => r = r31277 ^^^ ((-1) : Int32)) rfl (fun r31278 qr31278 => ?_)
      refine lv_iand hx hb dX2_join_67 ?_
      refine wk_topP (P := fun r => r = r31276 &&& r31278) rfl (fun r31279 qr31279 => ?_)
      refine ks_ast hx hb hK hP hD hS rfl (k := 2) rfl sx_2 (rg_in g31268 (by decide) (by decide)) dX2_join_68 (fun u H locs hP hD hS => ?_)
      refine lv_aload_n hx hb dX2_join_69 rfl (lv_at hl 0 rfl) ?_
      refine lv_dup hx hb dX2_join_70 rfl ?_
      refine va_get (D := D) (ci := 2) (v := .int (u 1 2)) (C := RX2) (T := TX2) (N := 3) hx hb hts hin2 hown hK hP 1 rfl rfl 2 (by decide) (hts (.fieldLink RX2 33 "MissedPoints$Net" "changes" "I") (by decide +kernel)) (fun _ h9 => h9) rfl dX2_join_71 ?_
      refine wk_any (fun r31280 => ?_)
      refine lv_iconst (v := 1) hx hb dX2_join_74 (by decide) ?_
      refine lv_iadd hx hb dX2_join_75 ?_
      refine wk_topP (P := fun r => r = r31280 + (1 : Int32)) rfl (fun r31281 qr31281 => ?_)
      refine va_put (D := D) (ci := 2) (v := .int r31281) (ty := .int) (C := RX2) (T := TX2) (N := 3) hx hb hts hin2 tyX2 tyX2_ok nmX2 hown hK hP hD hS 1 rfl rfl 2 (by decide) (hts (.fieldLink RX2 33 "MissedPoints$Net" "changes" "I") (by decide +kernel)) (fun _ h9 => h9) rfl (by decide +kernel) rfl rfl (Nat.le_of_ble_eq_true rfl) dX2_join_76 (fun H locs hP hD hS => ?_)
      rw [sxf_1_2] at hP hD
      generalize sU u 1 _ = u at hP hD
      subst hAe
      exact W.vret hx hb hr (fun t ht hW => ⟨⟨u, rfl, trivial, by rw [ht]; exact hP, hD⟩, hS.F ht⟩) hS.2.2 dX2_join_79
    · have g31282 : Rg 1 1 x2 := rg_ne_lo (k := 0) px2 (by decide) c31270 (by decide)
      refine lv_aload_n hx hb dX2_join_14 rfl (lv_at hl 0 rfl) ?_
      refine va_get (D := D) (ci := 2) (v := .ref (a 2)) (C := RX2) (T := TX2) (N := 3) hx hb hts hin2 hown hK hP 1 rfl rfl 0 (by decide) (hts (.fieldLink RX2 9 "MissedPoints$Net" "links" "[I") (by decide +kernel)) (fun _ h9 => h9) rfl dX2_join_15 ?_
      refine lv_iload_n hx hb dX2_join_18 rfl (lv_at hl 1 rfl) ?_
      refine lv_dup2_11 hx hb dX2_join_19 rfl rfl ?_
      refine wk_aldA hx hb hK hP 2 0 rfl rfl (rg_in g31267 (by decide) (by decide)) dX2_join_20 (fun r31283 => ?_)
      refine lv_iconst (v := 1) hx hb dX2_join_21 (by decide) ?_
      refine lv_iload_n hx hb dX2_join_22 rfl (lv_at hl 2 rfl) ?_
      refine wk_ishl1 (f := 2048) hx hb dX2_join_23 g31268 (by decide) (fun r31284 hr31284 qr31284 => ?_)
      refine lv_ior hx hb dX2_join_24 ?_
      refine wk_topP (P := fun r => r = r31283 ||| r31284) rfl (fun r31285 qr31285 => ?_)
      refine ks_ast hx hb hK hP hD hS rfl (k := 2) rfl sx_2 (rg_in g31267 (by decide) (by decide)) dX2_join_25 (fun u H locs hP hD hS => ?_)
      refine lv_aload_n hx hb dX2_join_26 rfl (lv_at hl 0 rfl) ?_
      refine va_get (D := D) (ci := 2) (v := .ref (a 2)) (C := RX2) (T := TX2) (N := 3) hx hb hts hin2 hown hK hP 1 rfl rfl 0 (by decide) (hts (.fieldLink RX2 9 "MissedPoints$Net" "links" "[I") (by decide +kernel)) (fun _ h9 => h9) rfl dX2_join_27 ?_
      refine lv_iload_n hx hb dX2_join_30 rfl (lv_at hl 2 rfl) ?_
      refine lv_dup2_11 hx hb dX2_join_31 rfl rfl ?_
      refine wk_aldA hx hb hK hP 2 0 rfl rfl (rg_in g31268 (by decide) (by decide)) dX2_join_32 (fun r31286 => ?_)
      refine lv_iconst (v := 1) hx hb dX2_join_33 (by decide) ?_
      refine lv_iload_n hx hb dX2_join_34 rfl (lv_at hl 1 rfl) ?_
      refine wk_ishl1 (f := 2048) hx hb dX2_join_35 g31267 (by decide) (fun r31287 hr31287 qr31287 => ?_)
      refine lv_ior hx hb dX2_join_36 ?_
      refine wk_topP (P := fun r => r = r31286 ||| r31287) rfl (fun r31288 qr31288 => ?_)
      refine ks_ast hx hb hK hP hD hS rfl (k := 2) rfl sx_2 (rg_in g31268 (by decide) (by decide)) dX2_join_37 (fun u H locs hP hD hS => ?_)
      refine lv_goto (tgt := 69) hx hb dX2_join_38 (by decide) ?_
      refine lv_aload_n hx hb dX2_join_69 rfl (lv_at hl 0 rfl) ?_
      refine lv_dup hx hb dX2_join_70 rfl ?_
      refine va_get (D := D) (ci := 2) (v := .int (u 1 2)) (C := RX2) (T := TX2) (N := 3) hx hb hts hin2 hown hK hP 1 rfl rfl 2 (by decide) (hts (.fieldLink RX2 33 "MissedPoints$Net" "changes" "I") (by decide +kernel)) (fun _ h9 => h9) rfl dX2_join_71 ?_
      refine wk_any (fun r31289 => ?_)
      refine lv_iconst (v := 1) hx hb dX2_join_74 (by decide) ?_
      refine lv_iadd hx hb dX2_join_75 ?_
      refine wk_topP (P := fun r => r = r31289 + (1 : Int32)) rfl (fun r31290 qr31290 => ?_)
      refine va_put (D := D) (ci := 2) (v := .int r31290) (ty := .int) (C := RX2) (T := TX2) (N := 3) hx hb hts hin2 tyX2 tyX2_ok nmX2 hown hK hP hD hS 1 rfl rfl 2 (by decide) (hts (.fieldLink RX2 33 "MissedPoints$Net" "changes" "I") (by decide +kernel)) (fun _ h9 => h9) rfl (by decide +kernel) rfl rfl (Nat.le_of_ble_eq_true rfl) dX2_join_76 (fun H locs hP hD hS => ?_)
      rw [sxf_1_2] at hP hD
      generalize sU u 1 _ = u at hP hD
      subst hAe
      exact W.vret hx hb hr (fun t ht hW => ⟨⟨u, rfl, trivial, by rw [ht]; exact hP, hD⟩, hS.F ht⟩) hS.2.2 dX2_join_79
  · have g31291 : Rg 0 0 r31265 := wk_eql hr31265.1 (by decide : Rg 0 0 (0 : Int32)) c31266 (by decide)
    subst hAe
    exact W.vret hx hb hr (fun t ht hW => ⟨⟨u, rfl, trivial, by rw [ht]; exact hP, hD⟩, hS.F ht⟩) hS.2.2 dX2_join_9
set_option maxRecDepth 20000 in
theorem ggX2_near_X2_hasPoint : GoodIn wsX2_near wsX2_hasPoint := goodIn_r _ [6, 7, 8, 9, 10] rfl (by decide +kernel)
set_option maxRecDepth 20000 in
theorem gX2_near_X2_hasPoint : GoodIn wsX2_near (wsV RX2 23 RX2 yX2_hasPoint wsX2_hasPoint) := goodIn_app (goodIn_of _ (by decide +kernel)) ggX2_near_X2_hasPoint
theorem dX2_near_0 : decode cX2_near 0 = .ok (.aload_n 0, 1) := by decide +kernel
theorem dX2_near_1 : decode cX2_near 1 = .ok (.iload_n 1, 1) := by decide +kernel
theorem dX2_near_12 : decode cX2_near 12 = .ok (.iload_n 1, 1) := by decide +kernel
theorem dX2_near_13 : decode cX2_near 13 = .ok (.iaload, 1) := by decide +kernel
theorem dX2_near_14 : decode cX2_near 14 = .ok (.goto 4, 3) := by decide +kernel
theorem dX2_near_17 : decode cX2_near 17 = .ok (.iconst 0, 1) := by decide +kernel
theorem dX2_near_18 : decode cX2_near 18 = .ok (.ireturn, 1) := by decide +kernel
theorem dX2_near_2 : decode cX2_near 2 = .ok (.invokevirtual 23, 3) := by decide +kernel
theorem dX2_near_5 : decode cX2_near 5 = .ok (.ifCond .eq 12, 3) := by decide +kernel
theorem dX2_near_8 : decode cX2_near 8 = .ok (.aload_n 0, 1) := by decide +kernel
theorem dX2_near_9 : decode cX2_near 9 = .ok (.getfield 9, 3) := by decide +kernel
set_option maxHeartbeats 4000000 in
set_option maxRecDepth 100000 in
theorem k_X2_near (l : Launch) (D : va_G) (cI cS : ClassId) (a : Nat → Nat) (na nc N : Nat) (L u : SU) (hL : TyX L) (hN : N = 0 ∨ N = 24576) (x0 : Int32) : Met l yX2_near wsX2_near ({ frames := 1, cells := 0, slots := 0, locals := 40 }) (PS D cI cS (wX cI cS a na nc N L u) [.ref (a 1), .int x0]) (vp_Si (fun r => Rg (-2147483648) 2147483647 r ∧ True)) 0 0 (fun _ => False) := by
  refine Met.ofW (cc := cX2_near) (maxL := 2) (ret := (some .int)) (by decide) rfl ?_
  intro p e s m args below meth c s₁ B hml hv
  obtain ⟨rfl, hP, hKK⟩ := hv
  have hx := B.exec
  have hb := B.bytes
  have hr := B.returns
  have hts := atoms_spec (ws := wsX2_near) B.pre
  have hown : s.vm.findClass RX2 = some m.cls := findClass_of_methodNamed B.named
  have hlocks := B.notSynchronized
  have hK := hKK.1
  have hin2 : ∀ w ∈ wsX20, w ∈ wsX2_near := by decide +kernel
  have hl := lv_entry ([.ref (a 1), .int x0]) (n := 2) (Nat.le_of_ble_eq_true rfl)
  rw [lg_entry_eq]
  generalize (lg_sl ([.ref (a 1), .int x0]) ++ List.replicate (2 - (lg_sl ([.ref (a 1), .int x0])).length) Slot.unset).toArray = ls at hl ⊢
  have hl : lv_has ls 2 [(0, .ref (a 1)), (1, .int x0)] := hl
  refine lv_aload_n hx hb dX2_near_0 rfl (lv_at hl 0 rfl) ?_
  refine lv_iload_n hx hb dX2_near_1 rfl (lv_at hl 1 rfl) ?_
  refine wk_sv 1 (As := [.int x0]) (rest := []) ⟨hx, hb, hml, hown, hts⟩ (k_X2_hasPoint l D cI cS a na nc N L u hL hN x0) hKK hP (ci := 2) rfl rfl (cwV 1 hts gX2_near_X2_hasPoint rfl rfl rfl (by decide +kernel) ⟨Nat.le_of_ble_eq_true rfl, Nat.le_of_ble_eq_true rfl⟩) rfl hl.1 rfl (Nat.le_of_ble_eq_true rfl) dX2_near_2 ⟨Nat.le_of_ble_eq_true rfl, Nat.le_of_ble_eq_true rfl⟩ (fun r31298 hr31298 => ?_)
  refine lv_if_eq (tgt := 17) hx hb dX2_near_5 (by decide) (fun c31299 => ?_) (fun c31299 => ?_)
  · have g31300 : Rg 0 0 r31298 := wk_eql hr31298.1 (by decide : Rg 0 0 (0 : Int32)) c31299 (by decide)
    refine lv_iconst (v := 0) hx hb dX2_near_17 (by decide) ?_
    exact W.iret (v := 0) hx hb hr (fun t ht hW => ⟨_, rfl, ⟨(by decide : Rg (-2147483648) 2147483647 (0 : Int32)), trivial⟩, ht⟩) (fun q hq => absurd hq List.not_mem_nil) dX2_near_18
  · have g31301 : Rg 0 11 x0 := (hr31298.2 c31299)
    have g31302 : Rg 1 1 r31298 := rg_ne_lo (k := 0) hr31298.1 (by decide) c31299 (by decide)
    refine lv_aload_n hx hb dX2_near_8 rfl (lv_at hl 0 rfl) ?_
    refine va_get (D := D) (ci := 2) (v := .ref (a 2)) (C := RX2) (T := TX2) (N := 3) hx hb hts hin2 hown hK hP 1 rfl rfl 0 (by decide) (hts (.fieldLink RX2 9 "MissedPoints$Net" "links" "[I") (by decide +kernel)) (fun _ h9 => h9) rfl dX2_near_9 ?_
    refine lv_iload_n hx hb dX2_near_12 rfl (lv_at hl 1 rfl) ?_
    refine wk_aldA hx hb hK hP 2 0 rfl rfl (rg_in g31301 (by decide) (by decide)) dX2_near_13 (fun r31303 => ?_)
    refine lv_goto (tgt := 18) hx hb dX2_near_14 (by decide) ?_
    exact W.iret (v := r31303) hx hb hr (fun t ht hW => ⟨_, rfl, ⟨(rg_any r31303), trivial⟩, ht⟩) (fun q hq => absurd hq List.not_mem_nil) dX2_near_18
theorem dX2_nearAny_12 : decode cX2_nearAny 12 = .ok (.iload_n 1, 1) := by decide +kernel
theorem dX2_nearAny_13 : decode cX2_nearAny 13 = .ok (.iload_n 3, 1) := by decide +kernel
theorem dX2_nearAny_14 : decode cX2_nearAny 14 = .ok (.ishr, 1) := by decide +kernel
theorem dX2_nearAny_15 : decode cX2_nearAny 15 = .ok (.iconst 1, 1) := by decide +kernel
theorem dX2_nearAny_16 : decode cX2_nearAny 16 = .ok (.iand, 1) := by decide +kernel
theorem dX2_nearAny_17 : decode cX2_nearAny 17 = .ok (.ifCond .eq 12, 3) := by decide +kernel
theorem dX2_nearAny_20 : decode cX2_nearAny 20 = .ok (.iload_n 2, 1) := by decide +kernel
theorem dX2_nearAny_21 : decode cX2_nearAny 21 = .ok (.aload_n 0, 1) := by decide +kernel
theorem dX2_nearAny_22 : decode cX2_nearAny 22 = .ok (.getfield 9, 3) := by decide +kernel
theorem dX2_nearAny_25 : decode cX2_nearAny 25 = .ok (.iload_n 3, 1) := by decide +kernel
theorem dX2_nearAny_26 : decode cX2_nearAny 26 = .ok (.iaload, 1) := by decide +kernel
theorem dX2_nearAny_27 : decode cX2_nearAny 27 = .ok (.ior, 1) := by decide +kernel
theorem dX2_nearAny_28 : decode cX2_nearAny 28 = .ok (.istore_n 2, 1) := by decide +kernel
theorem dX2_nearAny_29 : decode cX2_nearAny 29 = .ok (.iinc 3 1, 3) := by decide +kernel
theorem dX2_nearAny_32 : decode cX2_nearAny 32 = .ok (.goto (-28), 3) := by decide +kernel
set_option maxHeartbeats 4000000 in
set_option maxRecDepth 100000 in
theorem k_X2_nearAny (l : Launch) (D : va_G) (cI cS : ClassId) (a : Nat → Nat) (na nc N : Nat) (L u : SU) (hL : TyX L) (hN : N = 0 ∨ N = 24576) (x0 : Int32) : Met l yX2_nearAny wsX2_nearAny ({ frames := 0, cells := 0, slots := 0, locals := 0 }) (PS D cI cS (wX cI cS a na nc N L u) [.ref (a 1), .int x0]) (vp_Si (fun r => Rg (-2147483648) 2147483647 r ∧ True)) 0 0 (fun _ => False) := by
  refine Met.ofW (cc := cX2_nearAny) (maxL := 4) (ret := (some .int)) (by decide) rfl ?_
  intro p e s m args below meth c s₁ B hml hv
  obtain ⟨rfl, hP, hKK⟩ := hv
  have hx := B.exec
  have hb := B.bytes
  have hr := B.returns
  have hts := atoms_spec (ws := wsX2_nearAny) B.pre
  have hown : s.vm.findClass RX2 = some m.cls := findClass_of_methodNamed B.named
  have hlocks := B.notSynchronized
  have hK := hKK.1
  have hin2 : ∀ w ∈ wsX20, w ∈ wsX2_nearAny := by decide +kernel
  have hl := lv_entry ([.ref (a 1), .int x0]) (n := 4) (Nat.le_of_ble_eq_true rfl)
  rw [lg_entry_eq]
  generalize (lg_sl ([.ref (a 1), .int x0]) ++ List.replicate (4 - (lg_sl ([.ref (a 1), .int x0])).length) Slot.unset).toArray = ls at hl ⊢
  have hl : lv_has ls 4 [(0, .ref (a 1)), (1, .int x0)] := hl
  have lp4 : ∀ (n4 : Nat) (y4_l2 : Int32) (y4_l3 : Int32) (ls : Array Slot), Rg 0 12 y4_l3 → lv_has ls 4 [(0, .ref (a 1)), (1, .int x0), (2, .int y4_l2), (3, .int y4_l3)] → 12 - y4_l3.toInt < (n4 : Int) → W p l e (headSpec wsX2_nearAny ({ frames := 0, cells := 0, slots := 0, locals := 0 })).room s m ([.ref (a 1), .int x0]).toArray below meth c s.heap [] 0 0 (MQ below (vp_Si (fun r => Rg (-2147483648) 2147483647 r ∧ True)) ([.ref (a 1), .int x0]).toArray s 0 0 (fun _ => False)) (F0 m 4 ls []) := by
    intro n4
    induction n4 with
    | zero =>
      intro y4_l2 y4_l3 ls g4_l3 hl hm4
      exact absurd rfl (me_z g4_l3 hm4)
    | succ n4 ih4 =>
      intro y4_l2 y4_l3 ls g4_l3 hl hm4
      refine lv_iload_n hx hb dX2_nearAny_4 rfl (lv_at hl 3 rfl) ?_
      refine lv_aload_n hx hb dX2_nearAny_5 rfl (lv_at hl 0 rfl) ?_
      refine va_get (D := D) (ci := 2) (v := .int (L 1 1)) (C := RX2) (T := TX2) (N := 3) hx hb hts hin2 hown hK hP 1 rfl rfl 1 (by decide) (hts (.fieldLink RX2 15 "MissedPoints$Net" "size" "I") (by decide +kernel)) (fun _ h9 => h9) rfl dX2_nearAny_6 ?_
      refine lv_icmp_ge (tgt := 35) hx hb dX2_nearAny_9 (by decide) (fun c31408 => ?_) (fun c31408 => ?_)
      · refine lv_iload_n hx hb dX2_nearAny_35 rfl (lv_at hl 2 rfl) ?_
        exact W.iret (v := y4_l2) hx hb hr (fun t ht hW => ⟨_, rfl, ⟨(rg_any y4_l2), trivial⟩, ht⟩) (fun q hq => absurd hq List.not_mem_nil) dX2_nearAny_36
      · have g31409 : Rg 1 12 (L 1 1) := rg_ltr g4_l3 hL.1 (rg_nle c31408) (by decide)
        have g31410 : Rg 0 11 y4_l3 := rg_ltl g4_l3 hL.1 (rg_nle c31408) (by decide)
        refine lv_iload_n hx hb dX2_nearAny_12 rfl (lv_at hl 1 rfl) ?_
        refine lv_iload_n hx hb dX2_nearAny_13 rfl (lv_at hl 3 rfl) ?_
        refine lv_ishr hx hb dX2_nearAny_14 ?_
        refine wk_topP (P := fun r => r = x0 >>> (y4_l3 &&& 31)) rfl (fun r31411 qr31411 => ?_)
        refine lv_iconst (v := 1) hx hb dX2_nearAny_15 (by decide) ?_
        refine wk_iandr hx hb dX2_nearAny_16 (by decide : Rg 1 1 (1 : Int32)) (by decide) (fun r31412 hr31412 qr31412 => ?_)
        refine lv_if_eq (tgt := 29) hx hb dX2_nearAny_17 (by decide) (fun c31413 => ?_) (fun c31413 => ?_)
        · have g31414 : Rg 0 0 r31412 := wk_eql hr31412 (by decide : Rg 0 0 (0 : Int32)) c31413 (by decide)
          refine wk_iinc (lv' := fun r => [(3, .int r), (0, .ref (a 1)), (1, .int x0), (2, .int y4_l2)]) (e1 := 1) (f := 12) hx hb dX2_nearAny_29 hl (k := 3) rfl (by decide) g31410 (by decide) (fun _ => rfl) (fun r31415 ls hr31415 er31415 hl => ?_)
          refine lv_goto (tgt := 4) hx hb dX2_nearAny_32 (by decide) ?_
          exact ih4 y4_l2 r31415 ls (show Rg 0 12 r31415 from rg_w hr31415 (by decide) (by decide)) (lv_sub (l' := [(0, .ref (a 1)), (1, .int x0), (2, .int y4_l2), (3, .int r31415)]) hl [1, 2, 3, 0] rfl) (me_up hm4 er31415 (by decide))
        · have g31416 : Rg 1 1 r31412 := rg_ne_lo (k := 0) hr31412 (by decide) c31413 (by decide)
          refine lv_iload_n hx hb dX2_nearAny_20 rfl (lv_at hl 2 rfl) ?_
          refine lv_aload_n hx hb dX2_nearAny_21 rfl (lv_at hl 0 rfl) ?_
          refine va_get (D := D) (ci := 2) (v := .ref (a 2)) (C := RX2) (T := TX2) (N := 3) hx hb hts hin2 hown hK hP 1 rfl rfl 0 (by decide) (hts (.fieldLink RX2 9 "MissedPoints$Net" "links" "[I") (by decide +kernel)) (fun _ h9 => h9) rfl dX2_nearAny_22 ?_
          refine lv_iload_n hx hb dX2_nearAny_25 rfl (lv_at hl 3 rfl) ?_
          refine wk_aldA hx hb hK hP 2 0 rfl rfl (rg_in g31410 (by decide) (by decide)) dX2_nearAny_26 (fun r31417 => ?_)
          refine lv_ior hx hb dX2_nearAny_27 ?_
          refine wk_topP (P := fun r => r = y4_l2 ||| r31417) rfl (fun r31418 qr31418 => ?_)
          refine lv_istore_n (lv' := [(2, .int r31418), (0, .ref (a 1)), (1, .int x0), (3, .int y4_l3)]) hx hb dX2_nearAny_28 rfl hl (by decide) rfl (fun ls hl => ?_)
          refine wk_iinc (lv' := fun r => [(3, .int r), (2, .int r31418), (0, .ref (a 1)), (1, .int x0)]) (e1 := 1) (f := 12) hx hb dX2_nearAny_29 hl (k := 3) rfl (by decide) g31410 (by decide) (fun _ => rfl) (fun r31419 ls hr31419 er31419 hl => ?_)
          refine lv_goto (tgt := 4) hx hb dX2_nearAny_32 (by decide) ?_
          exact ih4 r31418 r31419 ls (show Rg 0 12 r31419 from rg_w hr31419 (by decide) (by decide)) (lv_sub (l' := [(0, .ref (a 1)), (1, .int x0), (2, .int r31418), (3, .int r31419)]) hl [2, 3, 1, 0] rfl) (me_up hm4 er31419 (by decide))
  refine lv_iconst (v := 0) hx hb dX2_nearAny_0 (by decide) ?_
  refine lv_istore_n (lv' := [(2, .int 0), (0, .ref (a 1)), (1, .int x0)]) hx hb dX2_nearAny_1 rfl hl (by decide) rfl (fun ls hl => ?_)
  refine lv_iconst (v := 0) hx hb dX2_nearAny_2 (by decide) ?_
  refine lv_istore_n (lv' := [(3, .int 0), (2, .int 0), (0, .ref (a 1)), (1, .int x0)]) hx hb dX2_nearAny_3 rfl hl (by decide) rfl (fun ls hl => ?_)
  exact lp4 13 (0 : Int32) (0 : Int32) ls (by decide : Rg 0 12 (0 : Int32)) (lv_sub (l' := [(0, .ref (a 1)), (1, .int x0), (2, .int 0), (3, .int 0)]) hl [2, 3, 1, 0] rfl) (me_i (by decide : Rg 0 12 (0 : Int32)) (by decide))
set_option maxHeartbeats 4000000 in
set_option maxRecDepth 100000 in
theorem k_X2_lineCount (l : Launch) (D : va_G) (cI cS : ClassId) (a : Nat → Nat) (na nc N : Nat) (L u : SU) (hL : TyX L) (hN : N = 0 ∨ N = 24576) : Met l yX2_lineCount wsX2_lineCount ({ frames := 1, cells := 0, slots := 0, locals := 40 }) (PS D cI cS (wX cI cS a na nc N L u) [.ref (a 1)]) (vp_Si (fun r => Rg (-2147483648) 2147483647 r ∧ True)) 0 0 (fun _ => False) := by
  refine Met.ofW (cc := cX2_lineCount) (maxL := 3) (ret := (some .int)) (by decide) rfl ?_
  intro p e s m args below meth c s₁ B hml hv
  obtain ⟨rfl, hP, hKK⟩ := hv
  have hx := B.exec
  have hb := B.bytes
  have hr := B.returns
  have hts := atoms_spec (ws := wsX2_lineCount) B.pre
  have hown : s.vm.findClass RX2 = some m.cls := findClass_of_methodNamed B.named
  have hlocks := B.notSynchronized
  have hK := hKK.1
  have hin2 : ∀ w ∈ wsX20, w ∈ wsX2_lineCount := by decide +kernel
  have hl := lv_entry ([.ref (a 1)]) (n := 3) (Nat.le_of_ble_eq_true rfl)
  rw [lg_entry_eq]
  generalize (lg_sl ([.ref (a 1)]) ++ List.replicate (3 - (lg_sl ([.ref (a 1)])).length) Slot.unset).toArray = ls at hl ⊢
  have hl : lv_has ls 3 [(0, .ref (a 1))] := hl
  have lp4 : ∀ (n4 : Nat) (y4_l1 : Int32) (y4_l2 : Int32) (ls : Array Slot), Rg 0 12 y4_l2 → lv_has ls 3 [(0, .ref (a 1)), (1, .int y4_l1), (2, .int y4_l2)] → 12 - y4_l2.toInt < (n4 : Int) → W p l e (headSpec wsX2_lineCount ({ frames := 1, cells := 0, slots := 0, locals := 40 })).room s m ([.ref (a 1)]).toArray below meth c s.heap [] 0 0 (MQ below (vp_Si (fun r => Rg (-2147483648) 2147483647 r ∧ True)) ([.ref (a 1)]).toArray s 0 0 (fun _ => False)) (F0 m 4 ls []) := by
    intro n4
    induction n4 with
    | zero =>
      intro y4_l1 y4_l2 ls g4_l2 hl hm4
      exact absurd rfl (me_z g4_l2 hm4)
    | succ n4 ih4 =>
      intro y4_l1 y4_l2 ls g4_l2 hl hm4
      refine lv_iload_n hx hb dX2_lineCount_4 rfl (lv_at hl 2 rfl) ?_
      refine lv_aload_n hx hb dX2_lineCount_5 rfl (lv_at hl 0 rfl) ?_
      refine va_get (D := D) (ci := 2) (v := .int (L 1 1)) (C := RX2) (T := TX2) (N := 3) hx hb hts hin2 hown hK hP 1 rfl rfl 1 (by decide) (hts (.fieldLink RX2 15 "MissedPoints$Net" "size" "I") (by decide +kernel)) (fun _ h9 => h9) rfl dX2_lineCount_6 ?_
      refine lv_icmp_ge (tgt := 30) hx hb dX2_lineCount_9 (by decide) (fun c31500 => ?_) (fun c31500 => ?_)
      · refine lv_iload_n hx hb dX2_lineCount_30 rfl (lv_at hl 1 rfl) ?_
        refine lv_iconst (v := 2) hx hb dX2_lineCount_31 (by decide) ?_
        refine lv_idiv hx hb dX2_lineCount_32 (by decide) ?_
        refine wk_any (fun r31501 => ?_)
        exact W.iret (v := r31501) hx hb hr (fun t ht hW => ⟨_, rfl, ⟨(rg_any r31501), trivial⟩, ht⟩) (fun q hq => absurd hq List.not_mem_nil) dX2_lineCount_33
      · have g31502 : Rg 1 12 (L 1 1) := rg_ltr g4_l2 hL.1 (rg_nle c31500) (by decide)
        have g31503 : Rg 0 11 y4_l2 := rg_ltl g4_l2 hL.1 (rg_nle c31500) (by decide)
        refine lv_iload_n hx hb dX2_lineCount_12 rfl (lv_at hl 1 rfl) ?_
        refine lv_aload_n hx hb dX2_lineCount_13 rfl (lv_at hl 0 rfl) ?_
        refine va_get (D := D) (ci := 2) (v := .ref (a 2)) (C := RX2) (T := TX2) (N := 3) hx hb hts hin2 hown hK hP 1 rfl rfl 0 (by decide) (hts (.fieldLink RX2 9 "MissedPoints$Net" "links" "[I") (by decide +kernel)) (fun _ h9 => h9) rfl dX2_lineCount_14 ?_
        refine lv_iload_n hx hb dX2_lineCount_17 rfl (lv_at hl 2 rfl) ?_
        refine wk_aldA hx hb hK hP 2 0 rfl rfl (rg_in g31503 (by decide) (by decide)) dX2_lineCount_18 (fun r31504 => ?_)
        refine lz_ss (As := [.int r31504]) (rest := [.int y4_l1]) ⟨hx, hb, hml, hown, hts⟩ (k_J6_bitCount_0f7a4 l D cI cS r31504) hKK (hP.sub (ws' := []) [] rfl) (va_cwS 1 hts gX2_lineCount_J6_bitCount_0f7a4 rfl rfl rfl (by decide +kernel) ⟨Nat.le_of_ble_eq_true rfl, Nat.le_of_ble_eq_true rfl⟩) rfl hl.1 rfl (Nat.le_of_ble_eq_true rfl) dX2_lineCount_19 ⟨Nat.le_of_ble_eq_true rfl, Nat.le_of_ble_eq_true rfl⟩ (fun r31505 hr31505 => ?_)
        refine lv_iadd hx hb dX2_lineCount_22 ?_
        refine wk_topP (P := fun r => r = y4_l1 + r31505) rfl (fun r31506 qr31506 => ?_)
        refine lv_istore_n (lv' := [(1, .int r31506), (0, .ref (a 1)), (2, .int y4_l2)]) hx hb dX2_lineCount_23 rfl hl (by decide) rfl (fun ls hl => ?_)
        refine wk_iinc (lv' := fun r => [(2, .int r), (1, .int r31506), (0, .ref (a 1))]) (e1 := 1) (f := 12) hx hb dX2_lineCount_24 hl (k := 2) rfl (by decide) g31503 (by decide) (fun _ => rfl) (fun r31507 ls hr31507 er31507 hl => ?_)
        refine lv_goto (tgt := 4) hx hb dX2_lineCount_27 (by decide) ?_
        exact ih4 r31506 r31507 ls (show Rg 0 12 r31507 from rg_w hr31507 (by decide) (by decide)) (lv_sub (l' := [(0, .ref (a 1)), (1, .int r31506), (2, .int r31507)]) hl [2, 1, 0] rfl) (me_up hm4 er31507 (by decide))
  refine lv_iconst (v := 0) hx hb dX2_lineCount_0 (by decide) ?_
  refine lv_istore_n (lv' := [(1, .int 0), (0, .ref (a 1))]) hx hb dX2_lineCount_1 rfl hl (by decide) rfl (fun ls hl => ?_)
  refine lv_iconst (v := 0) hx hb dX2_lineCount_2 (by decide) ?_
  refine lv_istore_n (lv' := [(2, .int 0), (1, .int 0), (0, .ref (a 1))]) hx hb dX2_lineCount_3 rfl hl (by decide) rfl (fun ls hl => ?_)
  exact lp4 13 (0 : Int32) (0 : Int32) ls (by decide : Rg 0 12 (0 : Int32)) (lv_sub (l' := [(0, .ref (a 1)), (1, .int 0), (2, .int 0)]) hl [2, 1, 0] rfl) (me_i (by decide : Rg 0 12 (0 : Int32)) (by decide))
set_option maxRecDepth 20000 in
theorem ggX2_firstPiece_J6_lowestOneBit_0f7a4 : GoodIn wsX2_firstPiece wsJ6_lowestOneBit_0f7a4 := goodIn_r _ [4] rfl (by decide +kernel)
set_option maxRecDepth 20000 in
theorem gX2_firstPiece_J6_lowestOneBit_0f7a4 : GoodIn wsX2_firstPiece (va_wsS RX2 75 yJ6_lowestOneBit_0f7a4 wsJ6_lowestOneBit_0f7a4) := goodIn_app (goodIn_of _ (by decide +kernel)) ggX2_firstPiece_J6_lowestOneBit_0f7a4
set_option maxRecDepth 20000 in
theorem ggX2_firstPiece_J6_numberOfTrailingZeros_0f7a4 : GoodIn wsX2_firstPiece wsJ6_numberOfTrailingZeros_0f7a4 := goodIn_r _ [7, 8] rfl (by decide +kernel)
set_option maxRecDepth 20000 in
theorem gX2_firstPiece_J6_numberOfTrailingZeros_0f7a4 : GoodIn wsX2_firstPiece (va_wsS RX2 78 yJ6_numberOfTrailingZeros_0f7a4 wsJ6_numberOfTrailingZeros_0f7a4) := goodIn_app (goodIn_of _ (by decide +kernel)) ggX2_firstPiece_J6_numberOfTrailingZeros_0f7a4
theorem dX2_firstPiece_0 : decode cX2_firstPiece 0 = .ok (.iload_n 1, 1) := by decide +kernel
theorem dX2_firstPiece_1 : decode cX2_firstPiece 1 = .ok (.invokestatic 75, 3) := by decide +kernel
theorem dX2_firstPiece_10 : decode cX2_firstPiece 10 = .ok (.iload 4, 2) := by decide +kernel
theorem dX2_firstPiece_12 : decode cX2_firstPiece 12 = .ok (.bipush 12, 2) := by decide +kernel
theorem dX2_firstPiece_14 : decode cX2_firstPiece 14 = .ok (.if_icmp .ge 56, 3) := by decide +kernel
theorem dX2_firstPiece_17 : decode cX2_firstPiece 17 = .ok (.iload_n 3, 1) := by decide +kernel
theorem dX2_firstPiece_18 : decode cX2_firstPiece 18 = .ok (.ifCond .eq 52, 3) := by decide +kernel
theorem dX2_firstPiece_21 : decode cX2_firstPiece 21 = .ok (.iload_n 3, 1) := by decide +kernel
theorem dX2_firstPiece_22 : decode cX2_firstPiece 22 = .ok (.invokestatic 78, 3) := by decide +kernel
theorem dX2_firstPiece_25 : decode cX2_firstPiece 25 = .ok (.istore 5, 2) := by decide +kernel
theorem dX2_firstPiece_27 : decode cX2_firstPiece 27 = .ok (.iload 5, 2) := by decide +kernel
theorem dX2_firstPiece_29 : decode cX2_firstPiece 29 = .ok (.aload_n 0, 1) := by decide +kernel
theorem dX2_firstPiece_30 : decode cX2_firstPiece 30 = .ok (.arraylength, 1) := by decide +kernel
theorem dX2_firstPiece_31 : decode cX2_firstPiece 31 = .ok (.if_icmp .lt 5, 3) := by decide +kernel
theorem dX2_firstPiece_34 : decode cX2_firstPiece 34 = .ok (.iload_n 2, 1) := by decide +kernel
theorem dX2_firstPiece_35 : decode cX2_firstPiece 35 = .ok (.ireturn, 1) := by decide +kernel
theorem dX2_firstPiece_36 : decode cX2_firstPiece 36 = .ok (.iload_n 3, 1) := by decide +kernel
theorem dX2_firstPiece_37 : decode cX2_firstPiece 37 = .ok (.iload_n 3, 1) := by decide +kernel
theorem dX2_firstPiece_38 : decode cX2_firstPiece 38 = .ok (.iconst 1, 1) := by decide +kernel
theorem dX2_firstPiece_39 : decode cX2_firstPiece 39 = .ok (.isub, 1) := by decide +kernel
theorem dX2_firstPiece_4 : decode cX2_firstPiece 4 = .ok (.istore_n 2, 1) := by decide +kernel
theorem dX2_firstPiece_40 : decode cX2_firstPiece 40 = .ok (.iand, 1) := by decide +kernel
theorem dX2_firstPiece_41 : decode cX2_firstPiece 41 = .ok (.istore_n 3, 1) := by decide +kernel
theorem dX2_firstPiece_42 : decode cX2_firstPiece 42 = .ok (.aload_n 0, 1) := by decide +kernel
theorem dX2_firstPiece_43 : decode cX2_firstPiece 43 = .ok (.iload 5, 2) := by decide +kernel
theorem dX2_firstPiece_45 : decode cX2_firstPiece 45 = .ok (.iaload, 1) := by decide +kernel
theorem dX2_firstPiece_46 : decode cX2_firstPiece 46 = .ok (.iload_n 1, 1) := by decide +kernel
theorem dX2_firstPiece_47 : decode cX2_firstPiece 47 = .ok (.iand, 1) := by decide +kernel
theorem dX2_firstPiece_48 : decode cX2_firstPiece 48 = .ok (.iload_n 2, 1) := by decide +kernel
theorem dX2_firstPiece_49 : decode cX2_firstPiece 49 = .ok (.iconst (-1), 1) := by decide +kernel
theorem dX2_firstPiece_5 : decode cX2_firstPiece 5 = .ok (.iload_n 2, 1) := by decide +kernel
theorem dX2_firstPiece_50 : decode cX2_firstPiece 50 = .ok (.ixor, 1) := by decide +kernel
theorem dX2_firstPiece_51 : decode cX2_firstPiece 51 = .ok (.iand, 1) := by decide +kernel
theorem dX2_firstPiece_52 : decode cX2_firstPiece 52 = .ok (.istore 6, 2) := by decide +kernel
theorem dX2_firstPiece_54 : decode cX2_firstPiece 54 = .ok (.iload_n 2, 1) := by decide +kernel
theorem dX2_firstPiece_55 : decode cX2_firstPiece 55 = .ok (.iload 6, 2) := by decide +kernel
theorem dX2_firstPiece_57 : decode cX2_firstPiece 57 = .ok (.ior, 1) := by decide +kernel
theorem dX2_firstPiece_58 : decode cX2_firstPiece 58 = .ok (.istore_n 2, 1) := by decide +kernel
theorem dX2_firstPiece_59 : decode cX2_firstPiece 59 = .ok (.iload_n 3, 1) := by decide +kernel
theorem dX2_firstPiece_6 : decode cX2_firstPiece 6 = .ok (.istore_n 3, 1) := by decide +kernel
theorem dX2_firstPiece_60 : decode cX2_firstPiece 60 = .ok (.iload 6, 2) := by decide +kernel
theorem dX2_firstPiece_62 : decode cX2_firstPiece 62 = .ok (.ior, 1) := by decide +kernel
theorem dX2_firstPiece_63 : decode cX2_firstPiece 63 = .ok (.istore_n 3, 1) := by decide +kernel
theorem dX2_firstPiece_64 : decode cX2_firstPiece 64 = .ok (.iinc 4 1, 3) := by decide +kernel
theorem dX2_firstPiece_67 : decode cX2_firstPiece 67 = .ok (.goto (-57), 3) := by decide +kernel
theorem dX2_firstPiece_7 : decode cX2_firstPiece 7 = .ok (.iconst 0, 1) := by decide +kernel
theorem dX2_firstPiece_70 : decode cX2_firstPiece 70 = .ok (.iload_n 2, 1) := by decide +kernel
theorem dX2_firstPiece_71 : decode cX2_firstPiece 71 = .ok (.ireturn, 1) := by decide +kernel
theorem dX2_firstPiece_8 : decode cX2_firstPiece 8 = .ok (.istore 4, 2) := by decide +kernel
set_option maxHeartbeats 4000000 in
set_option maxRecDepth 100000 in
theorem k_X2_firstPiece (l : Launch) (D : va_G) (cI cS : ClassId) (a : Nat → Nat) (na nc N : Nat) (L u : SU) (hL : TyX L) (hN : N = 0 ∨ N = 24576) (x0 : Int32) : Met l yX2_firstPiece wsX2_firstPiece ({ frames := 1, cells := 0, slots := 0, locals := 40 }) (PS D cI cS (wX cI cS a na nc N L u) [.ref (a 2), .int x0]) (vp_Si (fun r => Rg (-2147483648) 2147483647 r ∧ True)) 0 0 (fun _ => False) := by
  refine Met.ofW (cc := cX2_firstPiece) (maxL := 7) (ret := (some .int)) (by decide) rfl ?_
  intro p e s m args below meth c s₁ B hml hv
  obtain ⟨rfl, hP, hKK⟩ := hv
  have hx := B.exec
  have hb := B.bytes
  have hr := B.returns
  have hts := atoms_spec (ws := wsX2_firstPiece) B.pre
  have hown : s.vm.findClass RX2 = some m.cls := findClass_of_methodNamed B.named
  have hlocks := B.notSynchronized
  have hK := hKK.1
  have hl := lv_entry ([.ref (a 2), .int x0]) (n := 7) (Nat.le_of_ble_eq_true rfl)
  rw [lg_entry_eq]
  generalize (lg_sl ([.ref (a 2), .int x0]) ++ List.replicate (7 - (lg_sl ([.ref (a 2), .int x0])).length) Slot.unset).toArray = ls at hl ⊢
  have hl : lv_has ls 7 [(0, .ref (a 2)), (1, .int x0)] := hl
  have lp10 : ∀ (n10 : Nat) (y10_l2 : Int32) (y10_l3 : Int32) (y10_l4 : Int32) (ls : Array Slot), Rg 0 12 y10_l4 → lv_has ls 7 [(0, .ref (a 2)), (1, .int x0), (2, .int y10_l2), (3, .int y10_l3), (4, .int y10_l4)] → 12 - y10_l4.toInt < (n10 : Int) → W p l e (headSpec wsX2_firstPiece ({ frames := 1, cells := 0, slots := 0, locals := 40 })).room s m ([.ref (a 2), .int x0]).toArray below meth c s.heap [] 0 0 (MQ below (vp_Si (fun r => Rg (-2147483648) 2147483647 r ∧ True)) ([.ref (a 2), .int x0]).toArray s 0 0 (fun _ => False)) (F0 m 10 ls []) := by
    intro n10
    induction n10 with
    | zero =>
      intro y10_l2 y10_l3 y10_l4 ls g10_l4 hl hm10
      exact absurd rfl (me_z g10_l4 hm10)
    | succ n10 ih10 =>
      intro y10_l2 y10_l3 y10_l4 ls g10_l4 hl hm10
      refine lv_iload hx hb dX2_firstPiece_10 (lv_at hl 4 rfl) ?_
      refine lv_bipush (v := 12) hx hb dX2_firstPiece_12 (by decide) ?_
      refine lv_icmp_ge (tgt := 70) hx hb dX2_firstPiece_14 (by decide) (fun c31662 => ?_) (fun c31662 => ?_)
      · have g31663 : Rg 12 12 y10_l4 := rg_ler (by decide : Rg 12 12 (12 : Int32)) g10_l4 c31662 (by decide)
        refine lv_iload_n hx hb dX2_firstPiece_70 rfl (lv_at hl 2 rfl) ?_
        exact W.iret (v := y10_l2) hx hb hr (fun t ht hW => ⟨_, rfl, ⟨(rg_any y10_l2), trivial⟩, ht⟩) (fun q hq => absurd hq List.not_mem_nil) dX2_firstPiece_71
      · have g31664 : Rg 0 11 y10_l4 := rg_ltl g10_l4 (by decide : Rg 12 12 (12 : Int32)) (rg_nle c31662) (by decide)
        refine lv_iload_n hx hb dX2_firstPiece_17 rfl (lv_at hl 3 rfl) ?_
        refine lv_if_eq (tgt := 70) hx hb dX2_firstPiece_18 (by decide) (fun c31665 => ?_) (fun c31665 => ?_)
        · have g31666 : Rg 0 0 y10_l3 := wk_eql (rg_any y10_l3) (by decide : Rg 0 0 (0 : Int32)) c31665 (by decide)
          refine lv_iload_n hx hb dX2_firstPiece_70 rfl (lv_at hl 2 rfl) ?_
          exact W.iret (v := y10_l2) hx hb hr (fun t ht hW => ⟨_, rfl, ⟨(rg_any y10_l2), trivial⟩, ht⟩) (fun q hq => absurd hq List.not_mem_nil) dX2_firstPiece_71
        · refine lv_iload_n hx hb dX2_firstPiece_21 rfl (lv_at hl 3 rfl) ?_
          refine lz_ss (As := [.int y10_l3]) (rest := []) ⟨hx, hb, hml, hown, hts⟩ (k_J6_numberOfTrailingZeros_0f7a4 l D cI cS y10_l3) hKK (hP.sub (ws' := []) [] rfl) (va_cwS 1 hts gX2_firstPiece_J6_numberOfTrailingZeros_0f7a4 rfl rfl rfl (by decide +kernel) ⟨Nat.le_of_ble_eq_true rfl, Nat.le_of_ble_eq_true rfl⟩) rfl hl.1 rfl (Nat.le_of_ble_eq_true rfl) dX2_firstPiece_22 ⟨Nat.le_of_ble_eq_true rfl, Nat.le_of_ble_eq_true rfl⟩ (fun r31667 hr31667 => ?_)
          refine lv_istore (lv' := [(5, .int r31667), (0, .ref (a 2)), (1, .int x0), (2, .int y10_l2), (3, .int y10_l3), (4, .int y10_l4)]) hx hb dX2_firstPiece_25 hl (by decide) rfl (fun ls hl => ?_)
          refine lv_iload hx hb dX2_firstPiece_27 (lv_at hl 0 rfl) ?_
          refine lv_aload_n hx hb dX2_firstPiece_29 rfl (lv_at hl 1 rfl) ?_
          refine va_alen hx hb hK hP 2 0 rfl rfl (v := 12) rfl dX2_firstPiece_30 ?_
          refine lv_icmp_lt (tgt := 36) hx hb dX2_firstPiece_31 (by decide) (fun c31668 => ?_) (fun c31668 => ?_)
          · have g31669 : Rg 0 11 r31667 := rg_ltl hr31667.1 (by decide : Rg 12 12 (12 : Int32)) c31668 (by decide)
            refine lv_iload_n hx hb dX2_firstPiece_36 rfl (lv_at hl 4 rfl) ?_
            refine lv_iload_n hx hb dX2_firstPiece_37 rfl (lv_at hl 4 rfl) ?_
            refine lv_iconst (v := 1) hx hb dX2_firstPiece_38 (by decide) ?_
            refine lv_isub hx hb dX2_firstPiece_39 ?_
            refine wk_topP (P := fun r => r = y10_l3 - (1 : Int32)) rfl (fun r31670 qr31670 => ?_)
            refine lv_iand hx hb dX2_firstPiece_40 ?_
            refine wk_topP (P := fun r => r = y10_l3 &&& r31670) rfl (fun r31671 qr31671 => ?_)
            refine lv_istore_n (lv' := [(3, .int r31671), (5, .int r31667), (0, .ref (a 2)), (1, .int x0), (2, .int y10_l2), (4, .int y10_l4)]) hx hb dX2_firstPiece_41 rfl hl (by decide) rfl (fun ls hl => ?_)
            refine lv_aload_n hx hb dX2_firstPiece_42 rfl (lv_at hl 2 rfl) ?_
            refine lv_iload hx hb dX2_firstPiece_43 (lv_at hl 1 rfl) ?_
            refine wk_aldA hx hb hK hP 2 0 rfl rfl (rg_in g31669 (by decide) (by decide)) dX2_firstPiece_45 (fun r31672 => ?_)
            refine lv_iload_n hx hb dX2_firstPiece_46 rfl (lv_at hl 3 rfl) ?_
            refine lv_iand hx hb dX2_firstPiece_47 ?_
            refine wk_topP (P := fun r => r = r31672 &&& x0) rfl (fun r31673 qr31673 => ?_)
            refine lv_iload_n hx hb dX2_firstPiece_48 rfl (lv_at hl 4 rfl) ?_
            refine lv_iconst (v := (-1)) hx hb dX2_firstPiece_49 (by decide) ?_
            refine lv_ixor hx hb dX2_firstPiece_50 ?_
            refine wk_topP (P := fun r => r = y10_l2 ^^^ ((-1) : Int32)) rfl (fun r31674 qr31674 => ?_)
            refine lv_iand hx hb dX2_firstPiece_51 ?_
            refine wk_topP (P := fun r => r = r31673 &&& r31674) rfl (fun r31675 qr31675 => ?_)
            refine lv_istore (lv' := [(6, .int r31675), (3, .int r31671), (5, .int r31667), (0, .ref (a 2)), (1, .int x0), (2, .int y10_l2), (4, .int y10_l4)]) hx hb dX2_firstPiece_52 hl (by decide) rfl (fun ls hl => ?_)
            refine lv_iload_n hx hb dX2_firstPiece_54 rfl (lv_at hl 5 rfl) ?_
            refine lv_iload hx hb dX2_firstPiece_55 (lv_at hl 0 rfl) ?_
            refine lv_ior hx hb dX2_firstPiece_57 ?_
            refine wk_topP (P := fun r => r = y10_l2 ||| r31675) rfl (fun r31676 qr31676 => ?_)
            refine lv_istore_n (lv' := [(2, .int r31676), (6, .int r31675), (3, .int r31671), (5, .int r31667), (0, .ref (a 2)), (1, .int x0), (4, .int y10_l4)]) hx hb dX2_firstPiece_58 rfl hl (by decide) rfl (fun ls hl => ?_)
            refine lv_iload_n hx hb dX2_firstPiece_59 rfl (lv_at hl 2 rfl) ?_
            refine lv_iload hx hb dX2_firstPiece_60 (lv_at hl 1 rfl) ?_
            refine lv_ior hx hb dX2_firstPiece_62 ?_
            refine wk_topP (P := fun r => r = r31671 ||| r31675) rfl (fun r31677 qr31677 => ?_)
            refine lv_istore_n (lv' := [(3, .int r31677), (2, .int r31676), (6, .int r31675), (5, .int r31667), (0, .ref (a 2)), (1, .int x0), (4, .int y10_l4)]) hx hb dX2_firstPiece_63 rfl hl (by decide) rfl (fun ls hl => ?_)
            refine wk_iinc (lv' := fun r => [(4, .int r), (3, .int r31677), (2, .int r31676), (6, .int r31675), (5, .int r31667), (0, .ref (a 2)), (1, .int x0)]) (e1 := 1) (f := 12) hx hb dX2_firstPiece_64 hl (k := 6) rfl (by decide) g31664 (by decide) (fun _ => rfl) (fun r31678 ls hr31678 er31678 hl => ?_)
            refine lv_goto (tgt := 10) hx hb dX2_firstPiece_67 (by decide) ?_
            exact ih10 r31676 r31677 r31678 ls (show Rg 0 12 r31678 from rg_w hr31678 (by decide) (by decide)) (lv_sub (l' := [(0, .ref (a 2)), (1, .int x0), (2, .int r31676), (3, .int r31677), (4, .int r31678)]) hl [5, 6, 2, 1, 0] rfl) (me_up hm10 er31678 (by decide))
          · have g31679 : Rg 12 33 r31667 := rg_ler (by decide : Rg 12 12 (12 : Int32)) hr31667.1 (rg_nlt c31668) (by decide)
            refine lv_iload_n hx hb dX2_firstPiece_34 rfl (lv_at hl 3 rfl) ?_
            exact W.iret (v := y10_l2) hx hb hr (fun t ht hW => ⟨_, rfl, ⟨(rg_any y10_l2), trivial⟩, ht⟩) (fun q hq => absurd hq List.not_mem_nil) dX2_firstPiece_35
  refine lv_iload_n hx hb dX2_firstPiece_0 rfl (lv_at hl 1 rfl) ?_
  refine lz_ss (As := [.int x0]) (rest := []) ⟨hx, hb, hml, hown, hts⟩ (k_J6_lowestOneBit_0f7a4 l D cI cS x0) hKK (hP.sub (ws' := []) [] rfl) (va_cwS 1 hts gX2_firstPiece_J6_lowestOneBit_0f7a4 rfl rfl rfl (by decide +kernel) ⟨Nat.le_of_ble_eq_true rfl, Nat.le_of_ble_eq_true rfl⟩) rfl hl.1 rfl (Nat.le_of_ble_eq_true rfl) dX2_firstPiece_1 ⟨Nat.le_of_ble_eq_true rfl, Nat.le_of_ble_eq_true rfl⟩ (fun r31680 hr31680 => ?_)
  refine lv_istore_n (lv' := [(2, .int r31680), (0, .ref (a 2)), (1, .int x0)]) hx hb dX2_firstPiece_4 rfl hl (by decide) rfl (fun ls hl => ?_)
  refine lv_iload_n hx hb dX2_firstPiece_5 rfl (lv_at hl 0 rfl) ?_
  refine lv_istore_n (lv' := [(3, .int r31680), (2, .int r31680), (0, .ref (a 2)), (1, .int x0)]) hx hb dX2_firstPiece_6 rfl hl (by decide) rfl (fun ls hl => ?_)
  refine lv_iconst (v := 0) hx hb dX2_firstPiece_7 (by decide) ?_
  refine lv_istore (lv' := [(4, .int 0), (3, .int r31680), (2, .int r31680), (0, .ref (a 2)), (1, .int x0)]) hx hb dX2_firstPiece_8 hl (by decide) rfl (fun ls hl => ?_)
  exact lp10 13 r31680 r31680 (0 : Int32) ls (by decide : Rg 0 12 (0 : Int32)) (lv_sub (l' := [(0, .ref (a 2)), (1, .int x0), (2, .int r31680), (3, .int r31680), (4, .int 0)]) hl [3, 4, 2, 1, 0] rfl) (me_i (by decide : Rg 0 12 (0 : Int32)) (by decide))
set_option maxRecDepth 20000 in
theorem ggX2_pieceCount_X2_firstPiece : GoodIn wsX2_pieceCount wsX2_firstPiece := goodIn_r _ [10, 11, 12, 13, 14, 15, 16, 17, 18] rfl (by decide +kernel)
set_option maxRecDepth 20000 in
theorem gX2_pieceCount_X2_firstPiece : GoodIn wsX2_pieceCount (va_wsS RX2 71 yX2_firstPiece wsX2_firstPiece) := goodIn_app (goodIn_of _ (by decide +kernel)) ggX2_pieceCount_X2_firstPiece
theorem dX2_pieceCount_23 : decode cX2_pieceCount 23 = .ok (.iload_n 2, 1) := by decide +kernel
theorem dX2_pieceCount_24 : decode cX2_pieceCount 24 = .ok (.aload_n 0, 1) := by decide +kernel
theorem dX2_pieceCount_25 : decode cX2_pieceCount 25 = .ok (.getfield 9, 3) := by decide +kernel
theorem dX2_pieceCount_28 : decode cX2_pieceCount 28 = .ok (.iload_n 2, 1) := by decide +kernel
theorem dX2_pieceCount_29 : decode cX2_pieceCount 29 = .ok (.invokestatic 71, 3) := by decide +kernel
theorem dX2_pieceCount_32 : decode cX2_pieceCount 32 = .ok (.iconst (-1), 1) := by decide +kernel
theorem dX2_pieceCount_33 : decode cX2_pieceCount 33 = .ok (.ixor, 1) := by decide +kernel
theorem dX2_pieceCount_34 : decode cX2_pieceCount 34 = .ok (.iand, 1) := by decide +kernel
theorem dX2_pieceCount_35 : decode cX2_pieceCount 35 = .ok (.istore_n 2, 1) := by decide +kernel
theorem dX2_pieceCount_36 : decode cX2_pieceCount 36 = .ok (.iinc 3 1, 3) := by decide +kernel
theorem dX2_pieceCount_39 : decode cX2_pieceCount 39 = .ok (.iinc 4 1, 3) := by decide +kernel
theorem dX2_pieceCount_42 : decode cX2_pieceCount 42 = .ok (.goto (-30), 3) := by decide +kernel
set_option maxHeartbeats 4000000 in
set_option maxRecDepth 100000 in
theorem k_X2_pieceCount (l : Launch) (D : va_G) (cI cS : ClassId) (a : Nat → Nat) (na nc N : Nat) (L u : SU) (hL : TyX L) (hN : N = 0 ∨ N = 24576) (x0 : Int32) : Met l yX2_pieceCount wsX2_pieceCount ({ frames := 2, cells := 0, slots := 0, locals := 80 }) (PS D cI cS (wX cI cS a na nc N L u) [.ref (a 1), .int x0]) (vp_Si (fun r => Rg (-2147483648) 2147483647 r ∧ True)) 0 0 (fun _ => False) := by
  refine Met.ofW (cc := cX2_pieceCount) (maxL := 5) (ret := (some .int)) (by decide) rfl ?_
  intro p e s m args below meth c s₁ B hml hv
  obtain ⟨rfl, hP, hKK⟩ := hv
  have hx := B.exec
  have hb := B.bytes
  have hr := B.returns
  have hts := atoms_spec (ws := wsX2_pieceCount) B.pre
  have hown : s.vm.findClass RX2 = some m.cls := findClass_of_methodNamed B.named
  have hlocks := B.notSynchronized
  have hK := hKK.1
  have hin2 : ∀ w ∈ wsX20, w ∈ wsX2_pieceCount := by decide +kernel
  have hl := lv_entry ([.ref (a 1), .int x0]) (n := 5) (Nat.le_of_ble_eq_true rfl)
  rw [lg_entry_eq]
  generalize (lg_sl ([.ref (a 1), .int x0]) ++ List.replicate (5 - (lg_sl ([.ref (a 1), .int x0])).length) Slot.unset).toArray = ls at hl ⊢
  have hl : lv_has ls 5 [(0, .ref (a 1)), (1, .int x0)] := hl
  have lp12 : ∀ (n12 : Nat) (y12_l2 : Int32) (y12_l3 : Int32) (y12_l4 : Int32) (ls : Array Slot), Rg 0 4095 y12_l2 → Rg 0 12 y12_l4 → lv_has ls 5 [(0, .ref (a 1)), (2, .int y12_l2), (3, .int y12_l3), (4, .int y12_l4)] → 12 - y12_l4.toInt < (n12 : Int) → W p l e (headSpec wsX2_pieceCount ({ frames := 2, cells := 0, slots := 0, locals := 80 })).room s m ([.ref (a 1), .int x0]).toArray below meth c s.heap [] 0 0 (MQ below (vp_Si (fun r => Rg (-2147483648) 2147483647 r ∧ True)) ([.ref (a 1), .int x0]).toArray s 0 0 (fun _ => False)) (F0 m 12 ls []) := by
    intro n12
    induction n12 with
    | zero =>
      intro y12_l2 y12_l3 y12_l4 ls g12_l2 g12_l4 hl hm12
      exact absurd rfl (me_z g12_l4 hm12)
    | succ n12 ih12 =>
      intro y12_l2 y12_l3 y12_l4 ls g12_l2 g12_l4 hl hm12
      refine lv_iload hx hb dX2_pieceCount_12 (lv_at hl 3 rfl) ?_
      refine lv_bipush (v := 12) hx hb dX2_pieceCount_14 (by decide) ?_
      refine lv_icmp_ge (tgt := 45) hx hb dX2_pieceCount_16 (by decide) (fun c32040 => ?_) (fun c32040 => ?_)
      · have g32041 : Rg 12 12 y12_l4 := rg_ler (by decide : Rg 12 12 (12 : Int32)) g12_l4 c32040 (by decide)
        refine lv_iload_n hx hb dX2_pieceCount_45 rfl (lv_at hl 2 rfl) ?_
        exact W.iret (v := y12_l3) hx hb hr (fun t ht hW => ⟨_, rfl, ⟨(rg_any y12_l3), trivial⟩, ht⟩) (fun q hq => absurd hq List.not_mem_nil) dX2_pieceCount_46
      · have g32042 : Rg 0 11 y12_l4 := rg_ltl g12_l4 (by decide : Rg 12 12 (12 : Int32)) (rg_nle c32040) (by decide)
        refine lv_iload_n hx hb dX2_pieceCount_19 rfl (lv_at hl 1 rfl) ?_
        refine lv_if_eq (tgt := 45) hx hb dX2_pieceCount_20 (by decide) (fun c32043 => ?_) (fun c32043 => ?_)
        · have g32044 : Rg 0 0 y12_l2 := wk_eql g12_l2 (by decide : Rg 0 0 (0 : Int32)) c32043 (by decide)
          refine lv_iload_n hx hb dX2_pieceCount_45 rfl (lv_at hl 2 rfl) ?_
          exact W.iret (v := y12_l3) hx hb hr (fun t ht hW => ⟨_, rfl, ⟨(rg_any y12_l3), trivial⟩, ht⟩) (fun q hq => absurd hq List.not_mem_nil) dX2_pieceCount_46
        · have g32045 : Rg 1 4095 y12_l2 := rg_ne_lo (k := 0) g12_l2 (by decide) c32043 (by decide)
          refine lv_iload_n hx hb dX2_pieceCount_23 rfl (lv_at hl 1 rfl) ?_
          refine lv_aload_n hx hb dX2_pieceCount_24 rfl (lv_at hl 0 rfl) ?_
          refine va_get (D := D) (ci := 2) (v := .ref (a 2)) (C := RX2) (T := TX2) (N := 3) hx hb hts hin2 hown hK hP 1 rfl rfl 0 (by decide) (hts (.fieldLink RX2 9 "MissedPoints$Net" "links" "[I") (by decide +kernel)) (fun _ h9 => h9) rfl dX2_pieceCount_25 ?_
          refine lv_iload_n hx hb dX2_pieceCount_28 rfl (lv_at hl 1 rfl) ?_
          refine lz_ss (As := [.ref (a 2), .int y12_l2]) (rest := [.int y12_l2]) ⟨hx, hb, hml, hown, hts⟩ (k_X2_firstPiece l D cI cS a na nc N L u hL hN y12_l2) hKK hP (va_cwS 2 hts gX2_pieceCount_X2_firstPiece rfl rfl rfl (by decide +kernel) ⟨Nat.le_of_ble_eq_true rfl, Nat.le_of_ble_eq_true rfl⟩) rfl hl.1 rfl (Nat.le_of_ble_eq_true rfl) dX2_pieceCount_29 ⟨Nat.le_of_ble_eq_true rfl, Nat.le_of_ble_eq_true rfl⟩ (fun r32046 hr32046 => ?_)
          refine lv_iconst (v := (-1)) hx hb dX2_pieceCount_32 (by decide) ?_
          refine lv_ixor hx hb dX2_pieceCount_33 ?_
          refine wk_topP (P := fun r => r = r32046 ^^^ ((-1) : Int32)) rfl (fun r32047 qr32047 => ?_)
          refine wk_iandl hx hb dX2_pieceCount_34 g32045 (by decide) (fun r32048 hr32048 qr32048 => ?_)
          refine lv_istore_n (lv' := [(2, .int r32048), (0, .ref (a 1)), (3, .int y12_l3), (4, .int y12_l4)]) hx hb dX2_pieceCount_35 rfl hl (by decide) rfl (fun ls hl => ?_)
          refine wk_iincA (lv' := fun r => [(3, .int r), (2, .int r32048), (0, .ref (a 1)), (4, .int y12_l4)]) hx hb dX2_pieceCount_36 hl (k := 2) rfl (by decide) (fun _ => rfl) (fun r32049 ls hl => ?_)
          refine wk_iinc (lv' := fun r => [(4, .int r), (3, .int r32049), (2, .int r32048), (0, .ref (a 1))]) (e1 := 1) (f := 12) hx hb dX2_pieceCount_39 hl (k := 3) rfl (by decide) g32042 (by decide) (fun _ => rfl) (fun r32050 ls hr32050 er32050 hl => ?_)
          refine lv_goto (tgt := 12) hx hb dX2_pieceCount_42 (by decide) ?_
          exact ih12 r32048 r32049 r32050 ls hr32048 (show Rg 0 12 r32050 from rg_w hr32050 (by decide) (by decide)) (lv_sub (l' := [(0, .ref (a 1)), (2, .int r32048), (3, .int r32049), (4, .int r32050)]) hl [3, 2, 1, 0] rfl) (me_up hm12 er32050 (by decide))
  refine lv_iload_n hx hb dX2_pieceCount_0 rfl (lv_at hl 1 rfl) ?_
  refine lv_aload_n hx hb dX2_pieceCount_1 rfl (lv_at hl 0 rfl) ?_
  refine wk_sv 1 (As := []) (rest := [.int x0]) ⟨hx, hb, hml, hown, hts⟩ (k_X2_all l D cI cS a na nc N L u hL hN) hKK hP (ci := 2) rfl rfl (cwV 0 hts gX2_pieceCount_X2_all rfl rfl rfl (by decide +kernel) ⟨Nat.le_of_ble_eq_true rfl, Nat.le_of_ble_eq_true rfl⟩) rfl hl.1 rfl (Nat.le_of_ble_eq_true rfl) dX2_pieceCount_2 ⟨Nat.le_of_ble_eq_true rfl, Nat.le_of_ble_eq_true rfl⟩ (fun r32051 hr32051 => ?_)
  refine wk_iandr hx hb dX2_pieceCount_5 hr32051.1 (by decide) (fun r32052 hr32052 qr32052 => ?_)
  refine lv_istore_n (lv' := [(2, .int r32052), (0, .ref (a 1)), (1, .int x0)]) hx hb dX2_pieceCount_6 rfl hl (by decide) rfl (fun ls hl => ?_)
  refine lv_iconst (v := 0) hx hb dX2_pieceCount_7 (by decide) ?_
  refine lv_istore_n (lv' := [(3, .int 0), (2, .int r32052), (0, .ref (a 1)), (1, .int x0)]) hx hb dX2_pieceCount_8 rfl hl (by decide) rfl (fun ls hl => ?_)
  refine lv_iconst (v := 0) hx hb dX2_pieceCount_9 (by decide) ?_
  refine lv_istore (lv' := [(4, .int 0), (3, .int 0), (2, .int r32052), (0, .ref (a 1)), (1, .int x0)]) hx hb dX2_pieceCount_10 hl (by decide) rfl (fun ls hl => ?_)
  exact lp12 13 r32052 (0 : Int32) (0 : Int32) ls hr32052 (by decide : Rg 0 12 (0 : Int32)) (lv_sub (l' := [(0, .ref (a 1)), (2, .int r32052), (3, .int 0), (4, .int 0)]) hl [3, 2, 1, 0] rfl) (me_i (by decide : Rg 0 12 (0 : Int32)) (by decide))
set_option maxRecDepth 20000 in
theorem ggX2_oddPieceCount_J6_bitCount_0f7a4 : GoodIn wsX2_oddPieceCount wsJ6_bitCount_0f7a4 := goodIn_r _ [21, 22, 23, 24] rfl (by decide +kernel)
set_option maxRecDepth 20000 in
theorem gX2_oddPieceCount_J6_bitCount_0f7a4 : GoodIn wsX2_oddPieceCount (va_wsS RX2 65 yJ6_bitCount_0f7a4 wsJ6_bitCount_0f7a4) := goodIn_app (goodIn_of _ (by decide +kernel)) ggX2_oddPieceCount_J6_bitCount_0f7a4
set_option maxRecDepth 20000 in
theorem ggX2_oddPieceCount_X2_firstPiece : GoodIn wsX2_oddPieceCount wsX2_firstPiece := goodIn_r _ [10, 11, 12, 13, 14, 15, 16, 17, 18] rfl (by decide +kernel)
set_option maxRecDepth 20000 in
theorem gX2_oddPieceCount_X2_firstPiece : GoodIn wsX2_oddPieceCount (va_wsS RX2 71 yX2_firstPiece wsX2_firstPiece) := goodIn_app (goodIn_of _ (by decide +kernel)) ggX2_oddPieceCount_X2_firstPiece
theorem dX2_oddPieceCount_23 : decode cX2_oddPieceCount 23 = .ok (.aload_n 0, 1) := by decide +kernel
theorem dX2_oddPieceCount_24 : decode cX2_oddPieceCount 24 = .ok (.getfield 9, 3) := by decide +kernel
theorem dX2_oddPieceCount_27 : decode cX2_oddPieceCount 27 = .ok (.iload_n 2, 1) := by decide +kernel
theorem dX2_oddPieceCount_28 : decode cX2_oddPieceCount 28 = .ok (.invokestatic 71, 3) := by decide +kernel
theorem dX2_oddPieceCount_31 : decode cX2_oddPieceCount 31 = .ok (.istore 5, 2) := by decide +kernel
theorem dX2_oddPieceCount_33 : decode cX2_oddPieceCount 33 = .ok (.iload_n 2, 1) := by decide +kernel
theorem dX2_oddPieceCount_34 : decode cX2_oddPieceCount 34 = .ok (.iload 5, 2) := by decide +kernel
theorem dX2_oddPieceCount_36 : decode cX2_oddPieceCount 36 = .ok (.iconst (-1), 1) := by decide +kernel
theorem dX2_oddPieceCount_37 : decode cX2_oddPieceCount 37 = .ok (.ixor, 1) := by decide +kernel
theorem dX2_oddPieceCount_38 : decode cX2_oddPieceCount 38 = .ok (.iand, 1) := by decide +kernel
theorem dX2_oddPieceCount_39 : decode cX2_oddPieceCount 39 = .ok (.istore_n 2, 1) := by decide +kernel
theorem dX2_oddPieceCount_40 : decode cX2_oddPieceCount 40 = .ok (.iload_n 3, 1) := by decide +kernel
theorem dX2_oddPieceCount_41 : decode cX2_oddPieceCount 41 = .ok (.iload 5, 2) := by decide +kernel
theorem dX2_oddPieceCount_43 : decode cX2_oddPieceCount 43 = .ok (.invokestatic 65, 3) := by decide +kernel
theorem dX2_oddPieceCount_46 : decode cX2_oddPieceCount 46 = .ok (.iconst 1, 1) := by decide +kernel
theorem dX2_oddPieceCount_47 : decode cX2_oddPieceCount 47 = .ok (.iand, 1) := by decide +kernel
theorem dX2_oddPieceCount_48 : decode cX2_oddPieceCount 48 = .ok (.iadd, 1) := by decide +kernel
theorem dX2_oddPieceCount_49 : decode cX2_oddPieceCount 49 = .ok (.istore_n 3, 1) := by decide +kernel
theorem dX2_oddPieceCount_50 : decode cX2_oddPieceCount 50 = .ok (.iinc 4 1, 3) := by decide +kernel
theorem dX2_oddPieceCount_53 : decode cX2_oddPieceCount 53 = .ok (.goto (-41), 3) := by decide +kernel
set_option maxHeartbeats 4000000 in
set_option maxRecDepth 100000 in
theorem k_X2_oddPieceCount (l : Launch) (D : va_G) (cI cS : ClassId) (a : Nat → Nat) (na nc N : Nat) (L u : SU) (hL : TyX L) (hN : N = 0 ∨ N = 24576) (x0 : Int32) : Met l yX2_oddPieceCount wsX2_oddPieceCount ({ frames := 2, cells := 0, slots := 0, locals := 80 }) (PS D cI cS (wX cI cS a na nc N L u) [.ref (a 1), .int x0]) (vp_Si (fun r => Rg (-2147483648) 2147483647 r ∧ True)) 0 0 (fun _ => False) := by
  refine Met.ofW (cc := cX2_oddPieceCount) (maxL := 6) (ret := (some .int)) (by decide) rfl ?_
  intro p e s m args below meth c s₁ B hml hv
  obtain ⟨rfl, hP, hKK⟩ := hv
  have hx := B.exec
  have hb := B.bytes
  have hr := B.returns
  have hts := atoms_spec (ws := wsX2_oddPieceCount) B.pre
  have hown : s.vm.findClass RX2 = some m.cls := findClass_of_methodNamed B.named
  have hlocks := B.notSynchronized
  have hK := hKK.1
  have hin2 : ∀ w ∈ wsX20, w ∈ wsX2_oddPieceCount := by decide +kernel
  have hl := lv_entry ([.ref (a 1), .int x0]) (n := 6) (Nat.le_of_ble_eq_true rfl)
  rw [lg_entry_eq]
  generalize (lg_sl ([.ref (a 1), .int x0]) ++ List.replicate (6 - (lg_sl ([.ref (a 1), .int x0])).length) Slot.unset).toArray = ls at hl ⊢
  have hl : lv_has ls 6 [(0, .ref (a 1)), (1, .int x0)] := hl
  have lp12 : ∀ (n12 : Nat) (y12_l2 : Int32) (y12_l3 : Int32) (y12_l4 : Int32) (ls : Array Slot), Rg 0 4095 y12_l2 → Rg 0 12 y12_l4 → lv_has ls 6 [(0, .ref (a 1)), (2, .int y12_l2), (3, .int y12_l3), (4, .int y12_l4)] → 12 - y12_l4.toInt < (n12 : Int) → W p l e (headSpec wsX2_oddPieceCount ({ frames := 2, cells := 0, slots := 0, locals := 80 })).room s m ([.ref (a 1), .int x0]).toArray below meth c s.heap [] 0 0 (MQ below (vp_Si (fun r => Rg (-2147483648) 2147483647 r ∧ True)) ([.ref (a 1), .int x0]).toArray s 0 0 (fun _ => False)) (F0 m 12 ls []) := by
    intro n12
    induction n12 with
    | zero =>
      intro y12_l2 y12_l3 y12_l4 ls g12_l2 g12_l4 hl hm12
      exact absurd rfl (me_z g12_l4 hm12)
    | succ n12 ih12 =>
      intro y12_l2 y12_l3 y12_l4 ls g12_l2 g12_l4 hl hm12
      refine lv_iload hx hb dX2_oddPieceCount_12 (lv_at hl 3 rfl) ?_
      refine lv_bipush (v := 12) hx hb dX2_oddPieceCount_14 (by decide) ?_
      refine lv_icmp_ge (tgt := 56) hx hb dX2_oddPieceCount_16 (by decide) (fun c32470 => ?_) (fun c32470 => ?_)
      · have g32471 : Rg 12 12 y12_l4 := rg_ler (by decide : Rg 12 12 (12 : Int32)) g12_l4 c32470 (by decide)
        refine lv_iload_n hx hb dX2_oddPieceCount_56 rfl (lv_at hl 2 rfl) ?_
        exact W.iret (v := y12_l3) hx hb hr (fun t ht hW => ⟨_, rfl, ⟨(rg_any y12_l3), trivial⟩, ht⟩) (fun q hq => absurd hq List.not_mem_nil) dX2_oddPieceCount_57
      · have g32472 : Rg 0 11 y12_l4 := rg_ltl g12_l4 (by decide : Rg 12 12 (12 : Int32)) (rg_nle c32470) (by decide)
        refine lv_iload_n hx hb dX2_oddPieceCount_19 rfl (lv_at hl 1 rfl) ?_
        refine lv_if_eq (tgt := 56) hx hb dX2_oddPieceCount_20 (by decide) (fun c32473 => ?_) (fun c32473 => ?_)
        · have g32474 : Rg 0 0 y12_l2 := wk_eql g12_l2 (by decide : Rg 0 0 (0 : Int32)) c32473 (by decide)
          refine lv_iload_n hx hb dX2_oddPieceCount_56 rfl (lv_at hl 2 rfl) ?_
          exact W.iret (v := y12_l3) hx hb hr (fun t ht hW => ⟨_, rfl, ⟨(rg_any y12_l3), trivial⟩, ht⟩) (fun q hq => absurd hq List.not_mem_nil) dX2_oddPieceCount_57
        · have g32475 : Rg 1 4095 y12_l2 := rg_ne_lo (k := 0) g12_l2 (by decide) c32473 (by decide)
          refine lv_aload_n hx hb dX2_oddPieceCount_23 rfl (lv_at hl 0 rfl) ?_
          refine va_get (D := D) (ci := 2) (v := .ref (a 2)) (C := RX2) (T := TX2) (N := 3) hx hb hts hin2 hown hK hP 1 rfl rfl 0 (by decide) (hts (.fieldLink RX2 9 "MissedPoints$Net" "links" "[I") (by decide +kernel)) (fun _ h9 => h9) rfl dX2_oddPieceCount_24 ?_
          refine lv_iload_n hx hb dX2_oddPieceCount_27 rfl (lv_at hl 1 rfl) ?_
          refine lz_ss (As := [.ref (a 2), .int y12_l2]) (rest := []) ⟨hx, hb, hml, hown, hts⟩ (k_X2_firstPiece l D cI cS a na nc N L u hL hN y12_l2) hKK hP (va_cwS 2 hts gX2_oddPieceCount_X2_firstPiece rfl rfl rfl (by decide +kernel) ⟨Nat.le_of_ble_eq_true rfl, Nat.le_of_ble_eq_true rfl⟩) rfl hl.1 rfl (Nat.le_of_ble_eq_true rfl) dX2_oddPieceCount_28 ⟨Nat.le_of_ble_eq_true rfl, Nat.le_of_ble_eq_true rfl⟩ (fun r32476 hr32476 => ?_)
          refine lv_istore (lv' := [(5, .int r32476), (0, .ref (a 1)), (2, .int y12_l2), (3, .int y12_l3), (4, .int y12_l4)]) hx hb dX2_oddPieceCount_31 hl (by decide) rfl (fun ls hl => ?_)
          refine lv_iload_n hx hb dX2_oddPieceCount_33 rfl (lv_at hl 2 rfl) ?_
          refine lv_iload hx hb dX2_oddPieceCount_34 (lv_at hl 0 rfl) ?_
          refine lv_iconst (v := (-1)) hx hb dX2_oddPieceCount_36 (by decide) ?_
          refine lv_ixor hx hb dX2_oddPieceCount_37 ?_
          refine wk_topP (P := fun r => r = r32476 ^^^ ((-1) : Int32)) rfl (fun r32477 qr32477 => ?_)
          refine wk_iandl hx hb dX2_oddPieceCount_38 g32475 (by decide) (fun r32478 hr32478 qr32478 => ?_)
          refine lv_istore_n (lv' := [(2, .int r32478), (5, .int r32476), (0, .ref (a 1)), (3, .int y12_l3), (4, .int y12_l4)]) hx hb dX2_oddPieceCount_39 rfl hl (by decide) rfl (fun ls hl => ?_)
          refine lv_iload_n hx hb dX2_oddPieceCount_40 rfl (lv_at hl 3 rfl) ?_
          refine lv_iload hx hb dX2_oddPieceCount_41 (lv_at hl 1 rfl) ?_
          refine lz_ss (As := [.int r32476]) (rest := [.int y12_l3]) ⟨hx, hb, hml, hown, hts⟩ (k_J6_bitCount_0f7a4 l D cI cS r32476) hKK (hP.sub (ws' := []) [] rfl) (va_cwS 1 hts gX2_oddPieceCount_J6_bitCount_0f7a4 rfl rfl rfl (by decide +kernel) ⟨Nat.le_of_ble_eq_true rfl, Nat.le_of_ble_eq_true rfl⟩) rfl hl.1 rfl (Nat.le_of_ble_eq_true rfl) dX2_oddPieceCount_43 ⟨Nat.le_of_ble_eq_true rfl, Nat.le_of_ble_eq_true rfl⟩ (fun r32479 hr32479 => ?_)
          refine lv_iconst (v := 1) hx hb dX2_oddPieceCount_46 (by decide) ?_
          refine wk_iandr hx hb dX2_oddPieceCount_47 (by decide : Rg 1 1 (1 : Int32)) (by decide) (fun r32480 hr32480 qr32480 => ?_)
          refine lv_iadd hx hb dX2_oddPieceCount_48 ?_
          refine wk_topP (P := fun r => r = y12_l3 + r32480) rfl (fun r32481 qr32481 => ?_)
          refine lv_istore_n (lv' := [(3, .int r32481), (2, .int r32478), (5, .int r32476), (0, .ref (a 1)), (4, .int y12_l4)]) hx hb dX2_oddPieceCount_49 rfl hl (by decide) rfl (fun ls hl => ?_)
          refine wk_iinc (lv' := fun r => [(4, .int r), (3, .int r32481), (2, .int r32478), (5, .int r32476), (0, .ref (a 1))]) (e1 := 1) (f := 12) hx hb dX2_oddPieceCount_50 hl (k := 4) rfl (by decide) g32472 (by decide) (fun _ => rfl) (fun r32482 ls hr32482 er32482 hl => ?_)
          refine lv_goto (tgt := 12) hx hb dX2_oddPieceCount_53 (by decide) ?_
          exact ih12 r32478 r32481 r32482 ls hr32478 (show Rg 0 12 r32482 from rg_w hr32482 (by decide) (by decide)) (lv_sub (l' := [(0, .ref (a 1)), (2, .int r32478), (3, .int r32481), (4, .int r32482)]) hl [4, 2, 1, 0] rfl) (me_up hm12 er32482 (by decide))
  refine lv_iload_n hx hb dX2_oddPieceCount_0 rfl (lv_at hl 1 rfl) ?_
  refine lv_aload_n hx hb dX2_oddPieceCount_1 rfl (lv_at hl 0 rfl) ?_
  refine wk_sv 1 (As := []) (rest := [.int x0]) ⟨hx, hb, hml, hown, hts⟩ (k_X2_all l D cI cS a na nc N L u hL hN) hKK hP (ci := 2) rfl rfl (cwV 0 hts gX2_oddPieceCount_X2_all rfl rfl rfl (by decide +kernel) ⟨Nat.le_of_ble_eq_true rfl, Nat.le_of_ble_eq_true rfl⟩) rfl hl.1 rfl (Nat.le_of_ble_eq_true rfl) dX2_oddPieceCount_2 ⟨Nat.le_of_ble_eq_true rfl, Nat.le_of_ble_eq_true rfl⟩ (fun r32483 hr32483 => ?_)
  refine wk_iandr hx hb dX2_oddPieceCount_5 hr32483.1 (by decide) (fun r32484 hr32484 qr32484 => ?_)
  refine lv_istore_n (lv' := [(2, .int r32484), (0, .ref (a 1)), (1, .int x0)]) hx hb dX2_oddPieceCount_6 rfl hl (by decide) rfl (fun ls hl => ?_)
  refine lv_iconst (v := 0) hx hb dX2_oddPieceCount_7 (by decide) ?_
  refine lv_istore_n (lv' := [(3, .int 0), (2, .int r32484), (0, .ref (a 1)), (1, .int x0)]) hx hb dX2_oddPieceCount_8 rfl hl (by decide) rfl (fun ls hl => ?_)
  refine lv_iconst (v := 0) hx hb dX2_oddPieceCount_9 (by decide) ?_
  refine lv_istore (lv' := [(4, .int 0), (3, .int 0), (2, .int r32484), (0, .ref (a 1)), (1, .int x0)]) hx hb dX2_oddPieceCount_10 hl (by decide) rfl (fun ls hl => ?_)
  exact lp12 13 r32484 (0 : Int32) (0 : Int32) ls hr32484 (by decide : Rg 0 12 (0 : Int32)) (lv_sub (l' := [(0, .ref (a 1)), (2, .int r32484), (3, .int 0), (4, .int 0)]) hl [3, 2, 1, 0] rfl) (me_i (by decide : Rg 0 12 (0 : Int32)) (by decide))
set_option maxRecDepth 20000 in
theorem ggX2_pieceAt_X2_firstPiece : GoodIn wsX2_pieceAt wsX2_firstPiece := goodIn_r _ [10, 11, 12, 13, 14, 15, 16, 17, 18] rfl (by decide +kernel)
set_option maxRecDepth 20000 in
theorem gX2_pieceAt_X2_firstPiece : GoodIn wsX2_pieceAt (va_wsS RX2 71 yX2_firstPiece wsX2_firstPiece) := goodIn_app (goodIn_of _ (by decide +kernel)) ggX2_pieceAt_X2_firstPiece
theorem dX2_pieceAt_21 : decode cX2_pieceAt 21 = .ok (.aload_n 0, 1) := by decide +kernel
theorem dX2_pieceAt_22 : decode cX2_pieceAt 22 = .ok (.getfield 9, 3) := by decide +kernel
theorem dX2_pieceAt_25 : decode cX2_pieceAt 25 = .ok (.iload_n 3, 1) := by decide +kernel
theorem dX2_pieceAt_26 : decode cX2_pieceAt 26 = .ok (.invokestatic 71, 3) := by decide +kernel
theorem dX2_pieceAt_29 : decode cX2_pieceAt 29 = .ok (.istore 5, 2) := by decide +kernel
theorem dX2_pieceAt_31 : decode cX2_pieceAt 31 = .ok (.iload 4, 2) := by decide +kernel
theorem dX2_pieceAt_33 : decode cX2_pieceAt 33 = .ok (.iload_n 2, 1) := by decide +kernel
theorem dX2_pieceAt_34 : decode cX2_pieceAt 34 = .ok (.if_icmp .ne 6, 3) := by decide +kernel
theorem dX2_pieceAt_37 : decode cX2_pieceAt 37 = .ok (.iload 5, 2) := by decide +kernel
theorem dX2_pieceAt_39 : decode cX2_pieceAt 39 = .ok (.ireturn, 1) := by decide +kernel
theorem dX2_pieceAt_40 : decode cX2_pieceAt 40 = .ok (.iload_n 3, 1) := by decide +kernel
theorem dX2_pieceAt_41 : decode cX2_pieceAt 41 = .ok (.iload 5, 2) := by decide +kernel
theorem dX2_pieceAt_43 : decode cX2_pieceAt 43 = .ok (.iconst (-1), 1) := by decide +kernel
theorem dX2_pieceAt_44 : decode cX2_pieceAt 44 = .ok (.ixor, 1) := by decide +kernel
theorem dX2_pieceAt_45 : decode cX2_pieceAt 45 = .ok (.iand, 1) := by decide +kernel
theorem dX2_pieceAt_46 : decode cX2_pieceAt 46 = .ok (.istore_n 3, 1) := by decide +kernel
theorem dX2_pieceAt_47 : decode cX2_pieceAt 47 = .ok (.iinc 4 1, 3) := by decide +kernel
theorem dX2_pieceAt_50 : decode cX2_pieceAt 50 = .ok (.goto (-40), 3) := by decide +kernel
set_option maxHeartbeats 4000000 in
set_option maxRecDepth 100000 in
theorem k_X2_pieceAt (l : Launch) (D : va_G) (cI cS : ClassId) (a : Nat → Nat) (na nc N : Nat) (L u : SU) (hL : TyX L) (hN : N = 0 ∨ N = 24576) (x0 x1 : Int32) : Met l yX2_pieceAt wsX2_pieceAt ({ frames := 2, cells := 0, slots := 0, locals := 80 }) (PS D cI cS (wX cI cS a na nc N L u) [.ref (a 1), .int x0, .int x1]) (vp_Si (fun r => Rg (-2147483648) 2147483647 r ∧ True)) 0 0 (fun _ => False) := by
  refine Met.ofW (cc := cX2_pieceAt) (maxL := 6) (ret := (some .int)) (by decide) rfl ?_
  intro p e s m args below meth c s₁ B hml hv
  obtain ⟨rfl, hP, hKK⟩ := hv
  have hx := B.exec
  have hb := B.bytes
  have hr := B.returns
  have hts := atoms_spec (ws := wsX2_pieceAt) B.pre
  have hown : s.vm.findClass RX2 = some m.cls := findClass_of_methodNamed B.named
  have hlocks := B.notSynchronized
  have hK := hKK.1
  have hin2 : ∀ w ∈ wsX20, w ∈ wsX2_pieceAt := by decide +kernel
  have hl := lv_entry ([.ref (a 1), .int x0, .int x1]) (n := 6) (Nat.le_of_ble_eq_true rfl)
  rw [lg_entry_eq]
  generalize (lg_sl ([.ref (a 1), .int x0, .int x1]) ++ List.replicate (6 - (lg_sl ([.ref (a 1), .int x0, .int x1])).length) Slot.unset).toArray = ls at hl ⊢
  have hl : lv_has ls 6 [(0, .ref (a 1)), (1, .int x0), (2, .int x1)] := hl
  have lp10 : ∀ (n10 : Nat) (y10_l3 : Int32) (y10_l4 : Int32) (ls : Array Slot), Rg 0 4095 y10_l3 → Rg 0 12 y10_l4 → lv_has ls 6 [(0, .ref (a 1)), (2, .int x1), (3, .int y10_l3), (4, .int y10_l4)] → 12 - y10_l4.toInt < (n10 : Int) → W p l e (headSpec wsX2_pieceAt ({ frames := 2, cells := 0, slots := 0, locals := 80 })).room s m ([.ref (a 1), .int x0, .int x1]).toArray below meth c s.heap [] 0 0 (MQ below (vp_Si (fun r => Rg (-2147483648) 2147483647 r ∧ True)) ([.ref (a 1), .int x0, .int x1]).toArray s 0 0 (fun _ => False)) (F0 m 10 ls []) := by
    intro n10
    induction n10 with
    | zero =>
      intro y10_l3 y10_l4 ls g10_l3 g10_l4 hl hm10
      exact absurd rfl (me_z g10_l4 hm10)
    | succ n10 ih10 =>
      intro y10_l3 y10_l4 ls g10_l3 g10_l4 hl hm10
      refine lv_iload hx hb dX2_pieceAt_10 (lv_at hl 3 rfl) ?_
      refine lv_bipush (v := 12) hx hb dX2_pieceAt_12 (by decide) ?_
      refine lv_icmp_ge (tgt := 53) hx hb dX2_pieceAt_14 (by decide) (fun c32594 => ?_) (fun c32594 => ?_)
      · have g32595 : Rg 12 12 y10_l4 := rg_ler (by decide : Rg 12 12 (12 : Int32)) g10_l4 c32594 (by decide)
        refine lv_iconst (v := 0) hx hb dX2_pieceAt_53 (by decide) ?_
        exact W.iret (v := 0) hx hb hr (fun t ht hW => ⟨_, rfl, ⟨(by decide : Rg (-2147483648) 2147483647 (0 : Int32)), trivial⟩, ht⟩) (fun q hq => absurd hq List.not_mem_nil) dX2_pieceAt_54
      · have g32596 : Rg 0 11 y10_l4 := rg_ltl g10_l4 (by decide : Rg 12 12 (12 : Int32)) (rg_nle c32594) (by decide)
        refine lv_iload_n hx hb dX2_pieceAt_17 rfl (lv_at hl 2 rfl) ?_
        refine lv_if_eq (tgt := 53) hx hb dX2_pieceAt_18 (by decide) (fun c32597 => ?_) (fun c32597 => ?_)
        · have g32598 : Rg 0 0 y10_l3 := wk_eql g10_l3 (by decide : Rg 0 0 (0 : Int32)) c32597 (by decide)
          refine lv_iconst (v := 0) hx hb dX2_pieceAt_53 (by decide) ?_
          exact W.iret (v := 0) hx hb hr (fun t ht hW => ⟨_, rfl, ⟨(by decide : Rg (-2147483648) 2147483647 (0 : Int32)), trivial⟩, ht⟩) (fun q hq => absurd hq List.not_mem_nil) dX2_pieceAt_54
        · have g32599 : Rg 1 4095 y10_l3 := rg_ne_lo (k := 0) g10_l3 (by decide) c32597 (by decide)
          refine lv_aload_n hx hb dX2_pieceAt_21 rfl (lv_at hl 0 rfl) ?_
          refine va_get (D := D) (ci := 2) (v := .ref (a 2)) (C := RX2) (T := TX2) (N := 3) hx hb hts hin2 hown hK hP 1 rfl rfl 0 (by decide) (hts (.fieldLink RX2 9 "MissedPoints$Net" "links" "[I") (by decide +kernel)) (fun _ h9 => h9) rfl dX2_pieceAt_22 ?_
          refine lv_iload_n hx hb dX2_pieceAt_25 rfl (lv_at hl 2 rfl) ?_
          refine lz_ss (As := [.ref (a 2), .int y10_l3]) (rest := []) ⟨hx, hb, hml, hown, hts⟩ (k_X2_firstPiece l D cI cS a na nc N L u hL hN y10_l3) hKK hP (va_cwS 2 hts gX2_pieceAt_X2_firstPiece rfl rfl rfl (by decide +kernel) ⟨Nat.le_of_ble_eq_true rfl, Nat.le_of_ble_eq_true rfl⟩) rfl hl.1 rfl (Nat.le_of_ble_eq_true rfl) dX2_pieceAt_26 ⟨Nat.le_of_ble_eq_true rfl, Nat.le_of_ble_eq_true rfl⟩ (fun r32600 hr32600 => ?_)
          refine lv_istore (lv' := [(5, .int r32600), (0, .ref (a 1)), (2, .int x1), (3, .int y10_l3), (4, .int y10_l4)]) hx hb dX2_pieceAt_29 hl (by decide) rfl (fun ls hl => ?_)
          refine lv_iload hx hb dX2_pieceAt_31 (lv_at hl 4 rfl) ?_
          refine lv_iload_n hx hb dX2_pieceAt_33 rfl (lv_at hl 2 rfl) ?_
          refine lv_icmp_ne (tgt := 40) hx hb dX2_pieceAt_34 (by decide) (fun c32601 => ?_) (fun c32601 => ?_)
          · refine lv_iload_n hx hb dX2_pieceAt_40 rfl (lv_at hl 3 rfl) ?_
            refine lv_iload hx hb dX2_pieceAt_41 (lv_at hl 0 rfl) ?_
            refine lv_iconst (v := (-1)) hx hb dX2_pieceAt_43 (by decide) ?_
            refine lv_ixor hx hb dX2_pieceAt_44 ?_
            refine wk_topP (P := fun r => r = r32600 ^^^ ((-1) : Int32)) rfl (fun r32602 qr32602 => ?_)
            refine wk_iandl hx hb dX2_pieceAt_45 g32599 (by decide) (fun r32603 hr32603 qr32603 => ?_)
            refine lv_istore_n (lv' := [(3, .int r32603), (5, .int r32600), (0, .ref (a 1)), (2, .int x1), (4, .int y10_l4)]) hx hb dX2_pieceAt_46 rfl hl (by decide) rfl (fun ls hl => ?_)
            refine wk_iinc (lv' := fun r => [(4, .int r), (3, .int r32603), (5, .int r32600), (0, .ref (a 1)), (2, .int x1)]) (e1 := 1) (f := 12) hx hb dX2_pieceAt_47 hl (k := 4) rfl (by decide) g32596 (by decide) (fun _ => rfl) (fun r32604 ls hr32604 er32604 hl => ?_)
            refine lv_goto (tgt := 10) hx hb dX2_pieceAt_50 (by decide) ?_
            exact ih10 r32603 r32604 ls hr32603 (show Rg 0 12 r32604 from rg_w hr32604 (by decide) (by decide)) (lv_sub (l' := [(0, .ref (a 1)), (2, .int x1), (3, .int r32603), (4, .int r32604)]) hl [3, 4, 1, 0] rfl) (me_up hm10 er32604 (by decide))
          · have g32605 : Rg 0 11 x1 := wk_eqr g32596 (rg_any x1) c32601 (by decide)
            refine lv_iload hx hb dX2_pieceAt_37 (lv_at hl 0 rfl) ?_
            exact W.iret (v := r32600) hx hb hr (fun t ht hW => ⟨_, rfl, ⟨hr32600.1, trivial⟩, ht⟩) (fun q hq => absurd hq List.not_mem_nil) dX2_pieceAt_39
  refine lv_iload_n hx hb dX2_pieceAt_0 rfl (lv_at hl 1 rfl) ?_
  refine lv_aload_n hx hb dX2_pieceAt_1 rfl (lv_at hl 0 rfl) ?_
  refine wk_sv 1 (As := []) (rest := [.int x0]) ⟨hx, hb, hml, hown, hts⟩ (k_X2_all l D cI cS a na nc N L u hL hN) hKK hP (ci := 2) rfl rfl (cwV 0 hts gX2_pieceAt_X2_all rfl rfl rfl (by decide +kernel) ⟨Nat.le_of_ble_eq_true rfl, Nat.le_of_ble_eq_true rfl⟩) rfl hl.1 rfl (Nat.le_of_ble_eq_true rfl) dX2_pieceAt_2 ⟨Nat.le_of_ble_eq_true rfl, Nat.le_of_ble_eq_true rfl⟩ (fun r32606 hr32606 => ?_)
  refine wk_iandr hx hb dX2_pieceAt_5 hr32606.1 (by decide) (fun r32607 hr32607 qr32607 => ?_)
  refine lv_istore_n (lv' := [(3, .int r32607), (0, .ref (a 1)), (1, .int x0), (2, .int x1)]) hx hb dX2_pieceAt_6 rfl hl (by decide) rfl (fun ls hl => ?_)
  refine lv_iconst (v := 0) hx hb dX2_pieceAt_7 (by decide) ?_
  refine lv_istore (lv' := [(4, .int 0), (3, .int r32607), (0, .ref (a 1)), (1, .int x0), (2, .int x1)]) hx hb dX2_pieceAt_8 hl (by decide) rfl (fun ls hl => ?_)
  exact lp10 13 r32607 (0 : Int32) ls hr32607 (by decide : Rg 0 12 (0 : Int32)) (lv_sub (l' := [(0, .ref (a 1)), (2, .int x1), (3, .int r32607), (4, .int 0)]) hl [2, 4, 1, 0] rfl) (me_i (by decide : Rg 0 12 (0 : Int32)) (by decide))
set_option maxRecDepth 20000 in
theorem ggX2_joinAll_X2_join : GoodIn wsX2_joinAll wsX2_join := goodIn_r _ [19, 7, 20, 8, 9, 10, 5, 11, 12, 13, 14, 15, 1, 21, 22, 23] rfl (by decide +kernel)
set_option maxRecDepth 20000 in
theorem gX2_joinAll_X2_join : GoodIn wsX2_joinAll (wsV RX2 43 RX2 yX2_join wsX2_join) := goodIn_app (goodIn_of _ (by decide +kernel)) ggX2_joinAll_X2_join
set_option maxRecDepth 20000 in
theorem ggX2_joinAll_X2_joined : GoodIn wsX2_joinAll wsX2_joined := goodIn_r _ [6, 7, 8, 9, 10, 5, 11, 12, 13, 14, 15, 1, 21, 22, 23] rfl (by decide +kernel)
set_option maxRecDepth 20000 in
theorem gX2_joinAll_X2_joined : GoodIn wsX2_joinAll (wsV RX2 40 RX2 yX2_joined wsX2_joined) := goodIn_app (goodIn_of _ (by decide +kernel)) ggX2_joinAll_X2_joined
theorem dX2_joinAll_0 : decode cX2_joinAll 0 = .ok (.iconst 0, 1) := by decide +kernel
theorem dX2_joinAll_1 : decode cX2_joinAll 1 = .ok (.istore_n 2, 1) := by decide +kernel
theorem dX2_joinAll_12 : decode cX2_joinAll 12 = .ok (.iload_n 3, 1) := by decide +kernel
theorem dX2_joinAll_13 : decode cX2_joinAll 13 = .ok (.aload_n 1, 1) := by decide +kernel
theorem dX2_joinAll_14 : decode cX2_joinAll 14 = .ok (.arraylength, 1) := by decide +kernel
theorem dX2_joinAll_15 : decode cX2_joinAll 15 = .ok (.if_icmp .ge 61, 3) := by decide +kernel
theorem dX2_joinAll_18 : decode cX2_joinAll 18 = .ok (.iload_n 3, 1) := by decide +kernel
theorem dX2_joinAll_19 : decode cX2_joinAll 19 = .ok (.iconst 1, 1) := by decide +kernel
theorem dX2_joinAll_2 : decode cX2_joinAll 2 = .ok (.iconst 0, 1) := by decide +kernel
theorem dX2_joinAll_20 : decode cX2_joinAll 20 = .ok (.iadd, 1) := by decide +kernel
theorem dX2_joinAll_21 : decode cX2_joinAll 21 = .ok (.istore 4, 2) := by decide +kernel
theorem dX2_joinAll_23 : decode cX2_joinAll 23 = .ok (.iload 4, 2) := by decide +kernel
theorem dX2_joinAll_25 : decode cX2_joinAll 25 = .ok (.aload_n 0, 1) := by decide +kernel
theorem dX2_joinAll_26 : decode cX2_joinAll 26 = .ok (.getfield 15, 3) := by decide +kernel
theorem dX2_joinAll_29 : decode cX2_joinAll 29 = .ok (.if_icmp .ge 41, 3) := by decide +kernel
theorem dX2_joinAll_3 : decode cX2_joinAll 3 = .ok (.istore_n 3, 1) := by decide +kernel
theorem dX2_joinAll_32 : decode cX2_joinAll 32 = .ok (.aload_n 1, 1) := by decide +kernel
theorem dX2_joinAll_33 : decode cX2_joinAll 33 = .ok (.iload_n 3, 1) := by decide +kernel
theorem dX2_joinAll_34 : decode cX2_joinAll 34 = .ok (.iaload, 1) := by decide +kernel
theorem dX2_joinAll_35 : decode cX2_joinAll 35 = .ok (.iload 4, 2) := by decide +kernel
theorem dX2_joinAll_37 : decode cX2_joinAll 37 = .ok (.ishr, 1) := by decide +kernel
theorem dX2_joinAll_38 : decode cX2_joinAll 38 = .ok (.iconst 1, 1) := by decide +kernel
theorem dX2_joinAll_39 : decode cX2_joinAll 39 = .ok (.iand, 1) := by decide +kernel
theorem dX2_joinAll_4 : decode cX2_joinAll 4 = .ok (.iload_n 3, 1) := by decide +kernel
theorem dX2_joinAll_40 : decode cX2_joinAll 40 = .ok (.ifCond .eq 24, 3) := by decide +kernel
theorem dX2_joinAll_43 : decode cX2_joinAll 43 = .ok (.aload_n 0, 1) := by decide +kernel
theorem dX2_joinAll_44 : decode cX2_joinAll 44 = .ok (.iload_n 3, 1) := by decide +kernel
theorem dX2_joinAll_45 : decode cX2_joinAll 45 = .ok (.iload 4, 2) := by decide +kernel
theorem dX2_joinAll_47 : decode cX2_joinAll 47 = .ok (.invokevirtual 40, 3) := by decide +kernel
theorem dX2_joinAll_5 : decode cX2_joinAll 5 = .ok (.aload_n 0, 1) := by decide +kernel
theorem dX2_joinAll_50 : decode cX2_joinAll 50 = .ok (.ifCond .ne 14, 3) := by decide +kernel
theorem dX2_joinAll_53 : decode cX2_joinAll 53 = .ok (.aload_n 0, 1) := by decide +kernel
theorem dX2_joinAll_54 : decode cX2_joinAll 54 = .ok (.iload_n 3, 1) := by decide +kernel
theorem dX2_joinAll_55 : decode cX2_joinAll 55 = .ok (.iload 4, 2) := by decide +kernel
theorem dX2_joinAll_57 : decode cX2_joinAll 57 = .ok (.iconst 1, 1) := by decide +kernel
theorem dX2_joinAll_58 : decode cX2_joinAll 58 = .ok (.invokevirtual 43, 3) := by decide +kernel
theorem dX2_joinAll_6 : decode cX2_joinAll 6 = .ok (.getfield 15, 3) := by decide +kernel
theorem dX2_joinAll_61 : decode cX2_joinAll 61 = .ok (.iinc 2 1, 3) := by decide +kernel
theorem dX2_joinAll_64 : decode cX2_joinAll 64 = .ok (.iinc 4 1, 3) := by decide +kernel
theorem dX2_joinAll_67 : decode cX2_joinAll 67 = .ok (.goto (-44), 3) := by decide +kernel
theorem dX2_joinAll_70 : decode cX2_joinAll 70 = .ok (.iinc 3 1, 3) := by decide +kernel
theorem dX2_joinAll_73 : decode cX2_joinAll 73 = .ok (.goto (-69), 3) := by decide +kernel
theorem dX2_joinAll_76 : decode cX2_joinAll 76 = .ok (.iload_n 2, 1) := by decide +kernel
theorem dX2_joinAll_77 : decode cX2_joinAll 77 = .ok (.ireturn, 1) := by decide +kernel
theorem dX2_joinAll_9 : decode cX2_joinAll 9 = .ok (.if_icmp .ge 67, 3) := by decide +kernel
set_option maxHeartbeats 4000000 in
set_option maxRecDepth 100000 in
theorem k_X2_joinAll (l : Launch) (D : va_G) (cI cS : ClassId) (sz : Nat) (a : Nat → Nat) (na nc N : Nat) (L u0 : SU) (hL : TyX L) (hN : N = 0 ∨ N = 24576) : Met l yX2_joinAll wsX2_joinAll ({ frames := 3, cells := 0, slots := 0, locals := 120 }) (PQ D cI cS (wX cI cS a na nc N L u0) sz [.ref (a 1), .ref (a 24)]) (QF (S := SU) D (wX cI cS a na nc N L u0) (wX cI cS a na nc N L) sz (fun r _ => Rg (-2147483648) 2147483647 r ∧ True)) 0 0 (va_A (wX cI cS a na nc N L u0) sz) := by
  refine Met.ofW (cc := cX2_joinAll) (maxL := 5) (ret := (some .int)) (by decide) rfl ?_
  intro p e s m args below meth c s₁ B hml hv
  obtain ⟨rfl, hsz, hP, hKK, hD0⟩ := hv
  have hx := B.exec
  have hb := B.bytes
  have hr := B.returns
  have hts := atoms_spec (ws := wsX2_joinAll) B.pre
  have hown : s.vm.findClass RX2 = some m.cls := findClass_of_methodNamed B.named
  have hlocks := B.notSynchronized
  have hK := hKK.1
  have hin2 : ∀ w ∈ wsX20, w ∈ wsX2_joinAll := by decide +kernel
  subst hsz
  have hD := hD0.self (sz := s.heap.size)
  obtain ⟨A, hAe⟩ : ∃ A, A = va_A (wX cI cS a na nc N L u0) s.heap.size := ⟨_, rfl⟩
  rw [← hAe] at hD
  have hA : ∀ q : Nat, s.heap.size ≤ q → A q := fun q h => by rw [hAe]; exact Or.inr h
  have hS : va_S A s.heap s.heap [] := va_S.rf
  have hl := lv_entry ([.ref (a 1), .ref (a 24)]) (n := 5) (Nat.le_of_ble_eq_true rfl)
  rw [lg_entry_eq]
  generalize (lg_sl ([.ref (a 1), .ref (a 24)]) ++ List.replicate (5 - (lg_sl ([.ref (a 1), .ref (a 24)])).length) Slot.unset).toArray = ls at hl ⊢
  have hl : lv_has ls 5 [(0, .ref (a 1)), (1, .ref (a 24))] := hl
  obtain ⟨u, hu9⟩ : ∃ u : SU, u = u0 := ⟨_, rfl⟩
  rw [← hu9] at hP hD
  have lp4 : ∀ (n4 : Nat) (y4_l2 : Int32) (y4_l3 : Int32) (u : SU) (H : Heap) (locs : List Loc) (ls : Array Slot), Rg 0 12 y4_l3 → va_P D cls (wX cI cS a na nc N L u) H → va_D A (wX cI cS a na nc N L u) → va_S A s.heap H locs → lv_has ls 5 [(0, .ref (a 1)), (1, .ref (a 24)), (2, .int y4_l2), (3, .int y4_l3)] → 12 - y4_l3.toInt < (n4 : Int) → W p l e (headSpec wsX2_joinAll ({ frames := 3, cells := 0, slots := 0, locals := 120 })).room s m ([.ref (a 1), .ref (a 24)]).toArray below meth c H locs 0 0 (MQ below (QF (S := SU) D (wX cI cS a na nc N L u0) (wX cI cS a na nc N L) s.heap.size (fun r _ => Rg (-2147483648) 2147483647 r ∧ True)) ([.ref (a 1), .ref (a 24)]).toArray s 0 0 (va_A (wX cI cS a na nc N L u0) s.heap.size)) (F0 m 4 ls []) := by
    intro n4
    induction n4 with
    | zero =>
      intro y4_l2 y4_l3 u H locs ls g4_l3 hP hD hS hl hm4
      exact absurd rfl (me_z g4_l3 hm4)
    | succ n4 ih4 =>
      intro y4_l2 y4_l3 u H locs ls g4_l3 hP hD hS hl hm4
      have lp23 : ∀ (n23 : Nat) (y23_l2 : Int32) (y23_l4 : Int32) (u : SU) (H : Heap) (locs : List Loc) (ls : Array Slot), Rg 0 11 y4_l3 → Rg 1 12 y23_l4 → va_P D cls (wX cI cS a na nc N L u) H → va_D A (wX cI cS a na nc N L u) → va_S A s.heap H locs → lv_has ls 5 [(0, .ref (a 1)), (1, .ref (a 24)), (2, .int y23_l2), (3, .int y4_l3), (4, .int y23_l4)] → 12 - y23_l4.toInt < (n23 : Int) → W p l e (headSpec wsX2_joinAll ({ frames := 3, cells := 0, slots := 0, locals := 120 })).room s m ([.ref (a 1), .ref (a 24)]).toArray below meth c H locs 0 0 (MQ below (QF (S := SU) D (wX cI cS a na nc N L u0) (wX cI cS a na nc N L) s.heap.size (fun r _ => Rg (-2147483648) 2147483647 r ∧ True)) ([.ref (a 1), .ref (a 24)]).toArray s 0 0 (va_A (wX cI cS a na nc N L u0) s.heap.size)) (F0 m 23 ls []) := by
        intro n23
        induction n23 with
        | zero =>
          intro y23_l2 y23_l4 u H locs ls g23_l3 g23_l4 hP hD hS hl hm23
          exact absurd rfl (me_z g23_l4 hm23)
        | succ n23 ih23 =>
          intro y23_l2 y23_l4 u H locs ls g23_l3 g23_l4 hP hD hS hl hm23
          refine lv_iload hx hb dX2_joinAll_23 (lv_at hl 4 rfl) ?_
          refine lv_aload_n hx hb dX2_joinAll_25 rfl (lv_at hl 0 rfl) ?_
          refine va_get (D := D) (ci := 2) (v := .int (L 1 1)) (C := RX2) (T := TX2) (N := 3) hx hb hts hin2 hown hK hP 1 rfl rfl 1 (by decide) (hts (.fieldLink RX2 15 "MissedPoints$Net" "size" "I") (by decide +kernel)) (fun _ h9 => h9) rfl dX2_joinAll_26 ?_
          refine lv_icmp_ge (tgt := 70) hx hb dX2_joinAll_29 (by decide) (fun c33357 => ?_) (fun c33357 => ?_)
          · refine wk_iinc (lv' := fun r => [(3, .int r), (0, .ref (a 1)), (1, .ref (a 24)), (2, .int y23_l2), (4, .int y23_l4)]) (e1 := 1) (f := 12) hx hb dX2_joinAll_70 hl (k := 3) rfl (by decide) g23_l3 (by decide) (fun _ => rfl) (fun r33358 ls hr33358 er33358 hl => ?_)
            refine lv_goto (tgt := 4) hx hb dX2_joinAll_73 (by decide) ?_
            exact ih4 y23_l2 r33358 u _ _ ls (show Rg 0 12 r33358 from rg_w hr33358 (by decide) (by decide)) hP hD hS (lv_sub (l' := [(0, .ref (a 1)), (1, .ref (a 24)), (2, .int y23_l2), (3, .int r33358)]) hl [1, 2, 3, 0] rfl) (me_up hm4 er33358 (by decide))
          · have g33359 : Rg 2 12 (L 1 1) := rg_ltr g23_l4 hL.1 (rg_nle c33357) (by decide)
            have g33360 : Rg 1 11 y23_l4 := rg_ltl g23_l4 hL.1 (rg_nle c33357) (by decide)
            refine lv_aload_n hx hb dX2_joinAll_32 rfl (lv_at hl 1 rfl) ?_
            refine lv_iload_n hx hb dX2_joinAll_33 rfl (lv_at hl 3 rfl) ?_
            refine wk_aldA hx hb hK hP 24 0 rfl rfl (rg_in g23_l3 (by decide) (by decide)) dX2_joinAll_34 (fun r33361 => ?_)
            refine lv_iload hx hb dX2_joinAll_35 (lv_at hl 4 rfl) ?_
            refine lv_ishr hx hb dX2_joinAll_37 ?_
            refine wk_topP (P := fun r => r = r33361 >>> (y23_l4 &&& 31)) rfl (fun r33362 qr33362 => ?_)
            refine lv_iconst (v := 1) hx hb dX2_joinAll_38 (by decide) ?_
            refine wk_iandr hx hb dX2_joinAll_39 (by decide : Rg 1 1 (1 : Int32)) (by decide) (fun r33363 hr33363 qr33363 => ?_)
            refine lv_if_eq (tgt := 64) hx hb dX2_joinAll_40 (by decide) (fun c33364 => ?_) (fun c33364 => ?_)
            · have g33365 : Rg 0 0 r33363 := wk_eql hr33363 (by decide : Rg 0 0 (0 : Int32)) c33364 (by decide)
              refine wk_iinc (lv' := fun r => [(4, .int r), (0, .ref (a 1)), (1, .ref (a 24)), (2, .int y23_l2), (3, .int y4_l3)]) (e1 := 2) (f := 12) hx hb dX2_joinAll_64 hl (k := 4) rfl (by decide) g33360 (by decide) (fun _ => rfl) (fun r33366 ls hr33366 er33366 hl => ?_)
              refine lv_goto (tgt := 23) hx hb dX2_joinAll_67 (by decide) ?_
              exact ih23 y23_l2 r33366 u _ _ ls g23_l3 (show Rg 1 12 r33366 from rg_w hr33366 (by decide) (by decide)) hP hD hS (lv_sub (l' := [(0, .ref (a 1)), (1, .ref (a 24)), (2, .int y23_l2), (3, .int y4_l3), (4, .int r33366)]) hl [1, 2, 3, 4, 0] rfl) (me_up hm23 er33366 (by decide))
            · have g33367 : Rg 1 1 r33363 := rg_ne_lo (k := 0) hr33363 (by decide) c33364 (by decide)
              refine lv_aload_n hx hb dX2_joinAll_43 rfl (lv_at hl 0 rfl) ?_
              refine lv_iload_n hx hb dX2_joinAll_44 rfl (lv_at hl 3 rfl) ?_
              refine lv_iload hx hb dX2_joinAll_45 (lv_at hl 4 rfl) ?_
              refine wk_sv 1 (As := [.int y4_l3, .int y23_l4]) (rest := []) ⟨hx, hb, hml, hown, hts⟩ (k_X2_joined l D cI cS a na nc N L u hL hN y4_l3 y23_l4) hKK hP (ci := 2) rfl rfl (cwV 2 hts gX2_joinAll_X2_joined rfl rfl rfl (by decide +kernel) ⟨Nat.le_of_ble_eq_true rfl, Nat.le_of_ble_eq_true rfl⟩) rfl hl.1 rfl (Nat.le_of_ble_eq_true rfl) dX2_joinAll_47 ⟨Nat.le_of_ble_eq_true rfl, Nat.le_of_ble_eq_true rfl⟩ (fun r33368 hr33368 => ?_)
              refine lv_if_ne (tgt := 64) hx hb dX2_joinAll_50 (by decide) (fun c33369 => ?_) (fun c33369 => ?_)
              · have g33370 : Rg 1 1 r33368 := rg_ne_lo (k := 0) hr33368.1 (by decide) c33369 (by decide)
                refine wk_iinc (lv' := fun r => [(4, .int r), (0, .ref (a 1)), (1, .ref (a 24)), (2, .int y23_l2), (3, .int y4_l3)]) (e1 := 2) (f := 12) hx hb dX2_joinAll_64 hl (k := 4) rfl (by decide) g33360 (by decide) (fun _ => rfl) (fun r33371 ls hr33371 er33371 hl => ?_)
                refine lv_goto (tgt := 23) hx hb dX2_joinAll_67 (by decide) ?_
                exact ih23 y23_l2 r33371 u _ _ ls g23_l3 (show Rg 1 12 r33371 from rg_w hr33371 (by decide) (by decide)) hP hD hS (lv_sub (l' := [(0, .ref (a 1)), (1, .ref (a 24)), (2, .int y23_l2), (3, .int y4_l3), (4, .int r33371)]) hl [1, 2, 3, 4, 0] rfl) (me_up hm23 er33371 (by decide))
              · have g33372 : Rg 0 0 r33368 := wk_eql hr33368.1 (by decide : Rg 0 0 (0 : Int32)) c33369 (by decide)
                refine lv_aload_n hx hb dX2_joinAll_53 rfl (lv_at hl 0 rfl) ?_
                refine lv_iload_n hx hb dX2_joinAll_54 rfl (lv_at hl 3 rfl) ?_
                refine lv_iload hx hb dX2_joinAll_55 (lv_at hl 4 rfl) ?_
                refine lv_iconst (v := 1) hx hb dX2_joinAll_57 (by decide) ?_
                refine wk_qv (wX cI cS a na nc N L) u (As := [.int y4_l3, .int y23_l4, .int 1]) (rest := []) ⟨hx, hb, hml, hown, hts⟩ (k_X2_join l D cI cS _ a na nc N L u hL hN y4_l3 y23_l4 (1 : Int32) (by decide : Rg 0 1 (1 : Int32))) hKK hP hD hS hA 1 (ci := 2) rfl rfl (cwV 3 hts gX2_joinAll_X2_join rfl rfl rfl (by decide +kernel) ⟨Nat.le_of_ble_eq_true rfl, Nat.le_of_ble_eq_true rfl⟩) rfl hl.1 rfl (Nat.le_of_ble_eq_true rfl) dX2_joinAll_58 ⟨Nat.le_of_ble_eq_true rfl, Nat.le_of_ble_eq_true rfl⟩ (fun u H locs hr33373 hP hD hS => ?_)
                refine wk_iincA (lv' := fun r => [(2, .int r), (0, .ref (a 1)), (1, .ref (a 24)), (3, .int y4_l3), (4, .int y23_l4)]) hx hb dX2_joinAll_61 hl (k := 2) rfl (by decide) (fun _ => rfl) (fun r33374 ls hl => ?_)
                refine wk_iinc (lv' := fun r => [(4, .int r), (2, .int r33374), (0, .ref (a 1)), (1, .ref (a 24)), (3, .int y4_l3)]) (e1 := 2) (f := 12) hx hb dX2_joinAll_64 hl (k := 4) rfl (by decide) g33360 (by decide) (fun _ => rfl) (fun r33375 ls hr33375 er33375 hl => ?_)
                refine lv_goto (tgt := 23) hx hb dX2_joinAll_67 (by decide) ?_
                exact ih23 r33374 r33375 u _ _ ls g23_l3 (show Rg 1 12 r33375 from rg_w hr33375 (by decide) (by decide)) hP hD hS (lv_sub (l' := [(0, .ref (a 1)), (1, .ref (a 24)), (2, .int r33374), (3, .int y4_l3), (4, .int r33375)]) hl [2, 3, 1, 4, 0] rfl) (me_up hm23 er33375 (by decide))
      refine lv_iload_n hx hb dX2_joinAll_4 rfl (lv_at hl 3 rfl) ?_
      refine lv_aload_n hx hb dX2_joinAll_5 rfl (lv_at hl 0 rfl) ?_
      refine va_get (D := D) (ci := 2) (v := .int (L 1 1)) (C := RX2) (T := TX2) (N := 3) hx hb hts hin2 hown hK hP 1 rfl rfl 1 (by decide) (hts (.fieldLink RX2 15 "MissedPoints$Net" "size" "I") (by decide +kernel)) (fun _ h9 => h9) rfl dX2_joinAll_6 ?_
      refine lv_icmp_ge (tgt := 76) hx hb dX2_joinAll_9 (by decide) (fun c33376 => ?_) (fun c33376 => ?_)
      · refine lv_iload_n hx hb dX2_joinAll_76 rfl (lv_at hl 2 rfl) ?_
        subst hAe
        exact W.iret (v := y4_l2) hx hb hr (fun t ht hW => ⟨⟨_, u, rfl, ⟨(rg_any y4_l2), trivial⟩, by rw [ht]; exact hP, hD⟩, hS.F ht⟩) hS.2.2 dX2_joinAll_77
      · have g33377 : Rg 1 12 (L 1 1) := rg_ltr g4_l3 hL.1 (rg_nle c33376) (by decide)
        have g33378 : Rg 0 11 y4_l3 := rg_ltl g4_l3 hL.1 (rg_nle c33376) (by decide)
        refine lv_iload_n hx hb dX2_joinAll_12 rfl (lv_at hl 3 rfl) ?_
        refine lv_aload_n hx hb dX2_joinAll_13 rfl (lv_at hl 1 rfl) ?_
        refine va_alen hx hb hK hP 24 0 rfl rfl (v := 12) rfl dX2_joinAll_14 ?_
        refine lv_icmp_ge (tgt := 76) hx hb dX2_joinAll_15 (by decide) (fun c33379 => ?_) (fun c33379 => ?_)
        · exact absurd c33379 (wk_nle (by decide : Rg 12 12 (12 : Int32)) g33378 (by decide))
        · refine lv_iload_n hx hb dX2_joinAll_18 rfl (lv_at hl 3 rfl) ?_
          refine lv_iconst (v := 1) hx hb dX2_joinAll_19 (by decide) ?_
          refine wk_iadd (e1 := 1) (f := 12) hx hb dX2_joinAll_20 g33378 (by decide : Rg 1 1 (1 : Int32)) (by decide) (fun r33380 hr33380 er33380 qr33380 => ?_)
          refine lv_istore (lv' := [(4, .int r33380), (0, .ref (a 1)), (1, .ref (a 24)), (2, .int y4_l2), (3, .int y4_l3)]) hx hb dX2_joinAll_21 hl (by decide) rfl (fun ls hl => ?_)
          exact lp23 12 y4_l2 r33380 u _ _ ls g33378 hr33380 hP hD hS (lv_sub (l' := [(0, .ref (a 1)), (1, .ref (a 24)), (2, .int y4_l2), (3, .int y4_l3), (4, .int r33380)]) hl [1, 2, 3, 4, 0] rfl) (me_i hr33380 (by decide))
  refine lv_iconst (v := 0) hx hb dX2_joinAll_0 (by decide) ?_
  refine lv_istore_n (lv' := [(2, .int 0), (0, .ref (a 1)), (1, .ref (a 24))]) hx hb dX2_joinAll_1 rfl hl (by decide) rfl (fun ls hl => ?_)
  refine lv_iconst (v := 0) hx hb dX2_joinAll_2 (by decide) ?_
  refine lv_istore_n (lv' := [(3, .int 0), (2, .int 0), (0, .ref (a 1)), (1, .ref (a 24))]) hx hb dX2_joinAll_3 rfl hl (by decide) rfl (fun ls hl => ?_)
  exact lp4 13 (0 : Int32) (0 : Int32) u _ _ ls (by decide : Rg 0 12 (0 : Int32)) hP hD hS (lv_sub (l' := [(0, .ref (a 1)), (1, .ref (a 24)), (2, .int 0), (3, .int 0)]) hl [2, 3, 1, 0] rfl) (me_i (by decide : Rg 0 12 (0 : Int32)) (by decide))
set_option maxHeartbeats 4000000 in
set_option maxRecDepth 100000 in
theorem k_X1_recall (l : Launch) (D : va_G) (cI cS : ClassId) (a : Nat → Nat) (na nc N : Nat) (L u : SU) (hL : TyX L) (hN : N = 0 ∨ N = 24576) (x0 : Int32) : Met l yX1_recall wsX1_recall ({ frames := 0, cells := 0, slots := 0, locals := 0 }) (PS D cI cS (wX cI cS a na nc N L u) [.ref (a 9), .int x0]) (vp_Si (fun r => Rg (-1) 65535 r ∧ True)) 0 0 (fun _ => False) := by
  refine Met.ofW (cc := cX1_recall) (maxL := 2) (ret := (some .int)) (by decide) rfl ?_
  intro p e s m args below meth c s₁ B hml hv
  obtain ⟨rfl, hP, hKK⟩ := hv
  have hx := B.exec
  have hb := B.bytes
  have hr := B.returns
  have hts := atoms_spec (ws := wsX1_recall) B.pre
  have hown : s.vm.findClass RX1 = some m.cls := findClass_of_methodNamed B.named
  have hlocks := B.notSynchronized
  have hK := hKK.1
  have hin1 : ∀ w ∈ wsX10, w ∈ wsX1_recall := by decide +kernel
  have hl := lv_entry ([.ref (a 9), .int x0]) (n := 2) (Nat.le_of_ble_eq_true rfl)
  rw [lg_entry_eq]
  generalize (lg_sl ([.ref (a 9), .int x0]) ++ List.replicate (2 - (lg_sl ([.ref (a 9), .int x0])).length) Slot.unset).toArray = ls at hl ⊢
  have hl : lv_has ls 2 [(0, .ref (a 9)), (1, .int x0)] := hl
  refine lv_iload_n hx hb dX1_recall_0 rfl (lv_at hl 1 rfl) ?_
  refine lv_if_lt (tgt := 29) hx hb dX1_recall_1 (by decide) (fun c33393 => ?_) (fun c33393 => ?_)
  · have g33394 : Rg (-2147483648) (-1) x0 := rg_ltl (rg_any x0) (by decide : Rg 0 0 (0 : Int32)) c33393 (by decide)
    refine lv_iconst (v := (-1)) hx hb dX1_recall_29 (by decide) ?_
    exact W.iret (v := (-1)) hx hb hr (fun t ht hW => ⟨_, rfl, ⟨(by decide : Rg (-1) 65535 ((-1) : Int32)), trivial⟩, ht⟩) (fun q hq => absurd hq List.not_mem_nil) dX1_recall_30
  · have g33395 : Rg 0 2147483647 x0 := rg_ler (by decide : Rg 0 0 (0 : Int32)) (rg_any x0) (rg_nlt c33393) (by decide)
    refine lv_iload_n hx hb dX1_recall_4 rfl (lv_at hl 1 rfl) ?_
    refine lv_aload_n hx hb dX1_recall_5 rfl (lv_at hl 0 rfl) ?_
    refine va_get (D := D) (ci := 1) (v := .ref (a 10)) (C := RX1) (T := TX1) (N := 2) hx hb hts hin1 hown hK hP 9 rfl rfl 0 (by decide) (hts (.fieldLink RX1 21 "MissedPoints$Memo" "cells" "[I") (by decide +kernel)) (fun _ h9 => h9) rfl dX1_recall_6 ?_
    refine va_alen hx hb hK hP 10 0 rfl rfl (v := 4096) rfl dX1_recall_9 ?_
    refine lv_icmp_ge (tgt := 29) hx hb dX1_recall_10 (by decide) (fun c33396 => ?_) (fun c33396 => ?_)
    · have g33397 : Rg 4096 2147483647 x0 := rg_ler (by decide : Rg 4096 4096 (4096 : Int32)) g33395 c33396 (by decide)
      refine lv_iconst (v := (-1)) hx hb dX1_recall_29 (by decide) ?_
      exact W.iret (v := (-1)) hx hb hr (fun t ht hW => ⟨_, rfl, ⟨(by decide : Rg (-1) 65535 ((-1) : Int32)), trivial⟩, ht⟩) (fun q hq => absurd hq List.not_mem_nil) dX1_recall_30
    · have g33398 : Rg 0 4095 x0 := rg_ltl g33395 (by decide : Rg 4096 4096 (4096 : Int32)) (rg_nle c33396) (by decide)
      refine lv_aload_n hx hb dX1_recall_13 rfl (lv_at hl 0 rfl) ?_
      refine va_get (D := D) (ci := 1) (v := .ref (a 10)) (C := RX1) (T := TX1) (N := 2) hx hb hts hin1 hown hK hP 9 rfl rfl 0 (by decide) (hts (.fieldLink RX1 21 "MissedPoints$Memo" "cells" "[I") (by decide +kernel)) (fun _ h9 => h9) rfl dX1_recall_14 ?_
      refine lv_iload_n hx hb dX1_recall_17 rfl (lv_at hl 1 rfl) ?_
      refine wk_aldA hx hb hK hP 10 0 rfl rfl (rg_in g33398 (by decide) (by decide)) dX1_recall_18 (fun r33399 => ?_)
      refine lv_bipush (v := 16) hx hb dX1_recall_19 (by decide) ?_
      refine lv_iushr hx hb dX1_recall_21 rfl ?_
      refine wk_any (fun r33400 => ?_)
      refine lv_aload_n hx hb dX1_recall_22 rfl (lv_at hl 0 rfl) ?_
      refine va_get (D := D) (ci := 1) (v := .int (u 9 1)) (C := RX1) (T := TX1) (N := 2) hx hb hts hin1 hown hK hP 9 rfl rfl 1 (by decide) (hts (.fieldLink RX1 9 "MissedPoints$Memo" "age" "I") (by decide +kernel)) (fun _ h9 => h9) rfl dX1_recall_23 ?_
      refine wk_any (fun r33401 => ?_)
      refine lv_icmp_eq (tgt := 31) hx hb dX1_recall_26 (by decide) (fun c33402 => ?_) (fun c33402 => ?_)
      · refine lv_aload_n hx hb dX1_recall_31 rfl (lv_at hl 0 rfl) ?_
        refine va_get (D := D) (ci := 1) (v := .ref (a 10)) (C := RX1) (T := TX1) (N := 2) hx hb hts hin1 hown hK hP 9 rfl rfl 0 (by decide) (hts (.fieldLink RX1 21 "MissedPoints$Memo" "cells" "[I") (by decide +kernel)) (fun _ h9 => h9) rfl dX1_recall_32 ?_
        refine lv_iload_n hx hb dX1_recall_35 rfl (lv_at hl 1 rfl) ?_
        refine wk_aldA hx hb hK hP 10 0 rfl rfl (rg_in g33398 (by decide) (by decide)) dX1_recall_36 (fun r33403 => ?_)
        refine lv_ldc hx hb hown (hts (.constant RX1 25 (65535)) (by decide +kernel)) dX1_recall_37 ?_
        refine wk_iandr hx hb dX1_recall_39 (by decide : Rg 65535 65535 (65535 : Int32)) (by decide) (fun r33404 hr33404 qr33404 => ?_)
        exact W.iret (v := r33404) hx hb hr (fun t ht hW => ⟨_, rfl, ⟨(show Rg (-1) 65535 r33404 from rg_w hr33404 (by decide) (by decide)), trivial⟩, ht⟩) (fun q hq => absurd hq List.not_mem_nil) dX1_recall_40
      · refine lv_iconst (v := (-1)) hx hb dX1_recall_29 (by decide) ?_
        exact W.iret (v := (-1)) hx hb hr (fun t ht hW => ⟨_, rfl, ⟨(by decide : Rg (-1) 65535 ((-1) : Int32)), trivial⟩, ht⟩) (fun q hq => absurd hq List.not_mem_nil) dX1_recall_30
set_option maxHeartbeats 4000000 in
set_option maxRecDepth 100000 in
theorem k_X1_keep (l : Launch) (D : va_G) (cI cS : ClassId) (sz : Nat) (a : Nat → Nat) (na nc N : Nat) (L u0 : SU) (hL : TyX L) (hN : N = 0 ∨ N = 24576) (x0 x1 : Int32) : Met l yX1_keep wsX1_keep ({ frames := 0, cells := 0, slots := 0, locals := 0 }) (PQ D cI cS (wX cI cS a na nc N L u0) sz [.ref (a 9), .int x0, .int x1]) (QE (S := SU) D (wX cI cS a na nc N L u0) (wX cI cS a na nc N L) sz (fun _ => True)) 0 0 (va_A (wX cI cS a na nc N L u0) sz) := by
  refine Met.ofW (cc := cX1_keep) (maxL := 3) (ret := none) (by decide) rfl ?_
  intro p e s m args below meth c s₁ B hml hv
  obtain ⟨rfl, hsz, hP, hKK, hD0⟩ := hv
  have hx := B.exec
  have hb := B.bytes
  have hr := B.returns
  have hts := atoms_spec (ws := wsX1_keep) B.pre
  have hown : s.vm.findClass RX1 = some m.cls := findClass_of_methodNamed B.named
  have hlocks := B.notSynchronized
  have hK := hKK.1
  have hin1 : ∀ w ∈ wsX10, w ∈ wsX1_keep := by decide +kernel
  subst hsz
  have hD := hD0.self (sz := s.heap.size)
  obtain ⟨A, hAe⟩ : ∃ A, A = va_A (wX cI cS a na nc N L u0) s.heap.size := ⟨_, rfl⟩
  rw [← hAe] at hD
  have hA : ∀ q : Nat, s.heap.size ≤ q → A q := fun q h => by rw [hAe]; exact Or.inr h
  have hS : va_S A s.heap s.heap [] := va_S.rf
  have hl := lv_entry ([.ref (a 9), .int x0, .int x1]) (n := 3) (Nat.le_of_ble_eq_true rfl)
  rw [lg_entry_eq]
  generalize (lg_sl ([.ref (a 9), .int x0, .int x1]) ++ List.replicate (3 - (lg_sl ([.ref (a 9), .int x0, .int x1])).length) Slot.unset).toArray = ls at hl ⊢
  have hl : lv_has ls 3 [(0, .ref (a 9)), (1, .int x0), (2, .int x1)] := hl
  obtain ⟨u, hu9⟩ : ∃ u : SU, u = u0 := ⟨_, rfl⟩
  rw [← hu9] at hP hD
  refine lv_iload_n hx hb dX1_keep_0 rfl (lv_at hl 1 rfl) ?_
  refine lv_if_lt (tgt := 31) hx hb dX1_keep_1 (by decide) (fun c33415 => ?_) (fun c33415 => ?_)
  · have g33416 : Rg (-2147483648) (-1) x0 := rg_ltl (rg_any x0) (by decide : Rg 0 0 (0 : Int32)) c33415 (by decide)
    subst hAe
    exact W.vret hx hb hr (fun t ht hW => ⟨⟨u, rfl, trivial, by rw [ht]; exact hP, hD⟩, hS.F ht⟩) hS.2.2 dX1_keep_31
  · have g33417 : Rg 0 2147483647 x0 := rg_ler (by decide : Rg 0 0 (0 : Int32)) (rg_any x0) (rg_nlt c33415) (by decide)
    refine lv_iload_n hx hb dX1_keep_4 rfl (lv_at hl 1 rfl) ?_
    refine lv_aload_n hx hb dX1_keep_5 rfl (lv_at hl 0 rfl) ?_
    refine va_get (D := D) (ci := 1) (v := .ref (a 10)) (C := RX1) (T := TX1) (N := 2) hx hb hts hin1 hown hK hP 9 rfl rfl 0 (by decide) (hts (.fieldLink RX1 21 "MissedPoints$Memo" "cells" "[I") (by decide +kernel)) (fun _ h9 => h9) rfl dX1_keep_6 ?_
    refine va_alen hx hb hK hP 10 0 rfl rfl (v := 4096) rfl dX1_keep_9 ?_
    refine lv_icmp_ge (tgt := 31) hx hb dX1_keep_10 (by decide) (fun c33418 => ?_) (fun c33418 => ?_)
    · have g33419 : Rg 4096 2147483647 x0 := rg_ler (by decide : Rg 4096 4096 (4096 : Int32)) g33417 c33418 (by decide)
      subst hAe
      exact W.vret hx hb hr (fun t ht hW => ⟨⟨u, rfl, trivial, by rw [ht]; exact hP, hD⟩, hS.F ht⟩) hS.2.2 dX1_keep_31
    · have g33420 : Rg 0 4095 x0 := rg_ltl g33417 (by decide : Rg 4096 4096 (4096 : Int32)) (rg_nle c33418) (by decide)
      refine lv_aload_n hx hb dX1_keep_13 rfl (lv_at hl 0 rfl) ?_
      refine va_get (D := D) (ci := 1) (v := .ref (a 10)) (C := RX1) (T := TX1) (N := 2) hx hb hts hin1 hown hK hP 9 rfl rfl 0 (by decide) (hts (.fieldLink RX1 21 "MissedPoints$Memo" "cells" "[I") (by decide +kernel)) (fun _ h9 => h9) rfl dX1_keep_14 ?_
      refine lv_iload_n hx hb dX1_keep_17 rfl (lv_at hl 1 rfl) ?_
      refine lv_aload_n hx hb dX1_keep_18 rfl (lv_at hl 0 rfl) ?_
      refine va_get (D := D) (ci := 1) (v := .int (u 9 1)) (C := RX1) (T := TX1) (N := 2) hx hb hts hin1 hown hK hP 9 rfl rfl 1 (by decide) (hts (.fieldLink RX1 9 "MissedPoints$Memo" "age" "I") (by decide +kernel)) (fun _ h9 => h9) rfl dX1_keep_19 ?_
      refine wk_any (fun r33421 => ?_)
      refine lv_bipush (v := 16) hx hb dX1_keep_22 (by decide) ?_
      refine lv_ishl hx hb dX1_keep_24 ?_
      refine wk_topP (P := fun r => r = r33421 <<< ((16 : Int32) &&& 31)) rfl (fun r33422 qr33422 => ?_)
      refine lv_iload_n hx hb dX1_keep_25 rfl (lv_at hl 2 rfl) ?_
      refine lv_ldc hx hb hown (hts (.constant RX1 25 (65535)) (by decide +kernel)) dX1_keep_26 ?_
      refine wk_iandr hx hb dX1_keep_28 (by decide : Rg 65535 65535 (65535 : Int32)) (by decide) (fun r33423 hr33423 qr33423 => ?_)
      refine lv_ior hx hb dX1_keep_29 ?_
      refine wk_topP (P := fun r => r = r33422 ||| r33423) rfl (fun r33424 qr33424 => ?_)
      refine ks_ast hx hb hK hP hD hS rfl (k := 10) rfl sx_10 (rg_in g33420 (by decide) (by decide)) dX1_keep_30 (fun u H locs hP hD hS => ?_)
      subst hAe
      exact W.vret hx hb hr (fun t ht hW => ⟨⟨u, rfl, trivial, by rw [ht]; exact hP, hD⟩, hS.F ht⟩) hS.2.2 dX1_keep_31
theorem dX1_forget_10 : decode cX1_forget 10 = .ok (.iconst 0, 1) := by decide +kernel
theorem dX1_forget_11 : decode cX1_forget 11 = .ok (.istore_n 1, 1) := by decide +kernel
theorem dX1_forget_12 : decode cX1_forget 12 = .ok (.iload_n 1, 1) := by decide +kernel
theorem dX1_forget_13 : decode cX1_forget 13 = .ok (.aload_n 0, 1) := by decide +kernel
theorem dX1_forget_14 : decode cX1_forget 14 = .ok (.getfield 21, 3) := by decide +kernel
theorem dX1_forget_17 : decode cX1_forget 17 = .ok (.arraylength, 1) := by decide +kernel
theorem dX1_forget_18 : decode cX1_forget 18 = .ok (.if_icmp .ge 16, 3) := by decide +kernel
theorem dX1_forget_21 : decode cX1_forget 21 = .ok (.aload_n 0, 1) := by decide +kernel
theorem dX1_forget_22 : decode cX1_forget 22 = .ok (.getfield 21, 3) := by decide +kernel
theorem dX1_forget_25 : decode cX1_forget 25 = .ok (.iload_n 1, 1) := by decide +kernel
theorem dX1_forget_26 : decode cX1_forget 26 = .ok (.iconst 0, 1) := by decide +kernel
theorem dX1_forget_27 : decode cX1_forget 27 = .ok (.iastore, 1) := by decide +kernel
theorem dX1_forget_28 : decode cX1_forget 28 = .ok (.iinc 1 1, 3) := by decide +kernel
theorem dX1_forget_31 : decode cX1_forget 31 = .ok (.goto (-19), 3) := by decide +kernel
theorem dX1_forget_34 : decode cX1_forget 34 = .ok (.aload_n 0, 1) := by decide +kernel
theorem dX1_forget_35 : decode cX1_forget 35 = .ok (.iconst 0, 1) := by decide +kernel
theorem dX1_forget_36 : decode cX1_forget 36 = .ok (.putfield 9, 3) := by decide +kernel
set_option maxHeartbeats 4000000 in
set_option maxRecDepth 100000 in
theorem k_X1_forget (l : Launch) (D : va_G) (cI cS : ClassId) (sz : Nat) (a : Nat → Nat) (na nc N : Nat) (L u0 : SU) (hL : TyX L) (hN : N = 0 ∨ N = 24576) : Met l yX1_forget wsX1_forget ({ frames := 0, cells := 0, slots := 0, locals := 0 }) (PQ D cI cS (wX cI cS a na nc N L u0) sz [.ref (a 9)]) (QE (S := SU) D (wX cI cS a na nc N L u0) (wX cI cS a na nc N L) sz (fun _ => True)) 0 0 (va_A (wX cI cS a na nc N L u0) sz) := by
  refine Met.ofW (cc := cX1_forget) (maxL := 2) (ret := none) (by decide) rfl ?_
  intro p e s m args below meth c s₁ B hml hv
  obtain ⟨rfl, hsz, hP, hKK, hD0⟩ := hv
  have hx := B.exec
  have hb := B.bytes
  have hr := B.returns
  have hts := atoms_spec (ws := wsX1_forget) B.pre
  have hown : s.vm.findClass RX1 = some m.cls := findClass_of_methodNamed B.named
  have hlocks := B.notSynchronized
  have hK := hKK.1
  have hin1 : ∀ w ∈ wsX10, w ∈ wsX1_forget := by decide +kernel
  subst hsz
  have hD := hD0.self (sz := s.heap.size)
  obtain ⟨A, hAe⟩ : ∃ A, A = va_A (wX cI cS a na nc N L u0) s.heap.size := ⟨_, rfl⟩
  rw [← hAe] at hD
  have hA : ∀ q : Nat, s.heap.size ≤ q → A q := fun q h => by rw [hAe]; exact Or.inr h
  have hS : va_S A s.heap s.heap [] := va_S.rf
  have hl := lv_entry ([.ref (a 9)]) (n := 2) (Nat.le_of_ble_eq_true rfl)
  rw [lg_entry_eq]
  generalize (lg_sl ([.ref (a 9)]) ++ List.replicate (2 - (lg_sl ([.ref (a 9)])).length) Slot.unset).toArray = ls at hl ⊢
  have hl : lv_has ls 2 [(0, .ref (a 9))] := hl
  obtain ⟨u, hu9⟩ : ∃ u : SU, u = u0 := ⟨_, rfl⟩
  rw [← hu9] at hP hD
  have lp12 : ∀ (n12 : Nat) (y12_l1 : Int32) (u : SU) (H : Heap) (locs : List Loc) (ls : Array Slot), Rg 0 4096 y12_l1 → va_P D cls (wX cI cS a na nc N L u) H → va_D A (wX cI cS a na nc N L u) → va_S A s.heap H locs → lv_has ls 2 [(0, .ref (a 9)), (1, .int y12_l1)] → 4096 - y12_l1.toInt < (n12 : Int) → W p l e (headSpec wsX1_forget ({ frames := 0, cells := 0, slots := 0, locals := 0 })).room s m ([.ref (a 9)]).toArray below meth c H locs 0 0 (MQ below (QE (S := SU) D (wX cI cS a na nc N L u0) (wX cI cS a na nc N L) s.heap.size (fun _ => True)) ([.ref (a 9)]).toArray s 0 0 (va_A (wX cI cS a na nc N L u0) s.heap.size)) (F0 m 12 ls []) := by
    intro n12
    induction n12 with
    | zero =>
      intro y12_l1 u H locs ls g12_l1 hP hD hS hl hm12
      exact absurd rfl (me_z g12_l1 hm12)
    | succ n12 ih12 =>
      intro y12_l1 u H locs ls g12_l1 hP hD hS hl hm12
      refine lv_iload_n hx hb dX1_forget_12 rfl (lv_at hl 1 rfl) ?_
      refine lv_aload_n hx hb dX1_forget_13 rfl (lv_at hl 0 rfl) ?_
      refine va_get (D := D) (ci := 1) (v := .ref (a 10)) (C := RX1) (T := TX1) (N := 2) hx hb hts hin1 hown hK hP 9 rfl rfl 0 (by decide) (hts (.fieldLink RX1 21 "MissedPoints$Memo" "cells" "[I") (by decide +kernel)) (fun _ h9 => h9) rfl dX1_forget_14 ?_
      refine va_alen hx hb hK hP 10 0 rfl rfl (v := 4096) rfl dX1_forget_17 ?_
      refine lv_icmp_ge (tgt := 34) hx hb dX1_forget_18 (by decide) (fun c33583 => ?_) (fun c33583 => ?_)
      · have g33584 : Rg 4096 4096 y12_l1 := rg_ler (by decide : Rg 4096 4096 (4096 : Int32)) g12_l1 c33583 (by decide)
        refine lv_aload_n hx hb dX1_forget_34 rfl (lv_at hl 0 rfl) ?_
        refine lv_iconst (v := 0) hx hb dX1_forget_35 (by decide) ?_
        refine va_put (D := D) (ci := 1) (v := .int 0) (ty := .int) (C := RX1) (T := TX1) (N := 2) hx hb hts hin1 tyX1 tyX1_ok nmX1 hown hK hP hD hS 9 rfl rfl 1 (by decide) (hts (.fieldLink RX1 9 "MissedPoints$Memo" "age" "I") (by decide +kernel)) (fun _ h9 => h9) rfl (by decide +kernel) rfl rfl (Nat.le_of_ble_eq_true rfl) dX1_forget_36 (fun H locs hP hD hS => ?_)
        rw [sxf_9_1] at hP hD
        generalize sU u 9 _ = u at hP hD
        refine lv_aload_n hx hb dX1_forget_39 rfl (lv_at hl 0 rfl) ?_
        refine lv_dup hx hb dX1_forget_40 rfl ?_
        refine va_get (D := D) (ci := 1) (v := .int (u 9 1)) (C := RX1) (T := TX1) (N := 2) hx hb hts hin1 hown hK hP 9 rfl rfl 1 (by decide) (hts (.fieldLink RX1 9 "MissedPoints$Memo" "age" "I") (by decide +kernel)) (fun _ h9 => h9) rfl dX1_forget_41 ?_
        refine wk_any (fun r33585 => ?_)
        refine lv_iconst (v := 1) hx hb dX1_forget_44 (by decide) ?_
        refine lv_iadd hx hb dX1_forget_45 ?_
        refine wk_topP (P := fun r => r = r33585 + (1 : Int32)) rfl (fun r33586 qr33586 => ?_)
        refine va_put (D := D) (ci := 1) (v := .int r33586) (ty := .int) (C := RX1) (T := TX1) (N := 2) hx hb hts hin1 tyX1 tyX1_ok nmX1 hown hK hP hD hS 9 rfl rfl 1 (by decide) (hts (.fieldLink RX1 9 "MissedPoints$Memo" "age" "I") (by decide +kernel)) (fun _ h9 => h9) rfl (by decide +kernel) rfl rfl (Nat.le_of_ble_eq_true rfl) dX1_forget_46 (fun H locs hP hD hS => ?_)
        rw [sxf_9_1] at hP hD
        generalize sU u 9 _ = u at hP hD
        subst hAe
        exact W.vret hx hb hr (fun t ht hW => ⟨⟨u, rfl, trivial, by rw [ht]; exact hP, hD⟩, hS.F ht⟩) hS.2.2 dX1_forget_49
      · have g33587 : Rg 0 4095 y12_l1 := rg_ltl g12_l1 (by decide : Rg 4096 4096 (4096 : Int32)) (rg_nle c33583) (by decide)
        refine lv_aload_n hx hb dX1_forget_21 rfl (lv_at hl 0 rfl) ?_
        refine va_get (D := D) (ci := 1) (v := .ref (a 10)) (C := RX1) (T := TX1) (N := 2) hx hb hts hin1 hown hK hP 9 rfl rfl 0 (by decide) (hts (.fieldLink RX1 21 "MissedPoints$Memo" "cells" "[I") (by decide +kernel)) (fun _ h9 => h9) rfl dX1_forget_22 ?_
        refine lv_iload_n hx hb dX1_forget_25 rfl (lv_at hl 1 rfl) ?_
        refine lv_iconst (v := 0) hx hb dX1_forget_26 (by decide) ?_
        refine ks_ast hx hb hK hP hD hS rfl (k := 10) rfl sx_10 (rg_in g33587 (by decide) (by decide)) dX1_forget_27 (fun u H locs hP hD hS => ?_)
        refine wk_iinc (lv' := fun r => [(1, .int r), (0, .ref (a 9))]) (e1 := 1) (f := 4096) hx hb dX1_forget_28 hl (k := 1) rfl (by decide) g33587 (by decide) (fun _ => rfl) (fun r33588 ls hr33588 er33588 hl => ?_)
        refine lv_goto (tgt := 12) hx hb dX1_forget_31 (by decide) ?_
        exact ih12 r33588 u _ _ ls (show Rg 0 4096 r33588 from rg_w hr33588 (by decide) (by decide)) hP hD hS (lv_sub (l' := [(0, .ref (a 9)), (1, .int r33588)]) hl [1, 0] rfl) (me_up hm12 er33588 (by decide))
  refine lv_aload_n hx hb dX1_forget_0 rfl (lv_at hl 0 rfl) ?_
  refine va_get (D := D) (ci := 1) (v := .int (u 9 1)) (C := RX1) (T := TX1) (N := 2) hx hb hts hin1 hown hK hP 9 rfl rfl 1 (by decide) (hts (.fieldLink RX1 9 "MissedPoints$Memo" "age" "I") (by decide +kernel)) (fun _ h9 => h9) rfl dX1_forget_1 ?_
  refine wk_any (fun r33589 => ?_)
  refine lv_sipush (v := 32767) hx hb dX1_forget_4 (by decide) ?_
  refine lv_icmp_ne (tgt := 39) hx hb dX1_forget_7 (by decide) (fun c33590 => ?_) (fun c33590 => ?_)
  · refine lv_aload_n hx hb dX1_forget_39 rfl (lv_at hl 0 rfl) ?_
    refine lv_dup hx hb dX1_forget_40 rfl ?_
    refine va_get (D := D) (ci := 1) (v := .int (u 9 1)) (C := RX1) (T := TX1) (N := 2) hx hb hts hin1 hown hK hP 9 rfl rfl 1 (by decide) (hts (.fieldLink RX1 9 "MissedPoints$Memo" "age" "I") (by decide +kernel)) (fun _ h9 => h9) rfl dX1_forget_41 ?_
    refine wk_any (fun r33591 => ?_)
    refine lv_iconst (v := 1) hx hb dX1_forget_44 (by decide) ?_
    refine lv_iadd hx hb dX1_forget_45 ?_
    refine wk_topP (P := fun r => r = r33591 + (1 : Int32)) rfl (fun r33592 qr33592 => ?_)
    refine va_put (D := D) (ci := 1) (v := .int r33592) (ty := .int) (C := RX1) (T := TX1) (N := 2) hx hb hts hin1 tyX1 tyX1_ok nmX1 hown hK hP hD hS 9 rfl rfl 1 (by decide) (hts (.fieldLink RX1 9 "MissedPoints$Memo" "age" "I") (by decide +kernel)) (fun _ h9 => h9) rfl (by decide +kernel) rfl rfl (Nat.le_of_ble_eq_true rfl) dX1_forget_46 (fun H locs hP hD hS => ?_)
    rw [sxf_9_1] at hP hD
    generalize sU u 9 _ = u at hP hD
    subst hAe
    exact W.vret hx hb hr (fun t ht hW => ⟨⟨u, rfl, trivial, by rw [ht]; exact hP, hD⟩, hS.F ht⟩) hS.2.2 dX1_forget_49
  · have g33593 : Rg 32767 32767 r33589 := wk_eql (rg_any r33589) (by decide : Rg 32767 32767 (32767 : Int32)) c33590 (by decide)
    refine lv_iconst (v := 0) hx hb dX1_forget_10 (by decide) ?_
    refine lv_istore_n (lv' := [(1, .int 0), (0, .ref (a 9))]) hx hb dX1_forget_11 rfl hl (by decide) rfl (fun ls hl => ?_)
    exact lp12 4097 (0 : Int32) u _ _ ls (by decide : Rg 0 4096 (0 : Int32)) hP hD hS (lv_sub (l' := [(0, .ref (a 9)), (1, .int 0)]) hl [1, 0] rfl) (me_i (by decide : Rg 0 4096 (0 : Int32)) (by decide))
theorem dX1_isBlank_12 : decode cX1_isBlank 12 = .ok (.iconst 0, 1) := by decide +kernel
set_option maxHeartbeats 4000000 in
set_option maxRecDepth 100000 in
theorem k_X1_isBlank_13 (l : Launch) (D : va_G) (cI cS : ClassId) (a : Nat → Nat) (na nc N : Nat) (L u : SU) (hL : TyX L) (hN : N = 0 ∨ N = 24576) : Met l yX1_isBlank wsX1_isBlank ({ frames := 0, cells := 0, slots := 0, locals := 0 }) (PS D cI cS (wX cI cS a na nc N L u) [.ref na]) (vp_Si (fun r => Rg 0 1 r ∧ True)) 0 0 (fun _ => False) := by
  refine Met.ofW (cc := cX1_isBlank) (maxL := 1) (ret := (some .boolean)) (by decide) rfl ?_
  intro p e s m args below meth c s₁ B hml hv
  obtain ⟨rfl, hP, hKK⟩ := hv
  have hx := B.exec
  have hb := B.bytes
  have hr := B.returns
  have hts := atoms_spec (ws := wsX1_isBlank) B.pre
  have hown : s.vm.findClass RX1 = some m.cls := findClass_of_methodNamed B.named
  have hlocks := B.notSynchronized
  have hK := hKK.1
  have hin1 : ∀ w ∈ wsX10, w ∈ wsX1_isBlank := by decide +kernel
  have hl := lv_entry ([.ref na]) (n := 1) (Nat.le_of_ble_eq_true rfl)
  rw [lg_entry_eq]
  generalize (lg_sl ([.ref na]) ++ List.replicate (1 - (lg_sl ([.ref na])).length) Slot.unset).toArray = ls at hl ⊢
  have hl : lv_has ls 1 [(0, .ref na)] := hl
  refine lv_aload_n hx hb dX1_isBlank_0 rfl (lv_at hl 0 rfl) ?_
  refine va_get (D := D) (ci := 1) (v := .ref nc) (C := RX1) (T := TX1) (N := 2) hx hb hts hin1 hown hK hP 13 rfl rfl 0 (by decide) (hts (.fieldLink RX1 21 "MissedPoints$Memo" "cells" "[I") (by decide +kernel)) (fun _ h9 => h9) rfl dX1_isBlank_1 ?_
  refine va_alen hx hb hK hP 14 0 rfl rfl (v := nI N) rfl dX1_isBlank_4 ?_
  refine lv_if_ne (tgt := 12) hx hb dX1_isBlank_5 (by decide) (fun c33597 => ?_) (fun c33597 => ?_)
  · have g33598 : Rg 1 24576 (nI N) := rg_ne_lo (k := 0) (wk_N hN) (by decide) c33597 (by decide)
    refine lv_iconst (v := 0) hx hb dX1_isBlank_12 (by decide) ?_
    exact W.zret (v := 0) hx hb hr (by decide) (fun t ht hW => ⟨_, rfl, ⟨(by decide : Rg 0 1 (0 : Int32)), trivial⟩, ht⟩) (fun q hq => absurd hq List.not_mem_nil) dX1_isBlank_13
  · have g33599 : Rg 0 0 (nI N) := wk_eql (wk_N hN) (by decide : Rg 0 0 (0 : Int32)) c33597 (by decide)
    refine lv_iconst (v := 1) hx hb dX1_isBlank_8 (by decide) ?_
    refine lv_goto (tgt := 13) hx hb dX1_isBlank_9 (by decide) ?_
    exact W.zret (v := 1) hx hb hr (by decide) (fun t ht hW => ⟨_, rfl, ⟨(by decide : Rg 0 1 (1 : Int32)), trivial⟩, ht⟩) (fun q hq => absurd hq List.not_mem_nil) dX1_isBlank_13
set_option maxHeartbeats 4000000 in
set_option maxRecDepth 100000 in
theorem k_X1_recall_13 (l : Launch) (D : va_G) (cI cS : ClassId) (a : Nat → Nat) (na nc N : Nat) (L u : SU) (hL : TyX L) (hN : N = 0 ∨ N = 24576) (x0 : Int32) : Met l yX1_recall wsX1_recall ({ frames := 0, cells := 0, slots := 0, locals := 0 }) (PS D cI cS (wX cI cS a na nc N L u) [.ref na, .int x0]) (vp_Si (fun r => Rg (-1) 65535 r ∧ True)) 0 0 (fun _ => False) := by
  refine Met.ofW (cc := cX1_recall) (maxL := 2) (ret := (some .int)) (by decide) rfl ?_
  intro p e s m args below meth c s₁ B hml hv
  obtain ⟨rfl, hP, hKK⟩ := hv
  have hx := B.exec
  have hb := B.bytes
  have hr := B.returns
  have hts := atoms_spec (ws := wsX1_recall) B.pre
  have hown : s.vm.findClass RX1 = some m.cls := findClass_of_methodNamed B.named
  have hlocks := B.notSynchronized
  have hK := hKK.1
  have hin1 : ∀ w ∈ wsX10, w ∈ wsX1_recall := by decide +kernel
  have hl := lv_entry ([.ref na, .int x0]) (n := 2) (Nat.le_of_ble_eq_true rfl)
  rw [lg_entry_eq]
  generalize (lg_sl ([.ref na, .int x0]) ++ List.replicate (2 - (lg_sl ([.ref na, .int x0])).length) Slot.unset).toArray = ls at hl ⊢
  have hl : lv_has ls 2 [(0, .ref na), (1, .int x0)] := hl
  refine lv_iload_n hx hb dX1_recall_0 rfl (lv_at hl 1 rfl) ?_
  refine lv_if_lt (tgt := 29) hx hb dX1_recall_1 (by decide) (fun c33612 => ?_) (fun c33612 => ?_)
  · have g33613 : Rg (-2147483648) (-1) x0 := rg_ltl (rg_any x0) (by decide : Rg 0 0 (0 : Int32)) c33612 (by decide)
    refine lv_iconst (v := (-1)) hx hb dX1_recall_29 (by decide) ?_
    exact W.iret (v := (-1)) hx hb hr (fun t ht hW => ⟨_, rfl, ⟨(by decide : Rg (-1) 65535 ((-1) : Int32)), trivial⟩, ht⟩) (fun q hq => absurd hq List.not_mem_nil) dX1_recall_30
  · have g33614 : Rg 0 2147483647 x0 := rg_ler (by decide : Rg 0 0 (0 : Int32)) (rg_any x0) (rg_nlt c33612) (by decide)
    refine lv_iload_n hx hb dX1_recall_4 rfl (lv_at hl 1 rfl) ?_
    refine lv_aload_n hx hb dX1_recall_5 rfl (lv_at hl 0 rfl) ?_
    refine va_get (D := D) (ci := 1) (v := .ref nc) (C := RX1) (T := TX1) (N := 2) hx hb hts hin1 hown hK hP 13 rfl rfl 0 (by decide) (hts (.fieldLink RX1 21 "MissedPoints$Memo" "cells" "[I") (by decide +kernel)) (fun _ h9 => h9) rfl dX1_recall_6 ?_
    refine va_alen hx hb hK hP 14 0 rfl rfl (v := nI N) rfl dX1_recall_9 ?_
    refine lv_icmp_ge (tgt := 29) hx hb dX1_recall_10 (by decide) (fun c33615 => ?_) (fun c33615 => ?_)
    · refine lv_iconst (v := (-1)) hx hb dX1_recall_29 (by decide) ?_
      exact W.iret (v := (-1)) hx hb hr (fun t ht hW => ⟨_, rfl, ⟨(by decide : Rg (-1) 65535 ((-1) : Int32)), trivial⟩, ht⟩) (fun q hq => absurd hq List.not_mem_nil) dX1_recall_30
    · have g33616 : Rg 1 24576 (nI N) := rg_ltr g33614 (wk_N hN) (rg_nle c33615) (by decide)
      have g33617 : Rg 0 24575 x0 := rg_ltl g33614 (wk_N hN) (rg_nle c33615) (by decide)
      refine lv_aload_n hx hb dX1_recall_13 rfl (lv_at hl 0 rfl) ?_
      refine va_get (D := D) (ci := 1) (v := .ref nc) (C := RX1) (T := TX1) (N := 2) hx hb hts hin1 hown hK hP 13 rfl rfl 0 (by decide) (hts (.fieldLink RX1 21 "MissedPoints$Memo" "cells" "[I") (by decide +kernel)) (fun _ h9 => h9) rfl dX1_recall_14 ?_
      refine lv_iload_n hx hb dX1_recall_17 rfl (lv_at hl 1 rfl) ?_
      refine wk_aldA hx hb hK hP 14 0 rfl rfl (wk_inN hN g33617.1 (rg_nle c33615)) dX1_recall_18 (fun r33618 => ?_)
      refine lv_bipush (v := 16) hx hb dX1_recall_19 (by decide) ?_
      refine lv_iushr hx hb dX1_recall_21 rfl ?_
      refine wk_any (fun r33619 => ?_)
      refine lv_aload_n hx hb dX1_recall_22 rfl (lv_at hl 0 rfl) ?_
      refine va_get (D := D) (ci := 1) (v := .int (u 13 1)) (C := RX1) (T := TX1) (N := 2) hx hb hts hin1 hown hK hP 13 rfl rfl 1 (by decide) (hts (.fieldLink RX1 9 "MissedPoints$Memo" "age" "I") (by decide +kernel)) (fun _ h9 => h9) rfl dX1_recall_23 ?_
      refine wk_any (fun r33620 => ?_)
      refine lv_icmp_eq (tgt := 31) hx hb dX1_recall_26 (by decide) (fun c33621 => ?_) (fun c33621 => ?_)
      · refine lv_aload_n hx hb dX1_recall_31 rfl (lv_at hl 0 rfl) ?_
        refine va_get (D := D) (ci := 1) (v := .ref nc) (C := RX1) (T := TX1) (N := 2) hx hb hts hin1 hown hK hP 13 rfl rfl 0 (by decide) (hts (.fieldLink RX1 21 "MissedPoints$Memo" "cells" "[I") (by decide +kernel)) (fun _ h9 => h9) rfl dX1_recall_32 ?_
        refine lv_iload_n hx hb dX1_recall_35 rfl (lv_at hl 1 rfl) ?_
        refine wk_aldA hx hb hK hP 14 0 rfl rfl (wk_inN hN g33617.1 (rg_nle c33615)) dX1_recall_36 (fun r33622 => ?_)
        refine lv_ldc hx hb hown (hts (.constant RX1 25 (65535)) (by decide +kernel)) dX1_recall_37 ?_
        refine wk_iandr hx hb dX1_recall_39 (by decide : Rg 65535 65535 (65535 : Int32)) (by decide) (fun r33623 hr33623 qr33623 => ?_)
        exact W.iret (v := r33623) hx hb hr (fun t ht hW => ⟨_, rfl, ⟨(show Rg (-1) 65535 r33623 from rg_w hr33623 (by decide) (by decide)), trivial⟩, ht⟩) (fun q hq => absurd hq List.not_mem_nil) dX1_recall_40
      · refine lv_iconst (v := (-1)) hx hb dX1_recall_29 (by decide) ?_
        exact W.iret (v := (-1)) hx hb hr (fun t ht hW => ⟨_, rfl, ⟨(by decide : Rg (-1) 65535 ((-1) : Int32)), trivial⟩, ht⟩) (fun q hq => absurd hq List.not_mem_nil) dX1_recall_30
set_option maxHeartbeats 4000000 in
set_option maxRecDepth 100000 in
theorem k_X1_keep_13 (l : Launch) (D : va_G) (cI cS : ClassId) (sz : Nat) (a : Nat → Nat) (na nc N : Nat) (L u0 : SU) (hL : TyX L) (hN : N = 0 ∨ N = 24576) (x0 x1 : Int32) : Met l yX1_keep wsX1_keep ({ frames := 0, cells := 0, slots := 0, locals := 0 }) (PQ D cI cS (wX cI cS a na nc N L u0) sz [.ref na, .int x0, .int x1]) (QE (S := SU) D (wX cI cS a na nc N L u0) (wX cI cS a na nc N L) sz (fun _ => True)) 0 0 (va_A (wX cI cS a na nc N L u0) sz) := by
  refine Met.ofW (cc := cX1_keep) (maxL := 3) (ret := none) (by decide) rfl ?_
  intro p e s m args below meth c s₁ B hml hv
  obtain ⟨rfl, hsz, hP, hKK, hD0⟩ := hv
  have hx := B.exec
  have hb := B.bytes
  have hr := B.returns
  have hts := atoms_spec (ws := wsX1_keep) B.pre
  have hown : s.vm.findClass RX1 = some m.cls := findClass_of_methodNamed B.named
  have hlocks := B.notSynchronized
  have hK := hKK.1
  have hin1 : ∀ w ∈ wsX10, w ∈ wsX1_keep := by decide +kernel
  subst hsz
  have hD := hD0.self (sz := s.heap.size)
  obtain ⟨A, hAe⟩ : ∃ A, A = va_A (wX cI cS a na nc N L u0) s.heap.size := ⟨_, rfl⟩
  rw [← hAe] at hD
  have hA : ∀ q : Nat, s.heap.size ≤ q → A q := fun q h => by rw [hAe]; exact Or.inr h
  have hS : va_S A s.heap s.heap [] := va_S.rf
  have hl := lv_entry ([.ref na, .int x0, .int x1]) (n := 3) (Nat.le_of_ble_eq_true rfl)
  rw [lg_entry_eq]
  generalize (lg_sl ([.ref na, .int x0, .int x1]) ++ List.replicate (3 - (lg_sl ([.ref na, .int x0, .int x1])).length) Slot.unset).toArray = ls at hl ⊢
  have hl : lv_has ls 3 [(0, .ref na), (1, .int x0), (2, .int x1)] := hl
  obtain ⟨u, hu9⟩ : ∃ u : SU, u = u0 := ⟨_, rfl⟩
  rw [← hu9] at hP hD
  refine lv_iload_n hx hb dX1_keep_0 rfl (lv_at hl 1 rfl) ?_
  refine lv_if_lt (tgt := 31) hx hb dX1_keep_1 (by decide) (fun c33634 => ?_) (fun c33634 => ?_)
  · have g33635 : Rg (-2147483648) (-1) x0 := rg_ltl (rg_any x0) (by decide : Rg 0 0 (0 : Int32)) c33634 (by decide)
    subst hAe
    exact W.vret hx hb hr (fun t ht hW => ⟨⟨u, rfl, trivial, by rw [ht]; exact hP, hD⟩, hS.F ht⟩) hS.2.2 dX1_keep_31
  · have g33636 : Rg 0 2147483647 x0 := rg_ler (by decide : Rg 0 0 (0 : Int32)) (rg_any x0) (rg_nlt c33634) (by decide)
    refine lv_iload_n hx hb dX1_keep_4 rfl (lv_at hl 1 rfl) ?_
    refine lv_aload_n hx hb dX1_keep_5 rfl (lv_at hl 0 rfl) ?_
    refine va_get (D := D) (ci := 1) (v := .ref nc) (C := RX1) (T := TX1) (N := 2) hx hb hts hin1 hown hK hP 13 rfl rfl 0 (by decide) (hts (.fieldLink RX1 21 "MissedPoints$Memo" "cells" "[I") (by decide +kernel)) (fun _ h9 => h9) rfl dX1_keep_6 ?_
    refine va_alen hx hb hK hP 14 0 rfl rfl (v := nI N) rfl dX1_keep_9 ?_
    refine lv_icmp_ge (tgt := 31) hx hb dX1_keep_10 (by decide) (fun c33637 => ?_) (fun c33637 => ?_)
    · subst hAe
      exact W.vret hx hb hr (fun t ht hW => ⟨⟨u, rfl, trivial, by rw [ht]; exact hP, hD⟩, hS.F ht⟩) hS.2.2 dX1_keep_31
    · have g33638 : Rg 1 24576 (nI N) := rg_ltr g33636 (wk_N hN) (rg_nle c33637) (by decide)
      have g33639 : Rg 0 24575 x0 := rg_ltl g33636 (wk_N hN) (rg_nle c33637) (by decide)
      refine lv_aload_n hx hb dX1_keep_13 rfl (lv_at hl 0 rfl) ?_
      refine va_get (D := D) (ci := 1) (v := .ref nc) (C := RX1) (T := TX1) (N := 2) hx hb hts hin1 hown hK hP 13 rfl rfl 0 (by decide) (hts (.fieldLink RX1 21 "MissedPoints$Memo" "cells" "[I") (by decide +kernel)) (fun _ h9 => h9) rfl dX1_keep_14 ?_
      refine lv_iload_n hx hb dX1_keep_17 rfl (lv_at hl 1 rfl) ?_
      refine lv_aload_n hx hb dX1_keep_18 rfl (lv_at hl 0 rfl) ?_
      refine va_get (D := D) (ci := 1) (v := .int (u 13 1)) (C := RX1) (T := TX1) (N := 2) hx hb hts hin1 hown hK hP 13 rfl rfl 1 (by decide) (hts (.fieldLink RX1 9 "MissedPoints$Memo" "age" "I") (by decide +kernel)) (fun _ h9 => h9) rfl dX1_keep_19 ?_
      refine wk_any (fun r33640 => ?_)
      refine lv_bipush (v := 16) hx hb dX1_keep_22 (by decide) ?_
      refine lv_ishl hx hb dX1_keep_24 ?_
      refine wk_topP (P := fun r => r = r33640 <<< ((16 : Int32) &&& 31)) rfl (fun r33641 qr33641 => ?_)
      refine lv_iload_n hx hb dX1_keep_25 rfl (lv_at hl 2 rfl) ?_
      refine lv_ldc hx hb hown (hts (.constant RX1 25 (65535)) (by decide +kernel)) dX1_keep_26 ?_
      refine wk_iandr hx hb dX1_keep_28 (by decide : Rg 65535 65535 (65535 : Int32)) (by decide) (fun r33642 hr33642 qr33642 => ?_)
      refine lv_ior hx hb dX1_keep_29 ?_
      refine wk_topP (P := fun r => r = r33641 ||| r33642) rfl (fun r33643 qr33643 => ?_)
      refine ks_ast hx hb hK hP hD hS rfl (k := 14) rfl sx_14 (wk_inN hN g33639.1 (rg_nle c33637)) dX1_keep_30 (fun u H locs hP hD hS => ?_)
      subst hAe
      exact W.vret hx hb hr (fun t ht hW => ⟨⟨u, rfl, trivial, by rw [ht]; exact hP, hD⟩, hS.F ht⟩) hS.2.2 dX1_keep_31
set_option maxHeartbeats 4000000 in
set_option maxRecDepth 100000 in
theorem k_X1_forget_13 (l : Launch) (D : va_G) (cI cS : ClassId) (sz : Nat) (a : Nat → Nat) (na nc N : Nat) (L u0 : SU) (hL : TyX L) (hN : N = 0 ∨ N = 24576) : Met l yX1_forget wsX1_forget ({ frames := 0, cells := 0, slots := 0, locals := 0 }) (PQ D cI cS (wX cI cS a na nc N L u0) sz [.ref na]) (QE (S := SU) D (wX cI cS a na nc N L u0) (wX cI cS a na nc N L) sz (fun _ => True)) 0 0 (va_A (wX cI cS a na nc N L u0) sz) := by
  refine Met.ofW (cc := cX1_forget) (maxL := 2) (ret := none) (by decide) rfl ?_
  intro p e s m args below meth c s₁ B hml hv
  obtain ⟨rfl, hsz, hP, hKK, hD0⟩ := hv
  have hx := B.exec
  have hb := B.bytes
  have hr := B.returns
  have hts := atoms_spec (ws := wsX1_forget) B.pre
  have hown : s.vm.findClass RX1 = some m.cls := findClass_of_methodNamed B.named
  have hlocks := B.notSynchronized
  have hK := hKK.1
  have hin1 : ∀ w ∈ wsX10, w ∈ wsX1_forget := by decide +kernel
  subst hsz
  have hD := hD0.self (sz := s.heap.size)
  obtain ⟨A, hAe⟩ : ∃ A, A = va_A (wX cI cS a na nc N L u0) s.heap.size := ⟨_, rfl⟩
  rw [← hAe] at hD
  have hA : ∀ q : Nat, s.heap.size ≤ q → A q := fun q h => by rw [hAe]; exact Or.inr h
  have hS : va_S A s.heap s.heap [] := va_S.rf
  have hl := lv_entry ([.ref na]) (n := 2) (Nat.le_of_ble_eq_true rfl)
  rw [lg_entry_eq]
  generalize (lg_sl ([.ref na]) ++ List.replicate (2 - (lg_sl ([.ref na])).length) Slot.unset).toArray = ls at hl ⊢
  have hl : lv_has ls 2 [(0, .ref na)] := hl
  obtain ⟨u, hu9⟩ : ∃ u : SU, u = u0 := ⟨_, rfl⟩
  rw [← hu9] at hP hD
  have lp12 : ∀ (n12 : Nat) (y12_l1 : Int32) (u : SU) (H : Heap) (locs : List Loc) (ls : Array Slot), Rg 0 28671 y12_l1 → va_P D cls (wX cI cS a na nc N L u) H → va_D A (wX cI cS a na nc N L u) → va_S A s.heap H locs → lv_has ls 2 [(0, .ref na), (1, .int y12_l1)] → 28671 - y12_l1.toInt < (n12 : Int) → W p l e (headSpec wsX1_forget ({ frames := 0, cells := 0, slots := 0, locals := 0 })).room s m ([.ref na]).toArray below meth c H locs 0 0 (MQ below (QE (S := SU) D (wX cI cS a na nc N L u0) (wX cI cS a na nc N L) s.heap.size (fun _ => True)) ([.ref na]).toArray s 0 0 (va_A (wX cI cS a na nc N L u0) s.heap.size)) (F0 m 12 ls []) := by
    intro n12
    induction n12 with
    | zero =>
      intro y12_l1 u H locs ls g12_l1 hP hD hS hl hm12
      exact absurd rfl (me_z g12_l1 hm12)
    | succ n12 ih12 =>
      intro y12_l1 u H locs ls g12_l1 hP hD hS hl hm12
      refine lv_iload_n hx hb dX1_forget_12 rfl (lv_at hl 1 rfl) ?_
      refine lv_aload_n hx hb dX1_forget_13 rfl (lv_at hl 0 rfl) ?_
      refine va_get (D := D) (ci := 1) (v := .ref nc) (C := RX1) (T := TX1) (N := 2) hx hb hts hin1 hown hK hP 13 rfl rfl 0 (by decide) (hts (.fieldLink RX1 21 "MissedPoints$Memo" "cells" "[I") (by decide +kernel)) (fun _ h9 => h9) rfl dX1_forget_14 ?_
      refine va_alen hx hb hK hP 14 0 rfl rfl (v := nI N) rfl dX1_forget_17 ?_
      refine lv_icmp_ge (tgt := 34) hx hb dX1_forget_18 (by decide) (fun c33897 => ?_) (fun c33897 => ?_)
      · refine lv_aload_n hx hb dX1_forget_34 rfl (lv_at hl 0 rfl) ?_
        refine lv_iconst (v := 0) hx hb dX1_forget_35 (by decide) ?_
        refine va_put (D := D) (ci := 1) (v := .int 0) (ty := .int) (C := RX1) (T := TX1) (N := 2) hx hb hts hin1 tyX1 tyX1_ok nmX1 hown hK hP hD hS 13 rfl rfl 1 (by decide) (hts (.fieldLink RX1 9 "MissedPoints$Memo" "age" "I") (by decide +kernel)) (fun _ h9 => h9) rfl (by decide +kernel) rfl rfl (Nat.le_of_ble_eq_true rfl) dX1_forget_36 (fun H locs hP hD hS => ?_)
        rw [sxf_13_1] at hP hD
        generalize sU u 13 _ = u at hP hD
        refine lv_aload_n hx hb dX1_forget_39 rfl (lv_at hl 0 rfl) ?_
        refine lv_dup hx hb dX1_forget_40 rfl ?_
        refine va_get (D := D) (ci := 1) (v := .int (u 13 1)) (C := RX1) (T := TX1) (N := 2) hx hb hts hin1 hown hK hP 13 rfl rfl 1 (by decide) (hts (.fieldLink RX1 9 "MissedPoints$Memo" "age" "I") (by decide +kernel)) (fun _ h9 => h9) rfl dX1_forget_41 ?_
        refine wk_any (fun r33898 => ?_)
        refine lv_iconst (v := 1) hx hb dX1_forget_44 (by decide) ?_
        refine lv_iadd hx hb dX1_forget_45 ?_
        refine wk_topP (P := fun r => r = r33898 + (1 : Int32)) rfl (fun r33899 qr33899 => ?_)
        refine va_put (D := D) (ci := 1) (v := .int r33899) (ty := .int) (C := RX1) (T := TX1) (N := 2) hx hb hts hin1 tyX1 tyX1_ok nmX1 hown hK hP hD hS 13 rfl rfl 1 (by decide) (hts (.fieldLink RX1 9 "MissedPoints$Memo" "age" "I") (by decide +kernel)) (fun _ h9 => h9) rfl (by decide +kernel) rfl rfl (Nat.le_of_ble_eq_true rfl) dX1_forget_46 (fun H locs hP hD hS => ?_)
        rw [sxf_13_1] at hP hD
        generalize sU u 13 _ = u at hP hD
        subst hAe
        exact W.vret hx hb hr (fun t ht hW => ⟨⟨u, rfl, trivial, by rw [ht]; exact hP, hD⟩, hS.F ht⟩) hS.2.2 dX1_forget_49
      · have g33900 : Rg 1 24576 (nI N) := rg_ltr g12_l1 (wk_N hN) (rg_nle c33897) (by decide)
        have g33901 : Rg 0 24575 y12_l1 := rg_ltl g12_l1 (wk_N hN) (rg_nle c33897) (by decide)
        refine lv_aload_n hx hb dX1_forget_21 rfl (lv_at hl 0 rfl) ?_
        refine va_get (D := D) (ci := 1) (v := .ref nc) (C := RX1) (T := TX1) (N := 2) hx hb hts hin1 hown hK hP 13 rfl rfl 0 (by decide) (hts (.fieldLink RX1 21 "MissedPoints$Memo" "cells" "[I") (by decide +kernel)) (fun _ h9 => h9) rfl dX1_forget_22 ?_
        refine lv_iload_n hx hb dX1_forget_25 rfl (lv_at hl 1 rfl) ?_
        refine lv_iconst (v := 0) hx hb dX1_forget_26 (by decide) ?_
        refine ks_ast hx hb hK hP hD hS rfl (k := 14) rfl sx_14 (wk_inN hN g33901.1 (rg_nle c33897)) dX1_forget_27 (fun u H locs hP hD hS => ?_)
        refine wk_iinc (lv' := fun r => [(1, .int r), (0, .ref na)]) (e1 := 1) (f := 24576) hx hb dX1_forget_28 hl (k := 1) rfl (by decide) g33901 (by decide) (fun _ => rfl) (fun r33902 ls hr33902 er33902 hl => ?_)
        refine lv_goto (tgt := 12) hx hb dX1_forget_31 (by decide) ?_
        exact ih12 r33902 u _ _ ls (show Rg 0 28671 r33902 from rg_w hr33902 (by decide) (by decide)) hP hD hS (lv_sub (l' := [(0, .ref na), (1, .int r33902)]) hl [1, 0] rfl) (me_up hm12 er33902 (by decide))
  refine lv_aload_n hx hb dX1_forget_0 rfl (lv_at hl 0 rfl) ?_
  refine va_get (D := D) (ci := 1) (v := .int (u 13 1)) (C := RX1) (T := TX1) (N := 2) hx hb hts hin1 hown hK hP 13 rfl rfl 1 (by decide) (hts (.fieldLink RX1 9 "MissedPoints$Memo" "age" "I") (by decide +kernel)) (fun _ h9 => h9) rfl dX1_forget_1 ?_
  refine wk_any (fun r33903 => ?_)
  refine lv_sipush (v := 32767) hx hb dX1_forget_4 (by decide) ?_
  refine lv_icmp_ne (tgt := 39) hx hb dX1_forget_7 (by decide) (fun c33904 => ?_) (fun c33904 => ?_)
  · refine lv_aload_n hx hb dX1_forget_39 rfl (lv_at hl 0 rfl) ?_
    refine lv_dup hx hb dX1_forget_40 rfl ?_
    refine va_get (D := D) (ci := 1) (v := .int (u 13 1)) (C := RX1) (T := TX1) (N := 2) hx hb hts hin1 hown hK hP 13 rfl rfl 1 (by decide) (hts (.fieldLink RX1 9 "MissedPoints$Memo" "age" "I") (by decide +kernel)) (fun _ h9 => h9) rfl dX1_forget_41 ?_
    refine wk_any (fun r33905 => ?_)
    refine lv_iconst (v := 1) hx hb dX1_forget_44 (by decide) ?_
    refine lv_iadd hx hb dX1_forget_45 ?_
    refine wk_topP (P := fun r => r = r33905 + (1 : Int32)) rfl (fun r33906 qr33906 => ?_)
    refine va_put (D := D) (ci := 1) (v := .int r33906) (ty := .int) (C := RX1) (T := TX1) (N := 2) hx hb hts hin1 tyX1 tyX1_ok nmX1 hown hK hP hD hS 13 rfl rfl 1 (by decide) (hts (.fieldLink RX1 9 "MissedPoints$Memo" "age" "I") (by decide +kernel)) (fun _ h9 => h9) rfl (by decide +kernel) rfl rfl (Nat.le_of_ble_eq_true rfl) dX1_forget_46 (fun H locs hP hD hS => ?_)
    rw [sxf_13_1] at hP hD
    generalize sU u 13 _ = u at hP hD
    subst hAe
    exact W.vret hx hb hr (fun t ht hW => ⟨⟨u, rfl, trivial, by rw [ht]; exact hP, hD⟩, hS.F ht⟩) hS.2.2 dX1_forget_49
  · have g33907 : Rg 32767 32767 r33903 := wk_eql (rg_any r33903) (by decide : Rg 32767 32767 (32767 : Int32)) c33904 (by decide)
    refine lv_iconst (v := 0) hx hb dX1_forget_10 (by decide) ?_
    refine lv_istore_n (lv' := [(1, .int 0), (0, .ref na)]) hx hb dX1_forget_11 rfl hl (by decide) rfl (fun ls hl => ?_)
    exact lp12 28672 (0 : Int32) u _ _ ls (by decide : Rg 0 28671 (0 : Int32)) hP hD hS (lv_sub (l' := [(0, .ref na), (1, .int 0)]) hl [1, 0] rfl) (me_i (by decide : Rg 0 28671 (0 : Int32)) (by decide))
set_option maxHeartbeats 4000000 in
set_option maxRecDepth 100000 in
theorem k_X3_notice (l : Launch) (D : va_G) (cI cS : ClassId) (sz : Nat) (a : Nat → Nat) (na nc N : Nat) (L u0 : SU) (hL : TyX L) (hN : N = 0 ∨ N = 24576) : Met l yX3_notice wsX3_notice ({ frames := 1, cells := 0, slots := 0, locals := 40 }) (PQ D cI cS (wX cI cS a na nc N L u0) sz [.ref (a 7)]) (QE (S := SU) D (wX cI cS a na nc N L u0) (wX cI cS a na nc N L) sz (fun _ => True)) 0 0 (va_A (wX cI cS a na nc N L u0) sz) := by
  refine Met.ofW (cc := cX3_notice) (maxL := 1) (ret := none) (by decide) rfl ?_
  intro p e s m args below meth c s₁ B hml hv
  obtain ⟨rfl, hsz, hP, hKK, hD0⟩ := hv
  have hx := B.exec
  have hb := B.bytes
  have hr := B.returns
  have hts := atoms_spec (ws := wsX3_notice) B.pre
  have hown : s.vm.findClass RX3 = some m.cls := findClass_of_methodNamed B.named
  have hlocks := B.notSynchronized
  have hK := hKK.1
  have hin2 : ∀ w ∈ wsX20, w ∈ wsX3_notice := by decide +kernel
  have hin3 : ∀ w ∈ wsX30, w ∈ wsX3_notice := by decide +kernel
  subst hsz
  have hD := hD0.self (sz := s.heap.size)
  obtain ⟨A, hAe⟩ : ∃ A, A = va_A (wX cI cS a na nc N L u0) s.heap.size := ⟨_, rfl⟩
  rw [← hAe] at hD
  have hA : ∀ q : Nat, s.heap.size ≤ q → A q := fun q h => by rw [hAe]; exact Or.inr h
  have hS : va_S A s.heap s.heap [] := va_S.rf
  have hl := lv_entry ([.ref (a 7)]) (n := 1) (Nat.le_of_ble_eq_true rfl)
  rw [lg_entry_eq]
  generalize (lg_sl ([.ref (a 7)]) ++ List.replicate (1 - (lg_sl ([.ref (a 7)])).length) Slot.unset).toArray = ls at hl ⊢
  have hl : lv_has ls 1 [(0, .ref (a 7))] := hl
  obtain ⟨u, hu9⟩ : ∃ u : SU, u = u0 := ⟨_, rfl⟩
  rw [← hu9] at hP hD
  refine lv_aload_n hx hb dX3_notice_0 rfl (lv_at hl 0 rfl) ?_
  refine va_get (D := D) (ci := 3) (v := .int (u 7 3)) (C := RX3) (T := TX3) (N := 4) hx hb hts hin3 hown hK hP 7 rfl rfl 3 (by decide) (hts (.fieldLink RX3 27 "MissedPoints$Pairs" "changesSeen" "I") (by decide +kernel)) (fun _ h9 => h9) rfl dX3_notice_1 ?_
  refine wk_any (fun r33914 => ?_)
  refine lv_aload_n hx hb dX3_notice_4 rfl (lv_at hl 0 rfl) ?_
  refine va_get (D := D) (ci := 3) (v := .ref (a 1)) (C := RX3) (T := TX3) (N := 4) hx hb hts hin3 hown hK hP 7 rfl rfl 0 (by decide) (hts (.fieldLink RX3 23 "MissedPoints$Pairs" "net" "LMissedPoints$Net;") (by decide +kernel)) (fun _ h9 => h9) rfl dX3_notice_5 ?_
  refine va_getN (D := D) (ci := 2) (v := .int (u 1 2)) (C := RX2) (T := TX2) (N := 3) hx hb hts hin2 hown hK hP 1 rfl rfl 2 (by decide) (va_Nw.use rfl hKK.2.2.2.2.2.2.2.2.2.2.2.1) (fun _ h9 => h9) rfl dX3_notice_8 ?_
  refine wk_any (fun r33915 => ?_)
  refine lv_icmp_eq (tgt := 39) hx hb dX3_notice_11 (by decide) (fun c33916 => ?_) (fun c33916 => ?_)
  · subst hAe
    exact W.vret hx hb hr (fun t ht hW => ⟨⟨u, rfl, trivial, by rw [ht]; exact hP, hD⟩, hS.F ht⟩) hS.2.2 dX3_notice_39
  · refine lv_aload_n hx hb dX3_notice_14 rfl (lv_at hl 0 rfl) ?_
    refine lv_aload_n hx hb dX3_notice_15 rfl (lv_at hl 0 rfl) ?_
    refine va_get (D := D) (ci := 3) (v := .ref (a 1)) (C := RX3) (T := TX3) (N := 4) hx hb hts hin3 hown hK hP 7 rfl rfl 0 (by decide) (hts (.fieldLink RX3 23 "MissedPoints$Pairs" "net" "LMissedPoints$Net;") (by decide +kernel)) (fun _ h9 => h9) rfl dX3_notice_16 ?_
    refine va_getN (D := D) (ci := 2) (v := .int (u 1 2)) (C := RX2) (T := TX2) (N := 3) hx hb hts hin2 hown hK hP 1 rfl rfl 2 (by decide) (va_Nw.use rfl hKK.2.2.2.2.2.2.2.2.2.2.2.1) (fun _ h9 => h9) rfl dX3_notice_19 ?_
    refine wk_any (fun r33917 => ?_)
    refine va_put (D := D) (ci := 3) (v := .int r33917) (ty := .int) (C := RX3) (T := TX3) (N := 4) hx hb hts hin3 tyX3 tyX3_ok nmX3 hown hK hP hD hS 7 rfl rfl 3 (by decide) (hts (.fieldLink RX3 27 "MissedPoints$Pairs" "changesSeen" "I") (by decide +kernel)) (fun _ h9 => h9) rfl (by decide +kernel) rfl rfl (Nat.le_of_ble_eq_true rfl) dX3_notice_22 (fun H locs hP hD hS => ?_)
    rw [sxf_7_3] at hP hD
    generalize sU u 7 _ = u at hP hD
    refine lv_aload_n hx hb dX3_notice_25 rfl (lv_at hl 0 rfl) ?_
    refine va_get (D := D) (ci := 3) (v := .ref (a 9)) (C := RX3) (T := TX3) (N := 4) hx hb hts hin3 hown hK hP 7 rfl rfl 1 (by decide) (hts (.fieldLink RX3 14 "MissedPoints$Pairs" "mosts" "LMissedPoints$Memo;") (by decide +kernel)) (fun _ h9 => h9) rfl dX3_notice_26 ?_
    refine wk_qv (wX cI cS a na nc N L) u (As := []) (rest := []) ⟨hx, hb, hml, hown, hts⟩ (k_X1_forget l D cI cS _ a na nc N L u hL hN) hKK hP hD hS hA 9 (ci := 1) rfl rfl (cwV 0 hts gX3_notice_X1_forget rfl rfl rfl (by decide +kernel) ⟨Nat.le_of_ble_eq_true rfl, Nat.le_of_ble_eq_true rfl⟩) rfl hl.1 rfl (Nat.le_of_ble_eq_true rfl) dX3_notice_29 ⟨Nat.le_of_ble_eq_true rfl, Nat.le_of_ble_eq_true rfl⟩ (fun u H locs hr33918 hP hD hS => ?_)
    refine lv_aload_n hx hb dX3_notice_32 rfl (lv_at hl 0 rfl) ?_
    refine va_get (D := D) (ci := 3) (v := .ref na) (C := RX3) (T := TX3) (N := 4) hx hb hts hin3 hown hK hP 7 rfl rfl 2 (by decide) (hts (.fieldLink RX3 20 "MissedPoints$Pairs" "numbers" "LMissedPoints$Memo;") (by decide +kernel)) (fun _ h9 => h9) rfl dX3_notice_33 ?_
    refine wk_qv (wX cI cS a na nc N L) u (As := []) (rest := []) ⟨hx, hb, hml, hown, hts⟩ (k_X1_forget_13 l D cI cS _ a na nc N L u hL hN) hKK hP hD hS hA 13 (ci := 1) rfl rfl (cwV 0 hts gX3_notice_X1_forget rfl rfl rfl (by decide +kernel) ⟨Nat.le_of_ble_eq_true rfl, Nat.le_of_ble_eq_true rfl⟩) rfl hl.1 rfl (Nat.le_of_ble_eq_true rfl) dX3_notice_36 ⟨Nat.le_of_ble_eq_true rfl, Nat.le_of_ble_eq_true rfl⟩ (fun u H locs hr33919 hP hD hS => ?_)
    subst hAe
    exact W.vret hx hb hr (fun t ht hW => ⟨⟨u, rfl, trivial, by rw [ht]; exact hP, hD⟩, hS.F ht⟩) hS.2.2 dX3_notice_39
set_option maxHeartbeats 8000000 in
set_option maxRecDepth 100000 in
theorem k_X3_bestOf_r (l : Launch) (D : va_G) (cI cS : ClassId) (a : Nat → Nat) (na nc N : Nat) (L : SU) (hL : TyX L) (hN : N = 0 ∨ N = 24576) : ∀ (n sz : Nat) (u0 : SU) (x0 x1 : Int32), Rg 0 13 x1 → 13 - x1.toInt ≤ (n : Int) → Met l yX3_bestOf wsX3_bestOf ({ frames := n + 1, cells := 0, slots := 0, locals := 40 * (n + 1) }) (PQ D cI cS (wX cI cS a na nc N L u0) sz [.ref (a 7), .int x0, .int x1]) (QF (S := SU) D (wX cI cS a na nc N L u0) (wX cI cS a na nc N L) sz (fun r _ => Rg 0 65549 r ∧ r.toInt ≤ 65549 - x1.toInt)) 0 0 (va_A (wX cI cS a na nc N L u0) sz) := by
  intro n
  induction n with
  | zero =>
    intro sz u0 x0 x1 px1 hrk
    have px1 : Rg 13 13 x1 := ⟨by omega, px1.2⟩
    refine Met.ofW (cc := cX3_bestOf) (maxL := 11) (ret := (some .int)) (by decide) rfl ?_
    intro p e s m args below meth c s₁ B hml hv
    obtain ⟨rfl, hsz, hP, hKK, hD0⟩ := hv
    have hx := B.exec
    have hb := B.bytes
    have hr := B.returns
    have hts := atoms_spec (ws := wsX3_bestOf) B.pre
    have hown : s.vm.findClass RX3 = some m.cls := findClass_of_methodNamed B.named
    have hlocks := B.notSynchronized
    have hK := hKK.1
    subst hsz
    have hD := hD0.self (sz := s.heap.size)
    obtain ⟨A, hAe⟩ : ∃ A, A = va_A (wX cI cS a na nc N L u0) s.heap.size := ⟨_, rfl⟩
    rw [← hAe] at hD
    have hA : ∀ q : Nat, s.heap.size ≤ q → A q := fun q h => by rw [hAe]; exact Or.inr h
    have hS : va_S A s.heap s.heap [] := va_S.rf
    have hl := lv_entry ([.ref (a 7), .int x0, .int x1]) (n := 11) (Nat.le_of_ble_eq_true rfl)
    rw [lg_entry_eq]
    generalize (lg_sl ([.ref (a 7), .int x0, .int x1]) ++ List.replicate (11 - (lg_sl ([.ref (a 7), .int x0, .int x1])).length) Slot.unset).toArray = ls at hl ⊢
    have hl : lv_has ls 11 [(0, .ref (a 7)), (1, .int x0), (2, .int x1)] := hl
    obtain ⟨u, hu9⟩ : ∃ u : SU, u = u0 := ⟨_, rfl⟩
    rw [← hu9] at hP hD
    refine lv_bipush (v := 31) hx hb dX3_bestOf_0 (by decide) ?_
    refine lv_iload_n hx hb dX3_bestOf_2 rfl (lv_at hl 1 rfl) ?_
    refine lz_ss (As := [.int x0]) (rest := [.int 31]) ⟨hx, hb, hml, hown, hts⟩ (k_J6_numberOfLeadingZeros_0f7a4 l D cI cS x0) hKK (hP.sub (ws' := []) [] rfl) (va_cwS 1 hts gX3_bestOf_J6_numberOfLeadingZeros_0f7a4 rfl rfl rfl (by decide +kernel) ⟨by show 0 + 1 ≤ 0 + 1; omega, by show 8 + (2 + 11) + 0 ≤ 40 * (0 + 1); omega⟩) rfl hl.1 rfl (Nat.le_of_ble_eq_true rfl) dX3_bestOf_3 ⟨Nat.le_of_ble_eq_true rfl, Nat.le_of_ble_eq_true rfl⟩ (fun r33929 hr33929 => ?_)
    refine wk_isub (e1 := (-1)) (f := 31) hx hb dX3_bestOf_6 (by decide : Rg 31 31 (31 : Int32)) hr33929.1 (by decide) (fun r33930 hr33930 er33930 qr33930 => ?_)
    refine lv_istore_n (lv' := [(3, .int r33930), (0, .ref (a 7)), (1, .int x0), (2, .int x1)]) hx hb dX3_bestOf_7 rfl hl (by decide) rfl (fun ls hl => ?_)
    refine lv_iload_n hx hb dX3_bestOf_8 rfl (lv_at hl 0 rfl) ?_
    refine lv_iconst (v := 1) hx hb dX3_bestOf_9 (by decide) ?_
    refine lv_icmp_lt (tgt := 25) hx hb dX3_bestOf_10 (by decide) (fun c33931 => ?_) (fun c33931 => ?_)
    · have g33932 : Rg (-1) 0 r33930 := rg_ltl hr33930 (by decide : Rg 1 1 (1 : Int32)) c33931 (by decide)
      refine lv_iconst (v := 0) hx hb dX3_bestOf_25 (by decide) ?_
      subst hAe
      exact W.iret (v := 0) hx hb hr (fun t ht hW => ⟨⟨_, u, rfl, ⟨(by decide : Rg 0 65549 (0 : Int32)), (by have z1 := px1; have z2 : (0 : Int32).toInt = 0 := (by decide); omega)⟩, by rw [ht]; exact hP, hD⟩, hS.F ht⟩) hS.2.2 dX3_bestOf_26
    · have g33933 : Rg 1 31 r33930 := rg_ler (by decide : Rg 1 1 (1 : Int32)) hr33930 (rg_nlt c33931) (by decide)
      refine lv_iload_n hx hb dX3_bestOf_13 rfl (lv_at hl 0 rfl) ?_
      refine lv_bipush (v := 12) hx hb dX3_bestOf_14 (by decide) ?_
      refine lv_icmp_ge (tgt := 25) hx hb dX3_bestOf_16 (by decide) (fun c33934 => ?_) (fun c33934 => ?_)
      · have g33935 : Rg 12 31 r33930 := rg_ler (by decide : Rg 12 12 (12 : Int32)) g33933 c33934 (by decide)
        refine lv_iconst (v := 0) hx hb dX3_bestOf_25 (by decide) ?_
        subst hAe
        exact W.iret (v := 0) hx hb hr (fun t ht hW => ⟨⟨_, u, rfl, ⟨(by decide : Rg 0 65549 (0 : Int32)), (by have z1 := px1; have z2 : (0 : Int32).toInt = 0 := (by decide); omega)⟩, by rw [ht]; exact hP, hD⟩, hS.F ht⟩) hS.2.2 dX3_bestOf_26
      · have g33936 : Rg 1 11 r33930 := rg_ltl g33933 (by decide : Rg 12 12 (12 : Int32)) (rg_nle c33934) (by decide)
        refine lv_iload_n hx hb dX3_bestOf_19 rfl (lv_at hl 3 rfl) ?_
        refine lv_bipush (v := 12) hx hb dX3_bestOf_20 (by decide) ?_
        refine lv_icmp_le (tgt := 27) hx hb dX3_bestOf_22 (by decide) (fun c33937 => ?_) (fun c33937 => ?_)
        · exact absurd c33937 (wk_nle px1 (by decide : Rg 12 12 (12 : Int32)) (by decide))
        · refine lv_iconst (v := 0) hx hb dX3_bestOf_25 (by decide) ?_
          subst hAe
          exact W.iret (v := 0) hx hb hr (fun t ht hW => ⟨⟨_, u, rfl, ⟨(by decide : Rg 0 65549 (0 : Int32)), (by have z1 := px1; have z2 : (0 : Int32).toInt = 0 := (by decide); omega)⟩, by rw [ht]; exact hP, hD⟩, hS.F ht⟩) hS.2.2 dX3_bestOf_26
  | succ n ih =>
    intro sz u0 x0 x1 px1 hrk
    refine Met.ofW (cc := cX3_bestOf) (maxL := 11) (ret := (some .int)) (by decide) rfl ?_
    intro p e s m args below meth c s₁ B hml hv
    obtain ⟨rfl, hsz, hP, hKK, hD0⟩ := hv
    have hx := B.exec
    have hb := B.bytes
    have hr := B.returns
    have hts := atoms_spec (ws := wsX3_bestOf) B.pre
    have hown : s.vm.findClass RX3 = some m.cls := findClass_of_methodNamed B.named
    have hlocks := B.notSynchronized
    have hK := hKK.1
    have hin2 : ∀ w ∈ wsX20, w ∈ wsX3_bestOf := by decide +kernel
    have hin3 : ∀ w ∈ wsX30, w ∈ wsX3_bestOf := by decide +kernel
    subst hsz
    have hD := hD0.self (sz := s.heap.size)
    obtain ⟨A, hAe⟩ : ∃ A, A = va_A (wX cI cS a na nc N L u0) s.heap.size := ⟨_, rfl⟩
    rw [← hAe] at hD
    have hA : ∀ q : Nat, s.heap.size ≤ q → A q := fun q h => by rw [hAe]; exact Or.inr h
    have hS : va_S A s.heap s.heap [] := va_S.rf
    have hl := lv_entry ([.ref (a 7), .int x0, .int x1]) (n := 11) (Nat.le_of_ble_eq_true rfl)
    rw [lg_entry_eq]
    generalize (lg_sl ([.ref (a 7), .int x0, .int x1]) ++ List.replicate (11 - (lg_sl ([.ref (a 7), .int x0, .int x1])).length) Slot.unset).toArray = ls at hl ⊢
    have hl : lv_has ls 11 [(0, .ref (a 7)), (1, .int x0), (2, .int x1)] := hl
    obtain ⟨u, hu9⟩ : ∃ u : SU, u = u0 := ⟨_, rfl⟩
    rw [← hu9] at hP hD
    have lp106 : ∀ (n106 : Nat) (y106_l3 : Int32) (y106_l5 : Int32) (y106_l6 : Int32) (y106_l7 : Int32) (y106_l8 : Int32) (y106_l9 : Int32) (y106_l10 : Int32) (u : SU) (H : Heap) (locs : List Loc) (ls : Array Slot), Rg 0 12 x1 → Rg 1 11 y106_l3 → Rg 0 65548 y106_l7 → Rg 0 65549 y106_l8 → Rg 0 1 y106_l9 → Rg 0 11 y106_l10 → (y106_l8.toInt ≤ 65549 - x1.toInt ∧ y106_l7.toInt ≤ 65548 - x1.toInt) → va_P D cls (wX cI cS a na nc N L u) H → va_D A (wX cI cS a na nc N L u) → va_S A s.heap H locs → lv_has ls 11 [(0, .ref (a 7)), (1, .int x0), (2, .int x1), (3, .int y106_l3), (5, .int y106_l5), (6, .int y106_l6), (7, .int y106_l7), (8, .int y106_l8), (9, .int y106_l9), (10, .int y106_l10)] → 11 - y106_l10.toInt < (n106 : Int) → W p l e (headSpec wsX3_bestOf ({ frames := n + 1 + 1, cells := 0, slots := 0, locals := 40 * (n + 1 + 1) })).room s m ([.ref (a 7), .int x0, .int x1]).toArray below meth c H locs 0 0 (MQ below (QF (S := SU) D (wX cI cS a na nc N L u0) (wX cI cS a na nc N L) s.heap.size (fun r _ => Rg 0 65549 r ∧ r.toInt ≤ 65549 - x1.toInt)) ([.ref (a 7), .int x0, .int x1]).toArray s 0 0 (va_A (wX cI cS a na nc N L u0) s.heap.size)) (F0 m 106 ls []) := by
      intro n106
      induction n106 with
      | zero =>
        intro y106_l3 y106_l5 y106_l6 y106_l7 y106_l8 y106_l9 y106_l10 u H locs ls g106_l2 g106_l3 g106_l7 g106_l8 g106_l9 g106_l10 x106_0 hP hD hS hl hm106
        exact absurd rfl (me_z g106_l10 hm106)
      | succ n106 ih106 =>
        intro y106_l3 y106_l5 y106_l6 y106_l7 y106_l8 y106_l9 y106_l10 u H locs ls g106_l2 g106_l3 g106_l7 g106_l8 g106_l9 g106_l10 x106_0 hP hD hS hl hm106
        refine lv_iload hx hb dX3_bestOf_106 (lv_at hl 9 rfl) ?_
        refine lv_iload_n hx hb dX3_bestOf_108 rfl (lv_at hl 3 rfl) ?_
        refine lv_icmp_ge (tgt := 164) hx hb dX3_bestOf_109 (by decide) (fun c34397 => ?_) (fun c34397 => ?_)
        · have g34398 : Rg 1 11 y106_l10 := rg_ler g106_l3 g106_l10 c34397 (by decide)
          refine lv_aload_n hx hb dX3_bestOf_164 rfl (lv_at hl 0 rfl) ?_
          refine va_get (D := D) (ci := 3) (v := .ref (a 9)) (C := RX3) (T := TX3) (N := 4) hx hb hts hin3 hown hK hP 7 rfl rfl 1 (by decide) (hts (.fieldLink RX3 14 "MissedPoints$Pairs" "mosts" "LMissedPoints$Memo;") (by decide +kernel)) (fun _ h9 => h9) rfl dX3_bestOf_165 ?_
          refine lv_iload_n hx hb dX3_bestOf_168 rfl (lv_at hl 1 rfl) ?_
          refine lv_iload hx hb dX3_bestOf_169 (lv_at hl 7 rfl) ?_
          refine wk_qv (wX cI cS a na nc N L) u (As := [.int x0, .int y106_l8]) (rest := []) ⟨hx, hb, hml, hown, hts⟩ (k_X1_keep l D cI cS _ a na nc N L u hL hN x0 y106_l8) hKK hP hD hS hA 9 (ci := 1) rfl rfl (cwV 2 hts gX3_bestOf_X1_keep rfl rfl rfl (by decide +kernel) ⟨by show 0 + 1 ≤ (n + 1) + 1; omega, by show 8 + (3 + 11) + 0 ≤ 40 * ((n + 1) + 1); omega⟩) rfl hl.1 rfl (Nat.le_of_ble_eq_true rfl) dX3_bestOf_171 ⟨Nat.le_of_ble_eq_true rfl, Nat.le_of_ble_eq_true rfl⟩ (fun u H locs hr34399 hP hD hS => ?_)
          refine lv_iload hx hb dX3_bestOf_174 (lv_at hl 7 rfl) ?_
          subst hAe
          exact W.iret (v := y106_l8) hx hb hr (fun t ht hW => ⟨⟨_, u, rfl, ⟨g106_l8, x106_0.1⟩, by rw [ht]; exact hP, hD⟩, hS.F ht⟩) hS.2.2 dX3_bestOf_176
        · have g34400 : Rg 0 10 y106_l10 := rg_ltl g106_l10 g106_l3 (rg_nle c34397) (by decide)
          refine lv_iload hx hb dX3_bestOf_112 (lv_at hl 8 rfl) ?_
          refine lv_if_eq (tgt := 164) hx hb dX3_bestOf_114 (by decide) (fun c34401 => ?_) (fun c34401 => ?_)
          · have g34402 : Rg 0 0 y106_l9 := wk_eql g106_l9 (by decide : Rg 0 0 (0 : Int32)) c34401 (by decide)
            refine lv_aload_n hx hb dX3_bestOf_164 rfl (lv_at hl 0 rfl) ?_
            refine va_get (D := D) (ci := 3) (v := .ref (a 9)) (C := RX3) (T := TX3) (N := 4) hx hb hts hin3 hown hK hP 7 rfl rfl 1 (by decide) (hts (.fieldLink RX3 14 "MissedPoints$Pairs" "mosts" "LMissedPoints$Memo;") (by decide +kernel)) (fun _ h9 => h9) rfl dX3_bestOf_165 ?_
            refine lv_iload_n hx hb dX3_bestOf_168 rfl (lv_at hl 1 rfl) ?_
            refine lv_iload hx hb dX3_bestOf_169 (lv_at hl 7 rfl) ?_
            refine wk_qv (wX cI cS a na nc N L) u (As := [.int x0, .int y106_l8]) (rest := []) ⟨hx, hb, hml, hown, hts⟩ (k_X1_keep l D cI cS _ a na nc N L u hL hN x0 y106_l8) hKK hP hD hS hA 9 (ci := 1) rfl rfl (cwV 2 hts gX3_bestOf_X1_keep rfl rfl rfl (by decide +kernel) ⟨by show 0 + 1 ≤ (n + 1) + 1; omega, by show 8 + (3 + 11) + 0 ≤ 40 * ((n + 1) + 1); omega⟩) rfl hl.1 rfl (Nat.le_of_ble_eq_true rfl) dX3_bestOf_171 ⟨Nat.le_of_ble_eq_true rfl, Nat.le_of_ble_eq_true rfl⟩ (fun u H locs hr34403 hP hD hS => ?_)
            refine lv_iload hx hb dX3_bestOf_174 (lv_at hl 7 rfl) ?_
            subst hAe
            exact W.iret (v := y106_l8) hx hb hr (fun t ht hW => ⟨⟨_, u, rfl, ⟨g106_l8, x106_0.1⟩, by rw [ht]; exact hP, hD⟩, hS.F ht⟩) hS.2.2 dX3_bestOf_176
          · have g34404 : Rg 1 1 y106_l9 := rg_ne_lo (k := 0) g106_l9 (by decide) c34401 (by decide)
            refine lv_iload hx hb dX3_bestOf_117 (lv_at hl 7 rfl) ?_
            refine lv_iload hx hb dX3_bestOf_119 (lv_at hl 6 rfl) ?_
            refine lv_icmp_ne (tgt := 164) hx hb dX3_bestOf_121 (by decide) (fun c34405 => ?_) (fun c34405 => ?_)
            · refine lv_aload_n hx hb dX3_bestOf_164 rfl (lv_at hl 0 rfl) ?_
              refine va_get (D := D) (ci := 3) (v := .ref (a 9)) (C := RX3) (T := TX3) (N := 4) hx hb hts hin3 hown hK hP 7 rfl rfl 1 (by decide) (hts (.fieldLink RX3 14 "MissedPoints$Pairs" "mosts" "LMissedPoints$Memo;") (by decide +kernel)) (fun _ h9 => h9) rfl dX3_bestOf_165 ?_
              refine lv_iload_n hx hb dX3_bestOf_168 rfl (lv_at hl 1 rfl) ?_
              refine lv_iload hx hb dX3_bestOf_169 (lv_at hl 7 rfl) ?_
              refine wk_qv (wX cI cS a na nc N L) u (As := [.int x0, .int y106_l8]) (rest := []) ⟨hx, hb, hml, hown, hts⟩ (k_X1_keep l D cI cS _ a na nc N L u hL hN x0 y106_l8) hKK hP hD hS hA 9 (ci := 1) rfl rfl (cwV 2 hts gX3_bestOf_X1_keep rfl rfl rfl (by decide +kernel) ⟨by show 0 + 1 ≤ (n + 1) + 1; omega, by show 8 + (3 + 11) + 0 ≤ 40 * ((n + 1) + 1); omega⟩) rfl hl.1 rfl (Nat.le_of_ble_eq_true rfl) dX3_bestOf_171 ⟨Nat.le_of_ble_eq_true rfl, Nat.le_of_ble_eq_true rfl⟩ (fun u H locs hr34406 hP hD hS => ?_)
              refine lv_iload hx hb dX3_bestOf_174 (lv_at hl 7 rfl) ?_
              subst hAe
              exact W.iret (v := y106_l8) hx hb hr (fun t ht hW => ⟨⟨_, u, rfl, ⟨g106_l8, x106_0.1⟩, by rw [ht]; exact hP, hD⟩, hS.F ht⟩) hS.2.2 dX3_bestOf_176
            · have g34407 : Rg 0 65548 y106_l8 := wk_eql g106_l8 g106_l7 c34405 (by decide)
              refine lv_iload hx hb dX3_bestOf_124 (lv_at hl 5 rfl) ?_
              refine lv_iload hx hb dX3_bestOf_126 (lv_at hl 9 rfl) ?_
              refine lv_ishr hx hb dX3_bestOf_128 ?_
              refine wk_topP (P := fun r => r = y106_l6 >>> (y106_l10 &&& 31)) rfl (fun r34408 qr34408 => ?_)
              refine lv_iconst (v := 1) hx hb dX3_bestOf_129 (by decide) ?_
              refine wk_iandr hx hb dX3_bestOf_130 (by decide : Rg 1 1 (1 : Int32)) (by decide) (fun r34409 hr34409 qr34409 => ?_)
              refine lv_if_eq (tgt := 158) hx hb dX3_bestOf_131 (by decide) (fun c34410 => ?_) (fun c34410 => ?_)
              · have g34411 : Rg 0 0 r34409 := wk_eql hr34409 (by decide : Rg 0 0 (0 : Int32)) c34410 (by decide)
                refine wk_iinc (lv' := fun r => [(10, .int r), (0, .ref (a 7)), (1, .int x0), (2, .int x1), (3, .int y106_l3), (5, .int y106_l5), (6, .int y106_l6), (7, .int y106_l7), (8, .int y106_l8), (9, .int y106_l9)]) (e1 := 1) (f := 11) hx hb dX3_bestOf_158 hl (k := 9) rfl (by decide) g34400 (by decide) (fun _ => rfl) (fun r34412 ls hr34412 er34412 hl => ?_)
                refine lv_goto (tgt := 106) hx hb dX3_bestOf_161 (by decide) ?_
                exact ih106 y106_l3 y106_l5 y106_l6 y106_l7 y106_l8 y106_l9 r34412 u _ _ ls g106_l2 g106_l3 g106_l7 (show Rg 0 65549 y106_l8 from rg_w g34407 (by decide) (by decide)) (show Rg 0 1 y106_l9 from rg_w g34404 (by decide) (by decide)) (show Rg 0 11 r34412 from rg_w hr34412 (by decide) (by decide)) (by exact x106_0) hP hD hS (lv_sub (l' := [(0, .ref (a 7)), (1, .int x0), (2, .int x1), (3, .int y106_l3), (5, .int y106_l5), (6, .int y106_l6), (7, .int y106_l7), (8, .int y106_l8), (9, .int y106_l9), (10, .int r34412)]) hl [1, 2, 3, 4, 5, 6, 7, 8, 9, 0] rfl) (me_up hm106 er34412 (by decide))
              · have g34413 : Rg 1 1 r34409 := rg_ne_lo (k := 0) hr34409 (by decide) c34410 (by decide)
                refine lv_aload_n hx hb dX3_bestOf_134 rfl (lv_at hl 0 rfl) ?_
                refine lv_iload hx hb dX3_bestOf_135 (lv_at hl 4 rfl) ?_
                refine lv_iconst (v := 1) hx hb dX3_bestOf_137 (by decide) ?_
                refine lv_iload hx hb dX3_bestOf_138 (lv_at hl 9 rfl) ?_
                refine wk_ishl1 (f := 1024) hx hb dX3_bestOf_140 g34400 (by decide) (fun r34414 hr34414 qr34414 => ?_)
                refine lv_iconst (v := (-1)) hx hb dX3_bestOf_141 (by decide) ?_
                refine lv_ixor hx hb dX3_bestOf_142 ?_
                refine wk_topP (P := fun r => r = r34414 ^^^ ((-1) : Int32)) rfl (fun r34415 qr34415 => ?_)
                refine lv_iand hx hb dX3_bestOf_143 ?_
                refine wk_topP (P := fun r => r = y106_l5 &&& r34415) rfl (fun r34416 qr34416 => ?_)
                refine lv_iload_n hx hb dX3_bestOf_144 rfl (lv_at hl 2 rfl) ?_
                refine lv_iconst (v := 1) hx hb dX3_bestOf_145 (by decide) ?_
                refine wk_iadd (e1 := 1) (f := 13) hx hb dX3_bestOf_146 g106_l2 (by decide : Rg 1 1 (1 : Int32)) (by decide) (fun r34417 hr34417 er34417 qr34417 => ?_)
                refine wk_qi (wX cI cS a na nc N L) u (As := [.int r34416, .int r34417]) (rest := []) ⟨hx, hb, hml, hown, hts⟩ (ih _ u r34416 r34417 ((show Rg 0 13 r34417 from rg_w hr34417 (by decide) (by decide))) (by have z1 := er34417; have z9 : (1 : Int32).toInt = 1 := (by decide); omega)) hKK hP hD hS hA 7 (ci := 3) rfl rfl (cwV 2 hts gX3_bestOf_X3_bestOf rfl rfl rfl (by decide +kernel) ⟨by show n + 1 + 1 ≤ (n + 1) + 1; omega, by show 8 + (11 + 11) + 40 * (n + 1) ≤ 40 * ((n + 1) + 1); omega⟩) rfl hl.1 rfl (Nat.le_of_ble_eq_true rfl) dX3_bestOf_147 ⟨Nat.le_of_ble_eq_true rfl, Nat.le_of_ble_eq_true rfl⟩ (fun r34418 u H locs hr34418 hP hD hS => ?_)
                have g34419 : Rg 0 65548 r34418 := ⟨hr34418.1.1, by have z1 := hr34418.2; have z2 := er34417; have z3 := px1; have z9 : (1 : Int32).toInt = 1 := (by decide); omega⟩
                refine lv_iload hx hb dX3_bestOf_150 (lv_at hl 6 rfl) ?_
                refine lv_icmp_ne (tgt := 158) hx hb dX3_bestOf_152 (by decide) (fun c34420 => ?_) (fun c34420 => ?_)
                · refine wk_iinc (lv' := fun r => [(10, .int r), (0, .ref (a 7)), (1, .int x0), (2, .int x1), (3, .int y106_l3), (5, .int y106_l5), (6, .int y106_l6), (7, .int y106_l7), (8, .int y106_l8), (9, .int y106_l9)]) (e1 := 1) (f := 11) hx hb dX3_bestOf_158 hl (k := 9) rfl (by decide) g34400 (by decide) (fun _ => rfl) (fun r34421 ls hr34421 er34421 hl => ?_)
                  refine lv_goto (tgt := 106) hx hb dX3_bestOf_161 (by decide) ?_
                  exact ih106 y106_l3 y106_l5 y106_l6 y106_l7 y106_l8 y106_l9 r34421 u _ _ ls g106_l2 g106_l3 g106_l7 (show Rg 0 65549 y106_l8 from rg_w g34407 (by decide) (by decide)) (show Rg 0 1 y106_l9 from rg_w g34404 (by decide) (by decide)) (show Rg 0 11 r34421 from rg_w hr34421 (by decide) (by decide)) (by exact x106_0) hP hD hS (lv_sub (l' := [(0, .ref (a 7)), (1, .int x0), (2, .int x1), (3, .int y106_l3), (5, .int y106_l5), (6, .int y106_l6), (7, .int y106_l7), (8, .int y106_l8), (9, .int y106_l9), (10, .int r34421)]) hl [1, 2, 3, 4, 5, 6, 7, 8, 9, 0] rfl) (me_up hm106 er34421 (by decide))
                · refine wk_iinc (lv' := fun r => [(8, .int r), (0, .ref (a 7)), (1, .int x0), (2, .int x1), (3, .int y106_l3), (5, .int y106_l5), (6, .int y106_l6), (7, .int y106_l7), (9, .int y106_l9), (10, .int y106_l10)]) (e1 := 1) (f := 65549) hx hb dX3_bestOf_155 hl (k := 7) rfl (by decide) g34407 (by decide) (fun _ => rfl) (fun r34422 ls hr34422 er34422 hl => ?_)
                  refine wk_iinc (lv' := fun r => [(10, .int r), (8, .int r34422), (0, .ref (a 7)), (1, .int x0), (2, .int x1), (3, .int y106_l3), (5, .int y106_l5), (6, .int y106_l6), (7, .int y106_l7), (9, .int y106_l9)]) (e1 := 1) (f := 11) hx hb dX3_bestOf_158 hl (k := 9) rfl (by decide) g34400 (by decide) (fun _ => rfl) (fun r34423 ls hr34423 er34423 hl => ?_)
                  refine lv_goto (tgt := 106) hx hb dX3_bestOf_161 (by decide) ?_
                  exact ih106 y106_l3 y106_l5 y106_l6 y106_l7 r34422 y106_l9 r34423 u _ _ ls g106_l2 g106_l3 g106_l7 (show Rg 0 65549 r34422 from rg_w hr34422 (by decide) (by decide)) (show Rg 0 1 y106_l9 from rg_w g34404 (by decide) (by decide)) (show Rg 0 11 r34423 from rg_w hr34423 (by decide) (by decide)) (by have z1 := x106_0; have z2 := er34422; have z3 := congrArg Int32.toInt c34405; exact ⟨by omega, z1.2⟩) hP hD hS (lv_sub (l' := [(0, .ref (a 7)), (1, .int x0), (2, .int x1), (3, .int y106_l3), (5, .int y106_l5), (6, .int y106_l6), (7, .int y106_l7), (8, .int r34422), (9, .int y106_l9), (10, .int r34423)]) hl [2, 3, 4, 5, 6, 7, 8, 1, 9, 0] rfl) (me_up hm106 er34423 (by decide))
    refine lv_bipush (v := 31) hx hb dX3_bestOf_0 (by decide) ?_
    refine lv_iload_n hx hb dX3_bestOf_2 rfl (lv_at hl 1 rfl) ?_
    refine lz_ss (As := [.int x0]) (rest := [.int 31]) ⟨hx, hb, hml, hown, hts⟩ (k_J6_numberOfLeadingZeros_0f7a4 l D cI cS x0) hKK (hP.sub (ws' := []) [] rfl) (va_cwS 1 hts gX3_bestOf_J6_numberOfLeadingZeros_0f7a4 rfl rfl rfl (by decide +kernel) ⟨by show 0 + 1 ≤ (n + 1) + 1; omega, by show 8 + (2 + 11) + 0 ≤ 40 * ((n + 1) + 1); omega⟩) rfl hl.1 rfl (Nat.le_of_ble_eq_true rfl) dX3_bestOf_3 ⟨Nat.le_of_ble_eq_true rfl, Nat.le_of_ble_eq_true rfl⟩ (fun r34424 hr34424 => ?_)
    refine wk_isub (e1 := (-1)) (f := 31) hx hb dX3_bestOf_6 (by decide : Rg 31 31 (31 : Int32)) hr34424.1 (by decide) (fun r34425 hr34425 er34425 qr34425 => ?_)
    refine lv_istore_n (lv' := [(3, .int r34425), (0, .ref (a 7)), (1, .int x0), (2, .int x1)]) hx hb dX3_bestOf_7 rfl hl (by decide) rfl (fun ls hl => ?_)
    refine lv_iload_n hx hb dX3_bestOf_8 rfl (lv_at hl 0 rfl) ?_
    refine lv_iconst (v := 1) hx hb dX3_bestOf_9 (by decide) ?_
    refine lv_icmp_lt (tgt := 25) hx hb dX3_bestOf_10 (by decide) (fun c34426 => ?_) (fun c34426 => ?_)
    · have g34427 : Rg (-1) 0 r34425 := rg_ltl hr34425 (by decide : Rg 1 1 (1 : Int32)) c34426 (by decide)
      refine lv_iconst (v := 0) hx hb dX3_bestOf_25 (by decide) ?_
      subst hAe
      exact W.iret (v := 0) hx hb hr (fun t ht hW => ⟨⟨_, u, rfl, ⟨(by decide : Rg 0 65549 (0 : Int32)), (by have z1 := px1; have z2 : (0 : Int32).toInt = 0 := (by decide); omega)⟩, by rw [ht]; exact hP, hD⟩, hS.F ht⟩) hS.2.2 dX3_bestOf_26
    · have g34428 : Rg 1 31 r34425 := rg_ler (by decide : Rg 1 1 (1 : Int32)) hr34425 (rg_nlt c34426) (by decide)
      refine lv_iload_n hx hb dX3_bestOf_13 rfl (lv_at hl 0 rfl) ?_
      refine lv_bipush (v := 12) hx hb dX3_bestOf_14 (by decide) ?_
      refine lv_icmp_ge (tgt := 25) hx hb dX3_bestOf_16 (by decide) (fun c34429 => ?_) (fun c34429 => ?_)
      · have g34430 : Rg 12 31 r34425 := rg_ler (by decide : Rg 12 12 (12 : Int32)) g34428 c34429 (by decide)
        refine lv_iconst (v := 0) hx hb dX3_bestOf_25 (by decide) ?_
        subst hAe
        exact W.iret (v := 0) hx hb hr (fun t ht hW => ⟨⟨_, u, rfl, ⟨(by decide : Rg 0 65549 (0 : Int32)), (by have z1 := px1; have z2 : (0 : Int32).toInt = 0 := (by decide); omega)⟩, by rw [ht]; exact hP, hD⟩, hS.F ht⟩) hS.2.2 dX3_bestOf_26
      · have g34431 : Rg 1 11 r34425 := rg_ltl g34428 (by decide : Rg 12 12 (12 : Int32)) (rg_nle c34429) (by decide)
        refine lv_iload_n hx hb dX3_bestOf_19 rfl (lv_at hl 3 rfl) ?_
        refine lv_bipush (v := 12) hx hb dX3_bestOf_20 (by decide) ?_
        refine lv_icmp_le (tgt := 27) hx hb dX3_bestOf_22 (by decide) (fun c34432 => ?_) (fun c34432 => ?_)
        · have g34433 : Rg 0 12 x1 := rg_lel px1 (by decide : Rg 12 12 (12 : Int32)) c34432 (by decide)
          refine lv_aload_n hx hb dX3_bestOf_27 rfl (lv_at hl 1 rfl) ?_
          refine va_get (D := D) (ci := 3) (v := .ref (a 9)) (C := RX3) (T := TX3) (N := 4) hx hb hts hin3 hown hK hP 7 rfl rfl 1 (by decide) (hts (.fieldLink RX3 14 "MissedPoints$Pairs" "mosts" "LMissedPoints$Memo;") (by decide +kernel)) (fun _ h9 => h9) rfl dX3_bestOf_28 ?_
          refine lv_iload_n hx hb dX3_bestOf_31 rfl (lv_at hl 2 rfl) ?_
          refine wk_sv 9 (As := [.int x0]) (rest := []) ⟨hx, hb, hml, hown, hts⟩ (k_X1_recall l D cI cS a na nc N L u hL hN x0) hKK hP (ci := 1) rfl rfl (cwV 1 hts gX3_bestOf_X1_recall rfl rfl rfl (by decide +kernel) ⟨by show 0 + 1 ≤ (n + 1) + 1; omega, by show 8 + (2 + 11) + 0 ≤ 40 * ((n + 1) + 1); omega⟩) rfl hl.1 rfl (Nat.le_of_ble_eq_true rfl) dX3_bestOf_32 ⟨Nat.le_of_ble_eq_true rfl, Nat.le_of_ble_eq_true rfl⟩ (fun r34434 hr34434 => ?_)
          refine lv_istore (lv' := [(4, .int r34434), (3, .int r34425), (0, .ref (a 7)), (1, .int x0), (2, .int x1)]) hx hb dX3_bestOf_35 hl (by decide) rfl (fun ls hl => ?_)
          refine lv_iload hx hb dX3_bestOf_37 (lv_at hl 0 rfl) ?_
          refine lv_if_lt (tgt := 45) hx hb dX3_bestOf_39 (by decide) (fun c34435 => ?_) (fun c34435 => ?_)
          · have g34436 : Rg (-1) (-1) r34434 := rg_ltl hr34434.1 (by decide : Rg 0 0 (0 : Int32)) c34435 (by decide)
            refine lv_iload_n hx hb dX3_bestOf_45 rfl (lv_at hl 3 rfl) ?_
            refine lv_iconst (v := 1) hx hb dX3_bestOf_46 (by decide) ?_
            refine lv_iload_n hx hb dX3_bestOf_47 rfl (lv_at hl 1 rfl) ?_
            refine wk_ishl1 (f := 2048) hx hb dX3_bestOf_48 (show Rg 0 11 r34425 from rg_w g34431 (by decide) (by decide)) (by decide) (fun r34437 hr34437 qr34437 => ?_)
            refine lv_iconst (v := (-1)) hx hb dX3_bestOf_49 (by decide) ?_
            refine lv_ixor hx hb dX3_bestOf_50 ?_
            refine wk_topP (P := fun r => r = r34437 ^^^ ((-1) : Int32)) rfl (fun r34438 qr34438 => ?_)
            refine lv_iand hx hb dX3_bestOf_51 ?_
            refine wk_topP (P := fun r => r = x0 &&& r34438) rfl (fun r34439 qr34439 => ?_)
            refine lv_istore (lv' := [(5, .int r34439), (4, .int r34434), (3, .int r34425), (0, .ref (a 7)), (1, .int x0), (2, .int x1)]) hx hb dX3_bestOf_52 hl (by decide) rfl (fun ls hl => ?_)
            refine lv_aload_n hx hb dX3_bestOf_54 rfl (lv_at hl 3 rfl) ?_
            refine va_get (D := D) (ci := 3) (v := .ref (a 1)) (C := RX3) (T := TX3) (N := 4) hx hb hts hin3 hown hK hP 7 rfl rfl 0 (by decide) (hts (.fieldLink RX3 23 "MissedPoints$Pairs" "net" "LMissedPoints$Net;") (by decide +kernel)) (fun _ h9 => h9) rfl dX3_bestOf_55 ?_
            refine va_getN (D := D) (ci := 2) (v := .ref (a 2)) (C := RX2) (T := TX2) (N := 3) hx hb hts hin2 hown hK hP 1 rfl rfl 0 (by decide) (va_Nw.use rfl hKK.2.2.2.2.2.2.2.2.2.2.2.2.1) (fun _ h9 => h9) rfl dX3_bestOf_58 ?_
            refine lv_iload_n hx hb dX3_bestOf_61 rfl (lv_at hl 2 rfl) ?_
            refine wk_aldA hx hb hK hP 2 0 rfl rfl (rg_in g34431 (by decide) (by decide)) dX3_bestOf_62 (fun r34440 => ?_)
            refine lv_iload hx hb dX3_bestOf_63 (lv_at hl 0 rfl) ?_
            refine lv_iand hx hb dX3_bestOf_65 ?_
            refine wk_topP (P := fun r => r = r34440 &&& r34439) rfl (fun r34441 qr34441 => ?_)
            refine lv_istore (lv' := [(6, .int r34441), (5, .int r34439), (4, .int r34434), (3, .int r34425), (0, .ref (a 7)), (1, .int x0), (2, .int x1)]) hx hb dX3_bestOf_66 hl (by decide) rfl (fun ls hl => ?_)
            refine lv_aload_n hx hb dX3_bestOf_68 rfl (lv_at hl 4 rfl) ?_
            refine lv_iload hx hb dX3_bestOf_69 (lv_at hl 1 rfl) ?_
            refine lv_iload_n hx hb dX3_bestOf_71 rfl (lv_at hl 6 rfl) ?_
            refine lv_iconst (v := 1) hx hb dX3_bestOf_72 (by decide) ?_
            refine wk_iadd (e1 := 1) (f := 13) hx hb dX3_bestOf_73 g34433 (by decide : Rg 1 1 (1 : Int32)) (by decide) (fun r34442 hr34442 er34442 qr34442 => ?_)
            refine wk_qi (wX cI cS a na nc N L) u (As := [.int r34439, .int r34442]) (rest := []) ⟨hx, hb, hml, hown, hts⟩ (ih _ u r34439 r34442 ((show Rg 0 13 r34442 from rg_w hr34442 (by decide) (by decide))) (by have z1 := er34442; have z9 : (1 : Int32).toInt = 1 := (by decide); omega)) hKK hP hD hS hA 7 (ci := 3) rfl rfl (cwV 2 hts gX3_bestOf_X3_bestOf rfl rfl rfl (by decide +kernel) ⟨by show n + 1 + 1 ≤ (n + 1) + 1; omega, by show 8 + (11 + 11) + 40 * (n + 1) ≤ 40 * ((n + 1) + 1); omega⟩) rfl hl.1 rfl (Nat.le_of_ble_eq_true rfl) dX3_bestOf_74 ⟨Nat.le_of_ble_eq_true rfl, Nat.le_of_ble_eq_true rfl⟩ (fun r34443 u H locs hr34443 hP hD hS => ?_)
            have g34444 : Rg 0 65548 r34443 := ⟨hr34443.1.1, by have z1 := hr34443.2; have z2 := er34442; have z3 := px1; have z9 : (1 : Int32).toInt = 1 := (by decide); omega⟩
            refine lv_istore (lv' := [(7, .int r34443), (6, .int r34441), (5, .int r34439), (4, .int r34434), (3, .int r34425), (0, .ref (a 7)), (1, .int x0), (2, .int x1)]) hx hb dX3_bestOf_77 hl (by decide) rfl (fun ls hl => ?_)
            refine lv_iload hx hb dX3_bestOf_79 (lv_at hl 0 rfl) ?_
            refine lv_istore (lv' := [(8, .int r34443), (7, .int r34443), (6, .int r34441), (5, .int r34439), (4, .int r34434), (3, .int r34425), (0, .ref (a 7)), (1, .int x0), (2, .int x1)]) hx hb dX3_bestOf_81 hl (by decide) rfl (fun ls hl => ?_)
            refine lv_iconst (v := 2) hx hb dX3_bestOf_83 (by decide) ?_
            refine lv_iload hx hb dX3_bestOf_84 (lv_at hl 1 rfl) ?_
            refine wk_imul (f := 131096) hx hb dX3_bestOf_86 (by decide : Rg 0 2 (2 : Int32)) g34444 (by decide) (fun r34445 hr34445 er34445 qr34445 => ?_)
            refine lv_iconst (v := 2) hx hb dX3_bestOf_87 (by decide) ?_
            refine wk_iadd (e1 := 2) (f := 131098) hx hb dX3_bestOf_88 hr34445 (by decide : Rg 2 2 (2 : Int32)) (by decide) (fun r34446 hr34446 er34446 qr34446 => ?_)
            refine lv_iload_n hx hb dX3_bestOf_89 rfl (lv_at hl 7 rfl) ?_
            refine lz_ss (As := [.int x0]) (rest := [.int r34446]) ⟨hx, hb, hml, hown, hts⟩ (k_J6_bitCount_0f7a4 l D cI cS x0) hKK (hP.sub (ws' := []) [] rfl) (va_cwS 1 hts gX3_bestOf_J6_bitCount_0f7a4 rfl rfl rfl (by decide +kernel) ⟨by show 0 + 1 ≤ (n + 1) + 1; omega, by show 8 + (1 + 11) + 0 ≤ 40 * ((n + 1) + 1); omega⟩) rfl hl.1 rfl (Nat.le_of_ble_eq_true rfl) dX3_bestOf_90 ⟨Nat.le_of_ble_eq_true rfl, Nat.le_of_ble_eq_true rfl⟩ (fun r34447 hr34447 => ?_)
            refine lv_icmp_gt (tgt := 100) hx hb dX3_bestOf_93 (by decide) (fun c34448 => ?_) (fun c34448 => ?_)
            · have g34449 : Rg (-2147483648) 131097 r34447 := rg_ltl hr34447.1 hr34446 c34448 (by decide)
              refine lv_iconst (v := 0) hx hb dX3_bestOf_100 (by decide) ?_
              refine lv_istore (lv' := [(9, .int 0), (8, .int r34443), (7, .int r34443), (6, .int r34441), (5, .int r34439), (4, .int r34434), (3, .int r34425), (0, .ref (a 7)), (1, .int x0), (2, .int x1)]) hx hb dX3_bestOf_101 hl (by decide) rfl (fun ls hl => ?_)
              refine lv_iconst (v := 0) hx hb dX3_bestOf_103 (by decide) ?_
              refine lv_istore (lv' := [(10, .int 0), (9, .int 0), (8, .int r34443), (7, .int r34443), (6, .int r34441), (5, .int r34439), (4, .int r34434), (3, .int r34425), (0, .ref (a 7)), (1, .int x0), (2, .int x1)]) hx hb dX3_bestOf_104 hl (by decide) rfl (fun ls hl => ?_)
              exact lp106 12 r34425 r34439 r34441 r34443 r34443 (0 : Int32) (0 : Int32) u _ _ ls g34433 g34431 g34444 (show Rg 0 65549 r34443 from rg_w g34444 (by decide) (by decide)) (by decide : Rg 0 1 (0 : Int32)) (by decide : Rg 0 11 (0 : Int32)) (by have z1 := hr34443.2; have z2 := er34442; have z9 : (1 : Int32).toInt = 1 := (by decide); exact ⟨by omega, by omega⟩) hP hD hS (lv_sub (l' := [(0, .ref (a 7)), (1, .int x0), (2, .int x1), (3, .int r34425), (5, .int r34439), (6, .int r34441), (7, .int r34443), (8, .int r34443), (9, .int 0), (10, .int 0)]) hl [8, 9, 10, 7, 5, 4, 3, 2, 1, 0] rfl) (me_i (by decide : Rg 0 11 (0 : Int32)) (by decide))
            · have g34450 : Rg 2 2147483647 r34447 := rg_ler hr34446 hr34447.1 (rg_nlt c34448) (by decide)
              refine lv_iconst (v := 1) hx hb dX3_bestOf_96 (by decide) ?_
              refine lv_goto (tgt := 101) hx hb dX3_bestOf_97 (by decide) ?_
              refine lv_istore (lv' := [(9, .int 1), (8, .int r34443), (7, .int r34443), (6, .int r34441), (5, .int r34439), (4, .int r34434), (3, .int r34425), (0, .ref (a 7)), (1, .int x0), (2, .int x1)]) hx hb dX3_bestOf_101 hl (by decide) rfl (fun ls hl => ?_)
              refine lv_iconst (v := 0) hx hb dX3_bestOf_103 (by decide) ?_
              refine lv_istore (lv' := [(10, .int 0), (9, .int 1), (8, .int r34443), (7, .int r34443), (6, .int r34441), (5, .int r34439), (4, .int r34434), (3, .int r34425), (0, .ref (a 7)), (1, .int x0), (2, .int x1)]) hx hb dX3_bestOf_104 hl (by decide) rfl (fun ls hl => ?_)
              exact lp106 12 r34425 r34439 r34441 r34443 r34443 (1 : Int32) (0 : Int32) u _ _ ls g34433 g34431 g34444 (show Rg 0 65549 r34443 from rg_w g34444 (by decide) (by decide)) (by decide : Rg 0 1 (1 : Int32)) (by decide : Rg 0 11 (0 : Int32)) (by have z1 := hr34443.2; have z2 := er34442; have z9 : (1 : Int32).toInt = 1 := (by decide); exact ⟨by omega, by omega⟩) hP hD hS (lv_sub (l' := [(0, .ref (a 7)), (1, .int x0), (2, .int x1), (3, .int r34425), (5, .int r34439), (6, .int r34441), (7, .int r34443), (8, .int r34443), (9, .int 1), (10, .int 0)]) hl [8, 9, 10, 7, 5, 4, 3, 2, 1, 0] rfl) (me_i (by decide : Rg 0 11 (0 : Int32)) (by decide))
          · have g34451 : Rg 0 65535 r34434 := rg_ler (by decide : Rg 0 0 (0 : Int32)) hr34434.1 (rg_nlt c34435) (by decide)
            refine lv_iload hx hb dX3_bestOf_42 (lv_at hl 0 rfl) ?_
            subst hAe
            exact W.iret (v := r34434) hx hb hr (fun t ht hW => ⟨⟨_, u, rfl, ⟨(show Rg 0 65549 r34434 from rg_w g34451 (by decide) (by decide)), (by have z1 := px1; have z2 := g34451; omega)⟩, by rw [ht]; exact hP, hD⟩, hS.F ht⟩) hS.2.2 dX3_bestOf_44
        · have g34452 : Rg 13 13 x1 := rg_ltr (by decide : Rg 12 12 (12 : Int32)) px1 (rg_nle c34432) (by decide)
          refine lv_iconst (v := 0) hx hb dX3_bestOf_25 (by decide) ?_
          subst hAe
          exact W.iret (v := 0) hx hb hr (fun t ht hW => ⟨⟨_, u, rfl, ⟨(by decide : Rg 0 65549 (0 : Int32)), (by have z1 := px1; have z2 : (0 : Int32).toInt = 0 := (by decide); omega)⟩, by rw [ht]; exact hP, hD⟩, hS.F ht⟩) hS.2.2 dX3_bestOf_26
theorem k_X3_bestOf (l : Launch) (D : va_G) (cI cS : ClassId) (sz : Nat) (a : Nat → Nat) (na nc N : Nat) (L u0 : SU) (hL : TyX L) (hN : N = 0 ∨ N = 24576) (x0 x1 : Int32) (px1 : Rg 0 0 x1) : Met l yX3_bestOf wsX3_bestOf ({ frames := 13 + 1, cells := 0, slots := 0, locals := 40 * (13 + 1) }) (PQ D cI cS (wX cI cS a na nc N L u0) sz [.ref (a 7), .int x0, .int x1]) (QF (S := SU) D (wX cI cS a na nc N L u0) (wX cI cS a na nc N L) sz (fun r _ => Rg 0 65549 r ∧ r.toInt ≤ 65549 - x1.toInt)) 0 0 (va_A (wX cI cS a na nc N L u0) sz) := k_X3_bestOf_r l D cI cS a na nc N L hL hN 13 sz u0 x0 x1 (rg_w px1 (by decide) (by decide)) (by have z1 := px1; omega)
