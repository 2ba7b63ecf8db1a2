theorem k_J6_bitCount_0f7a4 (l : Launch) (D : va_G) (cI cS : ClassId) (x0 : Int32) : Met l yJ6_bitCount_0f7a4 wsJ6_bitCount_0f7a4 ({ frames := 0, cells := 0, slots := 0, locals := 0 }) (PS D cI cS [] [.int x0]) (vp_Si (fun r => Rg (-2147483648) 2147483647 r ∧ (x0 = 0 → r = 0))) 0 0 (fun _ => False) :=
  met_si (c_J6_bitCount_0f7a4_1 l D cI cS x0) (fun r hr => ⟨rg_any r, fun h => by rw [hr, h]; decide⟩)
theorem dJ6_lowestOneBit_0f7a4_0 : decode cJ6_lowestOneBit_0f7a4 0 = .ok (.iload_n 0, 1) := by decide +kernel
theorem dJ6_lowestOneBit_0f7a4_1 : decode cJ6_lowestOneBit_0f7a4 1 = .ok (.iload_n 0, 1) := by decide +kernel
theorem dJ6_lowestOneBit_0f7a4_2 : decode cJ6_lowestOneBit_0f7a4 2 = .ok (.ineg, 1) := by decide +kernel
theorem dJ6_lowestOneBit_0f7a4_3 : decode cJ6_lowestOneBit_0f7a4 3 = .ok (.iand, 1) := by decide +kernel
theorem dJ6_lowestOneBit_0f7a4_4 : decode cJ6_lowestOneBit_0f7a4 4 = .ok (.ireturn, 1) := by decide +kernel
set_option maxHeartbeats 4000000 in
set_option maxRecDepth 100000 in
theorem k_J6_lowestOneBit_0f7a4 (l : Launch) (D : va_G) (cI cS : ClassId) (x0 : Int32) : Met l yJ6_lowestOneBit_0f7a4 wsJ6_lowestOneBit_0f7a4 ({ frames := 0, cells := 0, slots := 0, locals := 0 }) (PS D cI cS [] [.int x0]) (vp_Si (fun r => Rg (-2147483648) 2147483647 r ∧ True)) 0 0 (fun _ => False) := by
  refine Met.ofW (cc := cJ6_lowestOneBit_0f7a4) (maxL := 1) (ret := (some .int)) (by decide) rfl ?_
  intro p e s m args below meth c s₁ B hml hv
  obtain ⟨rfl, hP, hKK⟩ := hv
  have hx := B.exec
  have hb := B.bytes
  have hr := B.returns
  have hts := atoms_spec (ws := wsJ6_lowestOneBit_0f7a4) B.pre
  have hown : s.vm.findClass RJ6 = some m.cls := findClass_of_methodNamed B.named
  have hlocks := B.notSynchronized
  have hK := hKK.1
  have hl := lv_entry ([.int x0]) (n := 1) (Nat.le_of_ble_eq_true rfl)
  rw [lg_entry_eq]
  generalize (lg_sl ([.int x0]) ++ List.replicate (1 - (lg_sl ([.int x0])).length) Slot.unset).toArray = ls at hl ⊢
  have hl : lv_has ls 1 [(0, .int x0)] := hl
  refine lv_iload_n hx hb dJ6_lowestOneBit_0f7a4_0 rfl (lv_at hl 0 rfl) ?_
  refine lv_iload_n hx hb dJ6_lowestOneBit_0f7a4_1 rfl (lv_at hl 0 rfl) ?_
  refine lv_ineg hx hb dJ6_lowestOneBit_0f7a4_2 ?_
  refine wk_topP (P := fun r => r = -x0) rfl (fun r19532 qr19532 => ?_)
  refine lv_iand hx hb dJ6_lowestOneBit_0f7a4_3 ?_
  refine wk_topP (P := fun r => r = x0 &&& r19532) rfl (fun r19533 qr19533 => ?_)
  exact W.iret (v := r19533) hx hb hr (fun t ht hW => ⟨_, rfl, ⟨(rg_any r19533), trivial⟩, ht⟩) (fun q hq => absurd hq List.not_mem_nil) dJ6_lowestOneBit_0f7a4_4
theorem dJ6_numberOfTrailingZeros_0f7a4_0 : decode cJ6_numberOfTrailingZeros_0f7a4 0 = .ok (.iload_n 0, 1) := by decide +kernel
theorem dJ6_numberOfTrailingZeros_0f7a4_1 : decode cJ6_numberOfTrailingZeros_0f7a4 1 = .ok (.iconst (-1), 1) := by decide +kernel
theorem dJ6_numberOfTrailingZeros_0f7a4_12 : decode cJ6_numberOfTrailingZeros_0f7a4 12 = .ok (.iload_n 0, 1) := by decide +kernel
theorem dJ6_numberOfTrailingZeros_0f7a4_13 : decode cJ6_numberOfTrailingZeros_0f7a4 13 = .ok (.bipush 32, 2) := by decide +kernel
theorem dJ6_numberOfTrailingZeros_0f7a4_15 : decode cJ6_numberOfTrailingZeros_0f7a4 15 = .ok (.iand, 1) := by decide +kernel
theorem dJ6_numberOfTrailingZeros_0f7a4_16 : decode cJ6_numberOfTrailingZeros_0f7a4 16 = .ok (.ireturn, 1) := by decide +kernel
theorem dJ6_numberOfTrailingZeros_0f7a4_17 : decode cJ6_numberOfTrailingZeros_0f7a4 17 = .ok (.iconst 1, 1) := by decide +kernel
theorem dJ6_numberOfTrailingZeros_0f7a4_18 : decode cJ6_numberOfTrailingZeros_0f7a4 18 = .ok (.istore_n 1, 1) := by decide +kernel
theorem dJ6_numberOfTrailingZeros_0f7a4_19 : decode cJ6_numberOfTrailingZeros_0f7a4 19 = .ok (.iload_n 0, 1) := by decide +kernel
theorem dJ6_numberOfTrailingZeros_0f7a4_2 : decode cJ6_numberOfTrailingZeros_0f7a4 2 = .ok (.ixor, 1) := by decide +kernel
theorem dJ6_numberOfTrailingZeros_0f7a4_20 : decode cJ6_numberOfTrailingZeros_0f7a4 20 = .ok (.ldc_w 264, 3) := by decide +kernel
theorem dJ6_numberOfTrailingZeros_0f7a4_23 : decode cJ6_numberOfTrailingZeros_0f7a4 23 = .ok (.if_icmp .le 11, 3) := by decide +kernel
theorem dJ6_numberOfTrailingZeros_0f7a4_26 : decode cJ6_numberOfTrailingZeros_0f7a4 26 = .ok (.iinc 1 16, 3) := by decide +kernel
theorem dJ6_numberOfTrailingZeros_0f7a4_29 : decode cJ6_numberOfTrailingZeros_0f7a4 29 = .ok (.iload_n 0, 1) := by decide +kernel
theorem dJ6_numberOfTrailingZeros_0f7a4_3 : decode cJ6_numberOfTrailingZeros_0f7a4 3 = .ok (.iload_n 0, 1) := by decide +kernel
theorem dJ6_numberOfTrailingZeros_0f7a4_30 : decode cJ6_numberOfTrailingZeros_0f7a4 30 = .ok (.bipush 16, 2) := by decide +kernel
theorem dJ6_numberOfTrailingZeros_0f7a4_32 : decode cJ6_numberOfTrailingZeros_0f7a4 32 = .ok (.iushr, 1) := by decide +kernel
theorem dJ6_numberOfTrailingZeros_0f7a4_33 : decode cJ6_numberOfTrailingZeros_0f7a4 33 = .ok (.istore_n 0, 1) := by decide +kernel
theorem dJ6_numberOfTrailingZeros_0f7a4_34 : decode cJ6_numberOfTrailingZeros_0f7a4 34 = .ok (.iload_n 0, 1) := by decide +kernel
theorem dJ6_numberOfTrailingZeros_0f7a4_35 : decode cJ6_numberOfTrailingZeros_0f7a4 35 = .ok (.sipush 256, 3) := by decide +kernel
theorem dJ6_numberOfTrailingZeros_0f7a4_38 : decode cJ6_numberOfTrailingZeros_0f7a4 38 = .ok (.if_icmp .le 11, 3) := by decide +kernel
theorem dJ6_numberOfTrailingZeros_0f7a4_4 : decode cJ6_numberOfTrailingZeros_0f7a4 4 = .ok (.iconst 1, 1) := by decide +kernel
theorem dJ6_numberOfTrailingZeros_0f7a4_41 : decode cJ6_numberOfTrailingZeros_0f7a4 41 = .ok (.iinc 1 8, 3) := by decide +kernel
theorem dJ6_numberOfTrailingZeros_0f7a4_44 : decode cJ6_numberOfTrailingZeros_0f7a4 44 = .ok (.iload_n 0, 1) := by decide +kernel
theorem dJ6_numberOfTrailingZeros_0f7a4_45 : decode cJ6_numberOfTrailingZeros_0f7a4 45 = .ok (.bipush 8, 2) := by decide +kernel
theorem dJ6_numberOfTrailingZeros_0f7a4_47 : decode cJ6_numberOfTrailingZeros_0f7a4 47 = .ok (.iushr, 1) := by decide +kernel
theorem dJ6_numberOfTrailingZeros_0f7a4_48 : decode cJ6_numberOfTrailingZeros_0f7a4 48 = .ok (.istore_n 0, 1) := by decide +kernel
theorem dJ6_numberOfTrailingZeros_0f7a4_49 : decode cJ6_numberOfTrailingZeros_0f7a4 49 = .ok (.iload_n 0, 1) := by decide +kernel
theorem dJ6_numberOfTrailingZeros_0f7a4_5 : decode cJ6_numberOfTrailingZeros_0f7a4 5 = .ok (.isub, 1) := by decide +kernel
theorem dJ6_numberOfTrailingZeros_0f7a4_50 : decode cJ6_numberOfTrailingZeros_0f7a4 50 = .ok (.bipush 16, 2) := by decide +kernel
theorem dJ6_numberOfTrailingZeros_0f7a4_52 : decode cJ6_numberOfTrailingZeros_0f7a4 52 = .ok (.if_icmp .le 10, 3) := by decide +kernel
theorem dJ6_numberOfTrailingZeros_0f7a4_55 : decode cJ6_numberOfTrailingZeros_0f7a4 55 = .ok (.iinc 1 4, 3) := by decide +kernel
theorem dJ6_numberOfTrailingZeros_0f7a4_58 : decode cJ6_numberOfTrailingZeros_0f7a4 58 = .ok (.iload_n 0, 1) := by decide +kernel
theorem dJ6_numberOfTrailingZeros_0f7a4_59 : decode cJ6_numberOfTrailingZeros_0f7a4 59 = .ok (.iconst 4, 1) := by decide +kernel
theorem dJ6_numberOfTrailingZeros_0f7a4_6 : decode cJ6_numberOfTrailingZeros_0f7a4 6 = .ok (.iand, 1) := by decide +kernel
theorem dJ6_numberOfTrailingZeros_0f7a4_60 : decode cJ6_numberOfTrailingZeros_0f7a4 60 = .ok (.iushr, 1) := by decide +kernel
theorem dJ6_numberOfTrailingZeros_0f7a4_61 : decode cJ6_numberOfTrailingZeros_0f7a4 61 = .ok (.istore_n 0, 1) := by decide +kernel
theorem dJ6_numberOfTrailingZeros_0f7a4_62 : decode cJ6_numberOfTrailingZeros_0f7a4 62 = .ok (.iload_n 0, 1) := by decide +kernel
theorem dJ6_numberOfTrailingZeros_0f7a4_63 : decode cJ6_numberOfTrailingZeros_0f7a4 63 = .ok (.iconst 4, 1) := by decide +kernel
theorem dJ6_numberOfTrailingZeros_0f7a4_64 : decode cJ6_numberOfTrailingZeros_0f7a4 64 = .ok (.if_icmp .le 10, 3) := by decide +kernel
theorem dJ6_numberOfTrailingZeros_0f7a4_67 : decode cJ6_numberOfTrailingZeros_0f7a4 67 = .ok (.iinc 1 2, 3) := by decide +kernel
theorem dJ6_numberOfTrailingZeros_0f7a4_7 : decode cJ6_numberOfTrailingZeros_0f7a4 7 = .ok (.istore_n 0, 1) := by decide +kernel
theorem dJ6_numberOfTrailingZeros_0f7a4_70 : decode cJ6_numberOfTrailingZeros_0f7a4 70 = .ok (.iload_n 0, 1) := by decide +kernel
theorem dJ6_numberOfTrailingZeros_0f7a4_71 : decode cJ6_numberOfTrailingZeros_0f7a4 71 = .ok (.iconst 2, 1) := by decide +kernel
theorem dJ6_numberOfTrailingZeros_0f7a4_72 : decode cJ6_numberOfTrailingZeros_0f7a4 72 = .ok (.iushr, 1) := by decide +kernel
theorem dJ6_numberOfTrailingZeros_0f7a4_73 : decode cJ6_numberOfTrailingZeros_0f7a4 73 = .ok (.istore_n 0, 1) := by decide +kernel
theorem dJ6_numberOfTrailingZeros_0f7a4_74 : decode cJ6_numberOfTrailingZeros_0f7a4 74 = .ok (.iload_n 1, 1) := by decide +kernel
theorem dJ6_numberOfTrailingZeros_0f7a4_75 : decode cJ6_numberOfTrailingZeros_0f7a4 75 = .ok (.iload_n 0, 1) := by decide +kernel
theorem dJ6_numberOfTrailingZeros_0f7a4_76 : decode cJ6_numberOfTrailingZeros_0f7a4 76 = .ok (.iconst 1, 1) := by decide +kernel
theorem dJ6_numberOfTrailingZeros_0f7a4_77 : decode cJ6_numberOfTrailingZeros_0f7a4 77 = .ok (.iushr, 1) := by decide +kernel
theorem dJ6_numberOfTrailingZeros_0f7a4_78 : decode cJ6_numberOfTrailingZeros_0f7a4 78 = .ok (.iadd, 1) := by decide +kernel
theorem dJ6_numberOfTrailingZeros_0f7a4_79 : decode cJ6_numberOfTrailingZeros_0f7a4 79 = .ok (.ireturn, 1) := by decide +kernel
theorem dJ6_numberOfTrailingZeros_0f7a4_8 : decode cJ6_numberOfTrailingZeros_0f7a4 8 = .ok (.iload_n 0, 1) := by decide +kernel
theorem dJ6_numberOfTrailingZeros_0f7a4_9 : decode cJ6_numberOfTrailingZeros_0f7a4 9 = .ok (.ifCond .gt 8, 3) := by decide +kernel
set_option maxHeartbeats 4000000 in
set_option maxRecDepth 100000 in
theorem k_J6_numberOfTrailingZeros_0f7a4 (l : Launch) (D : va_G) (cI cS : ClassId) (x0 : Int32) : Met l yJ6_numberOfTrailingZeros_0f7a4 wsJ6_numberOfTrailingZeros_0f7a4 ({ frames := 0, cells := 0, slots := 0, locals := 0 }) (PS D cI cS [] [.int x0]) (vp_Si (fun r => Rg 0 33 r ∧ True)) 0 0 (fun _ => False) := by
  refine Met.ofW (cc := cJ6_numberOfTrailingZeros_0f7a4) (maxL := 2) (ret := (some .int)) (by decide) rfl ?_
  intro p e s m args below meth c s₁ B hml hv
  obtain ⟨rfl, hP, hKK⟩ := hv
  have hx := B.exec
  have hb := B.bytes
  have hr := B.returns
  have hts := atoms_spec (ws := wsJ6_numberOfTrailingZeros_0f7a4) B.pre
  have hown : s.vm.findClass RJ6 = some m.cls := findClass_of_methodNamed B.named
  have hlocks := B.notSynchronized
  have hK := hKK.1
  have hl := lv_entry ([.int x0]) (n := 2) (Nat.le_of_ble_eq_true rfl)
  rw [lg_entry_eq]
  generalize (lg_sl ([.int x0]) ++ List.replicate (2 - (lg_sl ([.int x0])).length) Slot.unset).toArray = ls at hl ⊢
  have hl : lv_has ls 2 [(0, .int x0)] := hl
  have ct62 : ∀ (y62_l0 y62_l1 : Int32) (ls : Array Slot), Rg 1 16 y62_l0 → Rg 1 29 y62_l1 → lv_has ls 2 [(0, .int y62_l0), (1, .int y62_l1)] → W p l e (headSpec wsJ6_numberOfTrailingZeros_0f7a4 ({ frames := 0, cells := 0, slots := 0, locals := 0 })).room s m ([.int x0]).toArray below meth c s.heap [] 0 0 (MQ below (vp_Si (fun r => Rg 0 33 r ∧ True)) ([.int x0]).toArray s 0 0 (fun _ => False)) (F0 m 62 ls []) := by
    intro y62_l0 y62_l1 ls g62_l0 g62_l1 hl
    refine lv_iload_n hx hb dJ6_numberOfTrailingZeros_0f7a4_62 rfl (lv_at hl 0 rfl) ?_
    refine lv_iconst (v := 4) hx hb dJ6_numberOfTrailingZeros_0f7a4_63 (by decide) ?_
    refine lv_icmp_le (tgt := 74) hx hb dJ6_numberOfTrailingZeros_0f7a4_64 (by decide) (fun c19597 => ?_) (fun c19597 => ?_)
    · have g19598 : Rg 1 4 y62_l0 := rg_lel g62_l0 (by decide : Rg 4 4 (4 : Int32)) c19597 (by decide)
      refine lv_iload_n hx hb dJ6_numberOfTrailingZeros_0f7a4_74 rfl (lv_at hl 1 rfl) ?_
      refine lv_iload_n hx hb dJ6_numberOfTrailingZeros_0f7a4_75 rfl (lv_at hl 0 rfl) ?_
      refine lv_iconst (v := 1) hx hb dJ6_numberOfTrailingZeros_0f7a4_76 (by decide) ?_
      refine wk_iushr 1 (e1 := 0) (f := 2) hx hb dJ6_numberOfTrailingZeros_0f7a4_77 g19598 (by decide) (by decide) (fun r19599 hr19599 => ?_)
      refine wk_iadd (e1 := 1) (f := 31) hx hb dJ6_numberOfTrailingZeros_0f7a4_78 g62_l1 hr19599 (by decide) (fun r19600 hr19600 er19600 qr19600 => ?_)
      exact W.iret (v := r19600) hx hb hr (fun t ht hW => ⟨_, rfl, ⟨(show Rg 0 33 r19600 from rg_w hr19600 (by decide) (by decide)), trivial⟩, ht⟩) (fun q hq => absurd hq List.not_mem_nil) dJ6_numberOfTrailingZeros_0f7a4_79
    · have g19601 : Rg 5 16 y62_l0 := rg_ltr (by decide : Rg 4 4 (4 : Int32)) g62_l0 (rg_nle c19597) (by decide)
      refine wk_iinc (lv' := fun r => [(1, .int r), (0, .int y62_l0)]) (e1 := 3) (f := 31) hx hb dJ6_numberOfTrailingZeros_0f7a4_67 hl (k := 1) rfl (by decide) g62_l1 (by decide) (fun _ => rfl) (fun r19602 ls hr19602 er19602 hl => ?_)
      refine lv_iload_n hx hb dJ6_numberOfTrailingZeros_0f7a4_70 rfl (lv_at hl 1 rfl) ?_
      refine lv_iconst (v := 2) hx hb dJ6_numberOfTrailingZeros_0f7a4_71 (by decide) ?_
      refine wk_iushr 2 (e1 := 1) (f := 4) hx hb dJ6_numberOfTrailingZeros_0f7a4_72 g19601 (by decide) (by decide) (fun r19603 hr19603 => ?_)
      refine lv_istore_n (lv' := [(0, .int r19603), (1, .int r19602)]) hx hb dJ6_numberOfTrailingZeros_0f7a4_73 rfl hl (by decide) rfl (fun ls hl => ?_)
      refine lv_iload_n hx hb dJ6_numberOfTrailingZeros_0f7a4_74 rfl (lv_at hl 1 rfl) ?_
      refine lv_iload_n hx hb dJ6_numberOfTrailingZeros_0f7a4_75 rfl (lv_at hl 0 rfl) ?_
      refine lv_iconst (v := 1) hx hb dJ6_numberOfTrailingZeros_0f7a4_76 (by decide) ?_
      refine wk_iushr 1 (e1 := 0) (f := 2) hx hb dJ6_numberOfTrailingZeros_0f7a4_77 hr19603 (by decide) (by decide) (fun r19604 hr19604 => ?_)
      refine wk_iadd (e1 := 3) (f := 33) hx hb dJ6_numberOfTrailingZeros_0f7a4_78 hr19602 hr19604 (by decide) (fun r19605 hr19605 er19605 qr19605 => ?_)
      exact W.iret (v := r19605) hx hb hr (fun t ht hW => ⟨_, rfl, ⟨(show Rg 0 33 r19605 from rg_w hr19605 (by decide) (by decide)), trivial⟩, ht⟩) (fun q hq => absurd hq List.not_mem_nil) dJ6_numberOfTrailingZeros_0f7a4_79
  have ct34 : ∀ (y34_l0 y34_l1 : Int32) (ls : Array Slot), Rg 1 65536 y34_l0 → Rg 1 17 y34_l1 → lv_has ls 2 [(0, .int y34_l0), (1, .int y34_l1)] → W p l e (headSpec wsJ6_numberOfTrailingZeros_0f7a4 ({ frames := 0, cells := 0, slots := 0, locals := 0 })).room s m ([.int x0]).toArray below meth c s.heap [] 0 0 (MQ below (vp_Si (fun r => Rg 0 33 r ∧ True)) ([.int x0]).toArray s 0 0 (fun _ => False)) (F0 m 34 ls []) := by
    intro y34_l0 y34_l1 ls g34_l0 g34_l1 hl
    refine lv_iload_n hx hb dJ6_numberOfTrailingZeros_0f7a4_34 rfl (lv_at hl 0 rfl) ?_
    refine lv_sipush (v := 256) hx hb dJ6_numberOfTrailingZeros_0f7a4_35 (by decide) ?_
    refine lv_icmp_le (tgt := 49) hx hb dJ6_numberOfTrailingZeros_0f7a4_38 (by decide) (fun c19606 => ?_) (fun c19606 => ?_)
    · have g19607 : Rg 1 256 y34_l0 := rg_lel g34_l0 (by decide : Rg 256 256 (256 : Int32)) c19606 (by decide)
      refine lv_iload_n hx hb dJ6_numberOfTrailingZeros_0f7a4_49 rfl (lv_at hl 0 rfl) ?_
      refine lv_bipush (v := 16) hx hb dJ6_numberOfTrailingZeros_0f7a4_50 (by decide) ?_
      refine lv_icmp_le (tgt := 62) hx hb dJ6_numberOfTrailingZeros_0f7a4_52 (by decide) (fun c19608 => ?_) (fun c19608 => ?_)
      · have g19609 : Rg 1 16 y34_l0 := rg_lel g19607 (by decide : Rg 16 16 (16 : Int32)) c19608 (by decide)
        exact ct62 y34_l0 y34_l1 ls g19609 (show Rg 1 29 y34_l1 from rg_w g34_l1 (by decide) (by decide)) (lv_sub (l' := [(0, .int y34_l0), (1, .int y34_l1)]) hl [0, 1] rfl)
      · have g19610 : Rg 17 256 y34_l0 := rg_ltr (by decide : Rg 16 16 (16 : Int32)) g19607 (rg_nle c19608) (by decide)
        refine wk_iinc (lv' := fun r => [(1, .int r), (0, .int y34_l0)]) (e1 := 5) (f := 21) hx hb dJ6_numberOfTrailingZeros_0f7a4_55 hl (k := 1) rfl (by decide) g34_l1 (by decide) (fun _ => rfl) (fun r19611 ls hr19611 er19611 hl => ?_)
        refine lv_iload_n hx hb dJ6_numberOfTrailingZeros_0f7a4_58 rfl (lv_at hl 1 rfl) ?_
        refine lv_iconst (v := 4) hx hb dJ6_numberOfTrailingZeros_0f7a4_59 (by decide) ?_
        refine wk_iushr 4 (e1 := 1) (f := 16) hx hb dJ6_numberOfTrailingZeros_0f7a4_60 g19610 (by decide) (by decide) (fun r19612 hr19612 => ?_)
        refine lv_istore_n (lv' := [(0, .int r19612), (1, .int r19611)]) hx hb dJ6_numberOfTrailingZeros_0f7a4_61 rfl hl (by decide) rfl (fun ls hl => ?_)
        exact ct62 r19612 r19611 ls hr19612 (show Rg 1 29 r19611 from rg_w hr19611 (by decide) (by decide)) (lv_sub (l' := [(0, .int r19612), (1, .int r19611)]) hl [0, 1] rfl)
    · have g19613 : Rg 257 65536 y34_l0 := rg_ltr (by decide : Rg 256 256 (256 : Int32)) g34_l0 (rg_nle c19606) (by decide)
      refine wk_iinc (lv' := fun r => [(1, .int r), (0, .int y34_l0)]) (e1 := 9) (f := 25) hx hb dJ6_numberOfTrailingZeros_0f7a4_41 hl (k := 1) rfl (by decide) g34_l1 (by decide) (fun _ => rfl) (fun r19614 ls hr19614 er19614 hl => ?_)
      refine lv_iload_n hx hb dJ6_numberOfTrailingZeros_0f7a4_44 rfl (lv_at hl 1 rfl) ?_
      refine lv_bipush (v := 8) hx hb dJ6_numberOfTrailingZeros_0f7a4_45 (by decide) ?_
      refine wk_iushr 8 (e1 := 1) (f := 256) hx hb dJ6_numberOfTrailingZeros_0f7a4_47 g19613 (by decide) (by decide) (fun r19615 hr19615 => ?_)
      refine lv_istore_n (lv' := [(0, .int r19615), (1, .int r19614)]) hx hb dJ6_numberOfTrailingZeros_0f7a4_48 rfl hl (by decide) rfl (fun ls hl => ?_)
      refine lv_iload_n hx hb dJ6_numberOfTrailingZeros_0f7a4_49 rfl (lv_at hl 0 rfl) ?_
      refine lv_bipush (v := 16) hx hb dJ6_numberOfTrailingZeros_0f7a4_50 (by decide) ?_
      refine lv_icmp_le (tgt := 62) hx hb dJ6_numberOfTrailingZeros_0f7a4_52 (by decide) (fun c19616 => ?_) (fun c19616 => ?_)
      · have g19617 : Rg 1 16 r19615 := rg_lel hr19615 (by decide : Rg 16 16 (16 : Int32)) c19616 (by decide)
        exact ct62 r19615 r19614 ls g19617 (show Rg 1 29 r19614 from rg_w hr19614 (by decide) (by decide)) (lv_sub (l' := [(0, .int r19615), (1, .int r19614)]) hl [0, 1] rfl)
      · have g19618 : Rg 17 256 r19615 := rg_ltr (by decide : Rg 16 16 (16 : Int32)) hr19615 (rg_nle c19616) (by decide)
        refine wk_iinc (lv' := fun r => [(1, .int r), (0, .int r19615)]) (e1 := 13) (f := 29) hx hb dJ6_numberOfTrailingZeros_0f7a4_55 hl (k := 1) rfl (by decide) hr19614 (by decide) (fun _ => rfl) (fun r19619 ls hr19619 er19619 hl => ?_)
        refine lv_iload_n hx hb dJ6_numberOfTrailingZeros_0f7a4_58 rfl (lv_at hl 1 rfl) ?_
        refine lv_iconst (v := 4) hx hb dJ6_numberOfTrailingZeros_0f7a4_59 (by decide) ?_
        refine wk_iushr 4 (e1 := 1) (f := 16) hx hb dJ6_numberOfTrailingZeros_0f7a4_60 g19618 (by decide) (by decide) (fun r19620 hr19620 => ?_)
        refine lv_istore_n (lv' := [(0, .int r19620), (1, .int r19619)]) hx hb dJ6_numberOfTrailingZeros_0f7a4_61 rfl hl (by decide) rfl (fun ls hl => ?_)
        exact ct62 r19620 r19619 ls hr19620 (show Rg 1 29 r19619 from rg_w hr19619 (by decide) (by decide)) (lv_sub (l' := [(0, .int r19620), (1, .int r19619)]) hl [0, 1] rfl)
  refine lv_iload_n hx hb dJ6_numberOfTrailingZeros_0f7a4_0 rfl (lv_at hl 0 rfl) ?_
  refine lv_iconst (v := (-1)) hx hb dJ6_numberOfTrailingZeros_0f7a4_1 (by decide) ?_
  refine lv_ixor hx hb dJ6_numberOfTrailingZeros_0f7a4_2 ?_
  refine wk_topP (P := fun r => r = x0 ^^^ ((-1) : Int32)) rfl (fun r19621 qr19621 => ?_)
  refine lv_iload_n hx hb dJ6_numberOfTrailingZeros_0f7a4_3 rfl (lv_at hl 0 rfl) ?_
  refine lv_iconst (v := 1) hx hb dJ6_numberOfTrailingZeros_0f7a4_4 (by decide) ?_
  refine lv_isub hx hb dJ6_numberOfTrailingZeros_0f7a4_5 ?_
  refine wk_topP (P := fun r => r = x0 - (1 : Int32)) rfl (fun r19622 qr19622 => ?_)
  refine lv_iand hx hb dJ6_numberOfTrailingZeros_0f7a4_6 ?_
  refine wk_topP (P := fun r => r = r19621 &&& r19622) rfl (fun r19623 qr19623 => ?_)
  refine lv_istore_n (lv' := [(0, .int r19623)]) hx hb dJ6_numberOfTrailingZeros_0f7a4_7 rfl hl (by decide) rfl (fun ls hl => ?_)
  refine lv_iload_n hx hb dJ6_numberOfTrailingZeros_0f7a4_8 rfl (lv_at hl 0 rfl) ?_
  refine lv_if_gt (tgt := 17) hx hb dJ6_numberOfTrailingZeros_0f7a4_9 (by decide) (fun c19624 => ?_) (fun c19624 => ?_)
  · have g19625 : Rg 1 2147483647 r19623 := rg_ltr (by decide : Rg 0 0 (0 : Int32)) (rg_any r19623) c19624 (by decide)
    refine lv_iconst (v := 1) hx hb dJ6_numberOfTrailingZeros_0f7a4_17 (by decide) ?_
    refine lv_istore_n (lv' := [(1, .int 1), (0, .int r19623)]) hx hb dJ6_numberOfTrailingZeros_0f7a4_18 rfl hl (by decide) rfl (fun ls hl => ?_)
    refine lv_iload_n hx hb dJ6_numberOfTrailingZeros_0f7a4_19 rfl (lv_at hl 1 rfl) ?_
    refine lv_ldcw hx hb hown (hts (.constant RJ6 264 (65536)) (by decide +kernel)) dJ6_numberOfTrailingZeros_0f7a4_20 ?_
    refine lv_icmp_le (tgt := 34) hx hb dJ6_numberOfTrailingZeros_0f7a4_23 (by decide) (fun c19626 => ?_) (fun c19626 => ?_)
    · have g19627 : Rg 1 65536 r19623 := rg_lel g19625 (by decide : Rg 65536 65536 (65536 : Int32)) c19626 (by decide)
      exact ct34 r19623 (1 : Int32) ls g19627 (by decide : Rg 1 17 (1 : Int32)) (lv_sub (l' := [(0, .int r19623), (1, .int 1)]) hl [1, 0] rfl)
    · have g19628 : Rg 65537 2147483647 r19623 := rg_ltr (by decide : Rg 65536 65536 (65536 : Int32)) g19625 (rg_nle c19626) (by decide)
      refine wk_iinc (lv' := fun r => [(1, .int r), (0, .int r19623)]) (e1 := 17) (f := 17) hx hb dJ6_numberOfTrailingZeros_0f7a4_26 hl (k := 0) rfl (by decide) (by decide : Rg 1 1 (1 : Int32)) (by decide) (fun _ => rfl) (fun r19629 ls hr19629 er19629 hl => ?_)
      refine lv_iload_n hx hb dJ6_numberOfTrailingZeros_0f7a4_29 rfl (lv_at hl 1 rfl) ?_
      refine lv_bipush (v := 16) hx hb dJ6_numberOfTrailingZeros_0f7a4_30 (by decide) ?_
      refine wk_iushr 16 (e1 := 1) (f := 32767) hx hb dJ6_numberOfTrailingZeros_0f7a4_32 g19628 (by decide) (by decide) (fun r19630 hr19630 => ?_)
      refine lv_istore_n (lv' := [(0, .int r19630), (1, .int r19629)]) hx hb dJ6_numberOfTrailingZeros_0f7a4_33 rfl hl (by decide) rfl (fun ls hl => ?_)
      exact ct34 r19630 r19629 ls (show Rg 1 65536 r19630 from rg_w hr19630 (by decide) (by decide)) (show Rg 1 17 r19629 from rg_w hr19629 (by decide) (by decide)) (lv_sub (l' := [(0, .int r19630), (1, .int r19629)]) hl [0, 1] rfl)
  · have g19631 : Rg (-2147483648) 0 r19623 := rg_lel (rg_any r19623) (by decide : Rg 0 0 (0 : Int32)) (rg_nlt c19624) (by decide)
    refine lv_iload_n hx hb dJ6_numberOfTrailingZeros_0f7a4_12 rfl (lv_at hl 0 rfl) ?_
    refine lv_bipush (v := 32) hx hb dJ6_numberOfTrailingZeros_0f7a4_13 (by decide) ?_
    refine wk_iandr hx hb dJ6_numberOfTrailingZeros_0f7a4_15 (by decide : Rg 32 32 (32 : Int32)) (by decide) (fun r19632 hr19632 qr19632 => ?_)
    exact W.iret (v := r19632) hx hb hr (fun t ht hW => ⟨_, rfl, ⟨(show Rg 0 33 r19632 from rg_w hr19632 (by decide) (by decide)), trivial⟩, ht⟩) (fun q hq => absurd hq List.not_mem_nil) dJ6_numberOfTrailingZeros_0f7a4_16
set_option maxHeartbeats 4000000 in
set_option maxRecDepth 100000 in
theorem k_J6_numberOfLeadingZeros_0f7a4 (l : Launch) (D : va_G) (cI cS : ClassId) (x0 : Int32) : Met l yJ6_numberOfLeadingZeros_0f7a4 wsJ6_numberOfLeadingZeros_0f7a4 ({ frames := 0, cells := 0, slots := 0, locals := 0 }) (PS D cI cS [] [.int x0]) (vp_Si (fun r => Rg 0 32 r ∧ (¬ x0 = 0 → Rg 0 31 r))) 0 0 (fun _ => False) := by
  refine Met.ofW (cc := cJ6_numberOfLeadingZeros_0f7a4) (maxL := 2) (ret := (some .int)) (by decide) rfl ?_
  intro p e s m args below meth c s₁ B hml hv
  obtain ⟨rfl, hP, hKK⟩ := hv
  have hx := B.exec
  have hb := B.bytes
  have hr := B.returns
  have hts := atoms_spec (ws := wsJ6_numberOfLeadingZeros_0f7a4) B.pre
  have hown : s.vm.findClass RJ6 = some m.cls := findClass_of_methodNamed B.named
  have hlocks := B.notSynchronized
  have hK := hKK.1
  have hl := lv_entry ([.int x0]) (n := 2) (Nat.le_of_ble_eq_true rfl)
  rw [lg_entry_eq]
  generalize (lg_sl ([.int x0]) ++ List.replicate (2 - (lg_sl ([.int x0])).length) Slot.unset).toArray = ls at hl ⊢
  have hl : lv_has ls 2 [(0, .int x0)] := hl
  have ct61 : ∀ (y61_l0 y61_l1 : Int32) (ls : Array Slot), Rg 1 15 y61_l0 → Rg 3 31 y61_l1 → lv_has ls 2 [(0, .int y61_l0), (1, .int y61_l1)] → W p l e (headSpec wsJ6_numberOfLeadingZeros_0f7a4 ({ frames := 0, cells := 0, slots := 0, locals := 0 })).room s m ([.int x0]).toArray below meth c s.heap [] 0 0 (MQ below (vp_Si (fun r => Rg 0 32 r ∧ (¬ x0 = 0 → Rg 0 31 r))) ([.int x0]).toArray s 0 0 (fun _ => False)) (F0 m 61 ls []) := by
    intro y61_l0 y61_l1 ls g61_l0 g61_l1 hl
    refine lv_iload_n hx hb dJ6_numberOfLeadingZeros_0f7a4_61 rfl (lv_at hl 0 rfl) ?_
    refine lv_iconst (v := 4) hx hb dJ6_numberOfLeadingZeros_0f7a4_62 (by decide) ?_
    refine lv_icmp_lt (tgt := 73) hx hb dJ6_numberOfLeadingZeros_0f7a4_63 (by decide) (fun c19694 => ?_) (fun c19694 => ?_)
    · have g19695 : Rg 1 3 y61_l0 := rg_ltl g61_l0 (by decide : Rg 4 4 (4 : Int32)) c19694 (by decide)
      refine lv_iload_n hx hb dJ6_numberOfLeadingZeros_0f7a4_73 rfl (lv_at hl 1 rfl) ?_
      refine lv_iload_n hx hb dJ6_numberOfLeadingZeros_0f7a4_74 rfl (lv_at hl 0 rfl) ?_
      refine lv_iconst (v := 1) hx hb dJ6_numberOfLeadingZeros_0f7a4_75 (by decide) ?_
      refine wk_iushr 1 (e1 := 0) (f := 1) hx hb dJ6_numberOfLeadingZeros_0f7a4_76 g19695 (by decide) (by decide) (fun r19696 hr19696 => ?_)
      refine wk_isub (e1 := 2) (f := 31) hx hb dJ6_numberOfLeadingZeros_0f7a4_77 g61_l1 hr19696 (by decide) (fun r19697 hr19697 er19697 qr19697 => ?_)
      exact W.iret (v := r19697) hx hb hr (fun t ht hW => ⟨_, rfl, ⟨(show Rg 0 32 r19697 from rg_w hr19697 (by decide) (by decide)), fun _ => (show Rg 0 31 r19697 from rg_w hr19697 (by decide) (by decide))⟩, ht⟩) (fun q hq => absurd hq List.not_mem_nil) dJ6_numberOfLeadingZeros_0f7a4_78
    · have g19698 : Rg 4 15 y61_l0 := rg_ler (by decide : Rg 4 4 (4 : Int32)) g61_l0 (rg_nlt c19694) (by decide)
      refine wk_iinc (lv' := fun r => [(1, .int r), (0, .int y61_l0)]) (e1 := 1) (f := 29) hx hb dJ6_numberOfLeadingZeros_0f7a4_66 hl (k := 1) rfl (by decide) g61_l1 (by decide) (fun _ => rfl) (fun r19699 ls hr19699 er19699 hl => ?_)
      refine lv_iload_n hx hb dJ6_numberOfLeadingZeros_0f7a4_69 rfl (lv_at hl 1 rfl) ?_
      refine lv_iconst (v := 2) hx hb dJ6_numberOfLeadingZeros_0f7a4_70 (by decide) ?_
      refine wk_iushr 2 (e1 := 1) (f := 3) hx hb dJ6_numberOfLeadingZeros_0f7a4_71 g19698 (by decide) (by decide) (fun r19700 hr19700 => ?_)
      refine lv_istore_n (lv' := [(0, .int r19700), (1, .int r19699)]) hx hb dJ6_numberOfLeadingZeros_0f7a4_72 rfl hl (by decide) rfl (fun ls hl => ?_)
      refine lv_iload_n hx hb dJ6_numberOfLeadingZeros_0f7a4_73 rfl (lv_at hl 1 rfl) ?_
      refine lv_iload_n hx hb dJ6_numberOfLeadingZeros_0f7a4_74 rfl (lv_at hl 0 rfl) ?_
      refine lv_iconst (v := 1) hx hb dJ6_numberOfLeadingZeros_0f7a4_75 (by decide) ?_
      refine wk_iushr 1 (e1 := 0) (f := 1) hx hb dJ6_numberOfLeadingZeros_0f7a4_76 hr19700 (by decide) (by decide) (fun r19701 hr19701 => ?_)
      refine wk_isub (e1 := 0) (f := 29) hx hb dJ6_numberOfLeadingZeros_0f7a4_77 hr19699 hr19701 (by decide) (fun r19702 hr19702 er19702 qr19702 => ?_)
      exact W.iret (v := r19702) hx hb hr (fun t ht hW => ⟨_, rfl, ⟨(show Rg 0 32 r19702 from rg_w hr19702 (by decide) (by decide)), fun _ => (show Rg 0 31 r19702 from rg_w hr19702 (by decide) (by decide))⟩, ht⟩) (fun q hq => absurd hq List.not_mem_nil) dJ6_numberOfLeadingZeros_0f7a4_78
  have ct33 : ∀ (y33_l0 y33_l1 : Int32) (ls : Array Slot), Rg 1 65535 y33_l0 → Rg 15 31 y33_l1 → lv_has ls 2 [(0, .int y33_l0), (1, .int y33_l1)] → W p l e (headSpec wsJ6_numberOfLeadingZeros_0f7a4 ({ frames := 0, cells := 0, slots := 0, locals := 0 })).room s m ([.int x0]).toArray below meth c s.heap [] 0 0 (MQ below (vp_Si (fun r => Rg 0 32 r ∧ (¬ x0 = 0 → Rg 0 31 r))) ([.int x0]).toArray s 0 0 (fun _ => False)) (F0 m 33 ls []) := by
    intro y33_l0 y33_l1 ls g33_l0 g33_l1 hl
    refine lv_iload_n hx hb dJ6_numberOfLeadingZeros_0f7a4_33 rfl (lv_at hl 0 rfl) ?_
    refine lv_sipush (v := 256) hx hb dJ6_numberOfLeadingZeros_0f7a4_34 (by decide) ?_
    refine lv_icmp_lt (tgt := 48) hx hb dJ6_numberOfLeadingZeros_0f7a4_37 (by decide) (fun c19703 => ?_) (fun c19703 => ?_)
    · have g19704 : Rg 1 255 y33_l0 := rg_ltl g33_l0 (by decide : Rg 256 256 (256 : Int32)) c19703 (by decide)
      refine lv_iload_n hx hb dJ6_numberOfLeadingZeros_0f7a4_48 rfl (lv_at hl 0 rfl) ?_
      refine lv_bipush (v := 16) hx hb dJ6_numberOfLeadingZeros_0f7a4_49 (by decide) ?_
      refine lv_icmp_lt (tgt := 61) hx hb dJ6_numberOfLeadingZeros_0f7a4_51 (by decide) (fun c19705 => ?_) (fun c19705 => ?_)
      · have g19706 : Rg 1 15 y33_l0 := rg_ltl g19704 (by decide : Rg 16 16 (16 : Int32)) c19705 (by decide)
        exact ct61 y33_l0 y33_l1 ls g19706 (show Rg 3 31 y33_l1 from rg_w g33_l1 (by decide) (by decide)) (lv_sub (l' := [(0, .int y33_l0), (1, .int y33_l1)]) hl [0, 1] rfl)
      · have g19707 : Rg 16 255 y33_l0 := rg_ler (by decide : Rg 16 16 (16 : Int32)) g19704 (rg_nlt c19705) (by decide)
        refine wk_iinc (lv' := fun r => [(1, .int r), (0, .int y33_l0)]) (e1 := 11) (f := 27) hx hb dJ6_numberOfLeadingZeros_0f7a4_54 hl (k := 1) rfl (by decide) g33_l1 (by decide) (fun _ => rfl) (fun r19708 ls hr19708 er19708 hl => ?_)
        refine lv_iload_n hx hb dJ6_numberOfLeadingZeros_0f7a4_57 rfl (lv_at hl 1 rfl) ?_
        refine lv_iconst (v := 4) hx hb dJ6_numberOfLeadingZeros_0f7a4_58 (by decide) ?_
        refine wk_iushr 4 (e1 := 1) (f := 15) hx hb dJ6_numberOfLeadingZeros_0f7a4_59 g19707 (by decide) (by decide) (fun r19709 hr19709 => ?_)
        refine lv_istore_n (lv' := [(0, .int r19709), (1, .int r19708)]) hx hb dJ6_numberOfLeadingZeros_0f7a4_60 rfl hl (by decide) rfl (fun ls hl => ?_)
        exact ct61 r19709 r19708 ls hr19709 (show Rg 3 31 r19708 from rg_w hr19708 (by decide) (by decide)) (lv_sub (l' := [(0, .int r19709), (1, .int r19708)]) hl [0, 1] rfl)
    · have g19710 : Rg 256 65535 y33_l0 := rg_ler (by decide : Rg 256 256 (256 : Int32)) g33_l0 (rg_nlt c19703) (by decide)
      refine wk_iinc (lv' := fun r => [(1, .int r), (0, .int y33_l0)]) (e1 := 7) (f := 23) hx hb dJ6_numberOfLeadingZeros_0f7a4_40 hl (k := 1) rfl (by decide) g33_l1 (by decide) (fun _ => rfl) (fun r19711 ls hr19711 er19711 hl => ?_)
      refine lv_iload_n hx hb dJ6_numberOfLeadingZeros_0f7a4_43 rfl (lv_at hl 1 rfl) ?_
      refine lv_bipush (v := 8) hx hb dJ6_numberOfLeadingZeros_0f7a4_44 (by decide) ?_
      refine wk_iushr 8 (e1 := 1) (f := 255) hx hb dJ6_numberOfLeadingZeros_0f7a4_46 g19710 (by decide) (by decide) (fun r19712 hr19712 => ?_)
      refine lv_istore_n (lv' := [(0, .int r19712), (1, .int r19711)]) hx hb dJ6_numberOfLeadingZeros_0f7a4_47 rfl hl (by decide) rfl (fun ls hl => ?_)
      refine lv_iload_n hx hb dJ6_numberOfLeadingZeros_0f7a4_48 rfl (lv_at hl 0 rfl) ?_
      refine lv_bipush (v := 16) hx hb dJ6_numberOfLeadingZeros_0f7a4_49 (by decide) ?_
      refine lv_icmp_lt (tgt := 61) hx hb dJ6_numberOfLeadingZeros_0f7a4_51 (by decide) (fun c19713 => ?_) (fun c19713 => ?_)
      · have g19714 : Rg 1 15 r19712 := rg_ltl hr19712 (by decide : Rg 16 16 (16 : Int32)) c19713 (by decide)
        exact ct61 r19712 r19711 ls g19714 (show Rg 3 31 r19711 from rg_w hr19711 (by decide) (by decide)) (lv_sub (l' := [(0, .int r19712), (1, .int r19711)]) hl [0, 1] rfl)
      · have g19715 : Rg 16 255 r19712 := rg_ler (by decide : Rg 16 16 (16 : Int32)) hr19712 (rg_nlt c19713) (by decide)
        refine wk_iinc (lv' := fun r => [(1, .int r), (0, .int r19712)]) (e1 := 3) (f := 19) hx hb dJ6_numberOfLeadingZeros_0f7a4_54 hl (k := 1) rfl (by decide) hr19711 (by decide) (fun _ => rfl) (fun r19716 ls hr19716 er19716 hl => ?_)
        refine lv_iload_n hx hb dJ6_numberOfLeadingZeros_0f7a4_57 rfl (lv_at hl 1 rfl) ?_
        refine lv_iconst (v := 4) hx hb dJ6_numberOfLeadingZeros_0f7a4_58 (by decide) ?_
        refine wk_iushr 4 (e1 := 1) (f := 15) hx hb dJ6_numberOfLeadingZeros_0f7a4_59 g19715 (by decide) (by decide) (fun r19717 hr19717 => ?_)
        refine lv_istore_n (lv' := [(0, .int r19717), (1, .int r19716)]) hx hb dJ6_numberOfLeadingZeros_0f7a4_60 rfl hl (by decide) rfl (fun ls hl => ?_)
        exact ct61 r19717 r19716 ls hr19717 (show Rg 3 31 r19716 from rg_w hr19716 (by decide) (by decide)) (lv_sub (l' := [(0, .int r19717), (1, .int r19716)]) hl [0, 1] rfl)
  refine lv_iload_n hx hb dJ6_numberOfLeadingZeros_0f7a4_0 rfl (lv_at hl 0 rfl) ?_
  refine lv_if_gt (tgt := 15) hx hb dJ6_numberOfLeadingZeros_0f7a4_1 (by decide) (fun c19718 => ?_) (fun c19718 => ?_)
  · have g19719 : Rg 1 2147483647 x0 := rg_ltr (by decide : Rg 0 0 (0 : Int32)) (rg_any x0) c19718 (by decide)
    refine lv_bipush (v := 31) hx hb dJ6_numberOfLeadingZeros_0f7a4_15 (by decide) ?_
    refine lv_istore_n (lv' := [(1, .int 31), (0, .int x0)]) hx hb dJ6_numberOfLeadingZeros_0f7a4_17 rfl hl (by decide) rfl (fun ls hl => ?_)
    refine lv_iload_n hx hb dJ6_numberOfLeadingZeros_0f7a4_18 rfl (lv_at hl 1 rfl) ?_
    refine lv_ldcw hx hb hown (hts (.constant RJ6 264 (65536)) (by decide +kernel)) dJ6_numberOfLeadingZeros_0f7a4_19 ?_
    refine lv_icmp_lt (tgt := 33) hx hb dJ6_numberOfLeadingZeros_0f7a4_22 (by decide) (fun c19720 => ?_) (fun c19720 => ?_)
    · have g19721 : Rg 1 65535 x0 := rg_ltl g19719 (by decide : Rg 65536 65536 (65536 : Int32)) c19720 (by decide)
      exact ct33 x0 (31 : Int32) ls g19721 (by decide : Rg 15 31 (31 : Int32)) (lv_sub (l' := [(0, .int x0), (1, .int 31)]) hl [1, 0] rfl)
    · have g19722 : Rg 65536 2147483647 x0 := rg_ler (by decide : Rg 65536 65536 (65536 : Int32)) g19719 (rg_nlt c19720) (by decide)
      refine wk_iinc (lv' := fun r => [(1, .int r), (0, .int x0)]) (e1 := 15) (f := 15) hx hb dJ6_numberOfLeadingZeros_0f7a4_25 hl (k := 0) rfl (by decide) (by decide : Rg 31 31 (31 : Int32)) (by decide) (fun _ => rfl) (fun r19723 ls hr19723 er19723 hl => ?_)
      refine lv_iload_n hx hb dJ6_numberOfLeadingZeros_0f7a4_28 rfl (lv_at hl 1 rfl) ?_
      refine lv_bipush (v := 16) hx hb dJ6_numberOfLeadingZeros_0f7a4_29 (by decide) ?_
      refine wk_iushr 16 (e1 := 1) (f := 32767) hx hb dJ6_numberOfLeadingZeros_0f7a4_31 g19722 (by decide) (by decide) (fun r19724 hr19724 => ?_)
      refine lv_istore_n (lv' := [(0, .int r19724), (1, .int r19723)]) hx hb dJ6_numberOfLeadingZeros_0f7a4_32 rfl hl (by decide) rfl (fun ls hl => ?_)
      exact ct33 r19724 r19723 ls (show Rg 1 65535 r19724 from rg_w hr19724 (by decide) (by decide)) (show Rg 15 31 r19723 from rg_w hr19723 (by decide) (by decide)) (lv_sub (l' := [(0, .int r19724), (1, .int r19723)]) hl [0, 1] rfl)
  · have g19725 : Rg (-2147483648) 0 x0 := rg_lel (rg_any x0) (by decide : Rg 0 0 (0 : Int32)) (rg_nlt c19718) (by decide)
    refine lv_iload_n hx hb dJ6_numberOfLeadingZeros_0f7a4_4 rfl (lv_at hl 0 rfl) ?_
    refine lv_if_ne (tgt := 13) hx hb dJ6_numberOfLeadingZeros_0f7a4_5 (by decide) (fun c19726 => ?_) (fun c19726 => ?_)
    · have g19727 : Rg (-2147483648) (-1) x0 := rg_ne_hi (k := 0) g19725 (by decide) c19726 (by decide)
      refine lv_iconst (v := 0) hx hb dJ6_numberOfLeadingZeros_0f7a4_13 (by decide) ?_
      exact W.iret (v := 0) hx hb hr (fun t ht hW => ⟨_, rfl, ⟨(by decide : Rg 0 32 (0 : Int32)), fun _ => (by decide : Rg 0 31 (0 : Int32))⟩, ht⟩) (fun q hq => absurd hq List.not_mem_nil) dJ6_numberOfLeadingZeros_0f7a4_14
    · have g19728 : Rg 0 0 x0 := wk_eql g19725 (by decide : Rg 0 0 (0 : Int32)) c19726 (by decide)
      refine lv_bipush (v := 32) hx hb dJ6_numberOfLeadingZeros_0f7a4_8 (by decide) ?_
      refine lv_goto (tgt := 14) hx hb dJ6_numberOfLeadingZeros_0f7a4_10 (by decide) ?_
      exact W.iret (v := 32) hx hb hr (fun t ht hW => ⟨_, rfl, ⟨(by decide : Rg 0 32 (32 : Int32)), fun h9 => absurd c19726 h9⟩, ht⟩) (fun q hq => absurd hq List.not_mem_nil) dJ6_numberOfLeadingZeros_0f7a4_14
set_option maxHeartbeats 4000000 in
set_option maxRecDepth 100000 in
theorem k_X2_all (l : Launch) (D : va_G) (cI cS : ClassId) (a : Nat → Nat) (na nc N : Nat) (L u : SU) (hL : TyX L) (hN : N = 0 ∨ N = 24576) : Met l yX2_all wsX2_all ({ frames := 0, cells := 0, slots := 0, locals := 0 }) (PS D cI cS (wX cI cS a na nc N L u) [.ref (a 1)]) (vp_Si (fun r => Rg 0 4095 r ∧ True)) 0 0 (fun _ => False) := by
  refine Met.ofW (cc := cX2_all) (maxL := 1) (ret := (some .int)) (by decide) rfl ?_
  intro p e s m args below meth c s₁ B hml hv
  obtain ⟨rfl, hP, hKK⟩ := hv
  have hx := B.exec
  have hb := B.bytes
  have hr := B.returns
  have hts := atoms_spec (ws := wsX2_all) B.pre
  have hown : s.vm.findClass RX2 = some m.cls := findClass_of_methodNamed B.named
  have hlocks := B.notSynchronized
  have hK := hKK.1
  have hin2 : ∀ w ∈ wsX20, w ∈ wsX2_all := by decide +kernel
  have hl := lv_entry ([.ref (a 1)]) (n := 1) (Nat.le_of_ble_eq_true rfl)
  rw [lg_entry_eq]
  generalize (lg_sl ([.ref (a 1)]) ++ List.replicate (1 - (lg_sl ([.ref (a 1)])).length) Slot.unset).toArray = ls at hl ⊢
  have hl : lv_has ls 1 [(0, .ref (a 1))] := hl
  refine lv_iconst (v := 1) hx hb dX2_all_0 (by decide) ?_
  refine lv_aload_n hx hb dX2_all_1 rfl (lv_at hl 0 rfl) ?_
  refine va_get (D := D) (ci := 2) (v := .int (L 1 1)) (C := RX2) (T := TX2) (N := 3) hx hb hts hin2 hown hK hP 1 rfl rfl 1 (by decide) (hts (.fieldLink RX2 15 "MissedPoints$Net" "size" "I") (by decide +kernel)) (fun _ h9 => h9) rfl dX2_all_2 ?_
  refine wk_ishl1 (f := 4096) hx hb dX2_all_5 hL.1 (by decide) (fun r19731 hr19731 qr19731 => ?_)
  refine lv_iconst (v := 1) hx hb dX2_all_6 (by decide) ?_
  refine wk_isub (e1 := 0) (f := 4095) hx hb dX2_all_7 hr19731 (by decide : Rg 1 1 (1 : Int32)) (by decide) (fun r19732 hr19732 er19732 qr19732 => ?_)
  exact W.iret (v := r19732) hx hb hr (fun t ht hW => ⟨_, rfl, ⟨hr19732, trivial⟩, ht⟩) (fun q hq => absurd hq List.not_mem_nil) dX2_all_8
set_option maxHeartbeats 4000000 in
set_option maxRecDepth 100000 in
theorem k_X2_hasPoint (l : Launch) (D : va_G) (cI cS : ClassId) (a : Nat → Nat) (na nc N : Nat) (L u : SU) (hL : TyX L) (hN : N = 0 ∨ N = 24576) (x0 : Int32) : Met l yX2_hasPoint wsX2_hasPoint ({ frames := 0, cells := 0, slots := 0, locals := 0 }) (PS D cI cS (wX cI cS a na nc N L u) [.ref (a 1), .int x0]) (vp_Si (fun r => Rg 0 1 r ∧ (r ≠ 0 → Rg 0 11 x0))) 0 0 (fun _ => False) := by
  refine Met.ofW (cc := cX2_hasPoint) (maxL := 2) (ret := (some .boolean)) (by decide) rfl ?_
  intro p e s m args below meth c s₁ B hml hv
  obtain ⟨rfl, hP, hKK⟩ := hv
  have hx := B.exec
  have hb := B.bytes
  have hr := B.returns
  have hts := atoms_spec (ws := wsX2_hasPoint) B.pre
  have hown : s.vm.findClass RX2 = some m.cls := findClass_of_methodNamed B.named
  have hlocks := B.notSynchronized
  have hK := hKK.1
  have hin2 : ∀ w ∈ wsX20, w ∈ wsX2_hasPoint := by decide +kernel
  have hl := lv_entry ([.ref (a 1), .int x0]) (n := 2) (Nat.le_of_ble_eq_true rfl)
  rw [lg_entry_eq]
  generalize (lg_sl ([.ref (a 1), .int x0]) ++ List.replicate (2 - (lg_sl ([.ref (a 1), .int x0])).length) Slot.unset).toArray = ls at hl ⊢
  have hl : lv_has ls 2 [(0, .ref (a 1)), (1, .int x0)] := hl
  refine lv_iload_n hx hb dX2_hasPoint_0 rfl (lv_at hl 1 rfl) ?_
  refine lv_if_lt (tgt := 16) hx hb dX2_hasPoint_1 (by decide) (fun c19739 => ?_) (fun c19739 => ?_)
  · have g19740 : Rg (-2147483648) (-1) x0 := rg_ltl (rg_any x0) (by decide : Rg 0 0 (0 : Int32)) c19739 (by decide)
    refine lv_iconst (v := 0) hx hb dX2_hasPoint_16 (by decide) ?_
    exact W.zret (v := 0) hx hb hr (by decide) (fun t ht hW => ⟨_, rfl, ⟨(by decide : Rg 0 1 (0 : Int32)), fun h9 => absurd rfl h9⟩, ht⟩) (fun q hq => absurd hq List.not_mem_nil) dX2_hasPoint_17
  · have g19741 : Rg 0 2147483647 x0 := rg_ler (by decide : Rg 0 0 (0 : Int32)) (rg_any x0) (rg_nlt c19739) (by decide)
    refine lv_iload_n hx hb dX2_hasPoint_4 rfl (lv_at hl 1 rfl) ?_
    refine lv_aload_n hx hb dX2_hasPoint_5 rfl (lv_at hl 0 rfl) ?_
    refine va_get (D := D) (ci := 2) (v := .int (L 1 1)) (C := RX2) (T := TX2) (N := 3) hx hb hts hin2 hown hK hP 1 rfl rfl 1 (by decide) (hts (.fieldLink RX2 15 "MissedPoints$Net" "size" "I") (by decide +kernel)) (fun _ h9 => h9) rfl dX2_hasPoint_6 ?_
    refine lv_icmp_ge (tgt := 16) hx hb dX2_hasPoint_9 (by decide) (fun c19742 => ?_) (fun c19742 => ?_)
    · refine lv_iconst (v := 0) hx hb dX2_hasPoint_16 (by decide) ?_
      exact W.zret (v := 0) hx hb hr (by decide) (fun t ht hW => ⟨_, rfl, ⟨(by decide : Rg 0 1 (0 : Int32)), fun h9 => absurd rfl h9⟩, ht⟩) (fun q hq => absurd hq List.not_mem_nil) dX2_hasPoint_17
    · have g19743 : Rg 1 12 (L 1 1) := rg_ltr g19741 hL.1 (rg_nle c19742) (by decide)
      have g19744 : Rg 0 11 x0 := rg_ltl g19741 hL.1 (rg_nle c19742) (by decide)
      refine lv_iconst (v := 1) hx hb dX2_hasPoint_12 (by decide) ?_
      refine lv_goto (tgt := 17) hx hb dX2_hasPoint_13 (by decide) ?_
      exact W.zret (v := 1) hx hb hr (by decide) (fun t ht hW => ⟨_, rfl, ⟨(by decide : Rg 0 1 (1 : Int32)), fun _ => g19744⟩, ht⟩) (fun q hq => absurd hq List.not_mem_nil) dX2_hasPoint_17
set_option maxHeartbeats 4000000 in
set_option maxRecDepth 100000 in
theorem k_X2_hasAll (l : Launch) (D : va_G) (cI cS : ClassId) (a : Nat → Nat) (na nc N : Nat) (L u : SU) (hL : TyX L) (hN : N = 0 ∨ N = 24576) (x0 : Int32) : Met l yX2_hasAll wsX2_hasAll ({ frames := 1, cells := 0, slots := 0, locals := 40 }) (PS D cI cS (wX cI cS a na nc N L u) [.ref (a 1), .int x0]) (vp_Si (fun r => Rg 0 1 r ∧ (r ≠ 0 → Rg 0 4095 x0))) 0 0 (fun _ => False) := by
  refine Met.ofW (cc := cX2_hasAll) (maxL := 2) (ret := (some .boolean)) (by decide) rfl ?_
  intro p e s m args below meth c s₁ B hml hv
  obtain ⟨rfl, hP, hKK⟩ := hv
  have hx := B.exec
  have hb := B.bytes
  have hr := B.returns
  have hts := atoms_spec (ws := wsX2_hasAll) B.pre
  have hown : s.vm.findClass RX2 = some m.cls := findClass_of_methodNamed B.named
  have hlocks := B.notSynchronized
  have hK := hKK.1
  have hl := lv_entry ([.ref (a 1), .int x0]) (n := 2) (Nat.le_of_ble_eq_true rfl)
  rw [lg_entry_eq]
  generalize (lg_sl ([.ref (a 1), .int x0]) ++ List.replicate (2 - (lg_sl ([.ref (a 1), .int x0])).length) Slot.unset).toArray = ls at hl ⊢
  have hl : lv_has ls 2 [(0, .ref (a 1)), (1, .int x0)] := hl
  refine lv_iload_n hx hb dX2_hasAll_0 rfl (lv_at hl 1 rfl) ?_
  refine lv_aload_n hx hb dX2_hasAll_1 rfl (lv_at hl 0 rfl) ?_
  refine wk_sv 1 (As := []) (rest := [.int x0]) ⟨hx, hb, hml, hown, hts⟩ (k_X2_all l D cI cS a na nc N L u hL hN) hKK hP (ci := 2) rfl rfl (cwV 0 hts gX2_hasAll_X2_all rfl rfl rfl (by decide +kernel) ⟨Nat.le_of_ble_eq_true rfl, Nat.le_of_ble_eq_true rfl⟩) rfl hl.1 rfl (Nat.le_of_ble_eq_true rfl) dX2_hasAll_2 ⟨Nat.le_of_ble_eq_true rfl, Nat.le_of_ble_eq_true rfl⟩ (fun r19751 hr19751 => ?_)
  refine lv_iconst (v := (-1)) hx hb dX2_hasAll_5 (by decide) ?_
  refine lv_ixor hx hb dX2_hasAll_6 ?_
  refine wk_topP (P := fun r => r = r19751 ^^^ ((-1) : Int32)) rfl (fun r19752 qr19752 => ?_)
  refine lv_iand hx hb dX2_hasAll_7 ?_
  refine wk_topP (P := fun r => r = x0 &&& r19752) rfl (fun r19753 qr19753 => ?_)
  refine lv_if_ne (tgt := 15) hx hb dX2_hasAll_8 (by decide) (fun c19754 => ?_) (fun c19754 => ?_)
  · refine lv_iconst (v := 0) hx hb dX2_hasAll_15 (by decide) ?_
    exact W.zret (v := 0) hx hb hr (by decide) (fun t ht hW => ⟨_, rfl, ⟨(by decide : Rg 0 1 (0 : Int32)), fun h9 => absurd rfl h9⟩, ht⟩) (fun q hq => absurd hq List.not_mem_nil) dX2_hasAll_16
  · have g19755 : Rg 0 4095 x0 := wk_set hr19751.1 (by decide) (by rw [← qr19752, ← qr19753]; exact c19754)
    have g19756 : Rg 0 0 r19753 := wk_eql (rg_any r19753) (by decide : Rg 0 0 (0 : Int32)) c19754 (by decide)
    refine lv_iconst (v := 1) hx hb dX2_hasAll_11 (by decide) ?_
    refine lv_goto (tgt := 16) hx hb dX2_hasAll_12 (by decide) ?_
    exact W.zret (v := 1) hx hb hr (by decide) (fun t ht hW => ⟨_, rfl, ⟨(by decide : Rg 0 1 (1 : Int32)), fun _ => g19755⟩, ht⟩) (fun q hq => absurd hq List.not_mem_nil) dX2_hasAll_16
set_option maxHeartbeats 4000000 in
set_option maxRecDepth 100000 in
theorem k_X2_areTwo (l : Launch) (D : va_G) (cI cS : ClassId) (a : Nat → Nat) (na nc N : Nat) (L u : SU) (hL : TyX L) (hN : N = 0 ∨ N = 24576) (x0 x1 : Int32) : Met l yX2_areTwo wsX2_areTwo ({ frames := 1, cells := 0, slots := 0, locals := 40 }) (PS D cI cS (wX cI cS a na nc N L u) [.ref (a 1), .int x0, .int x1]) (vp_Si (fun r => Rg 0 1 r ∧ (r ≠ 0 → Rg 0 11 x0 ∧ Rg 0 11 x1))) 0 0 (fun _ => False) := by
  refine Met.ofW (cc := cX2_areTwo) (maxL := 3) (ret := (some .boolean)) (by decide) rfl ?_
  intro p e s m args below meth c s₁ B hml hv
  obtain ⟨rfl, hP, hKK⟩ := hv
  have hx := B.exec
  have hb := B.bytes
  have hr := B.returns
  have hts := atoms_spec (ws := wsX2_areTwo) B.pre
  have hown : s.vm.findClass RX2 = some m.cls := findClass_of_methodNamed B.named
  have hlocks := B.notSynchronized
  have hK := hKK.1
  have hl := lv_entry ([.ref (a 1), .int x0, .int x1]) (n := 3) (Nat.le_of_ble_eq_true rfl)
  rw [lg_entry_eq]
  generalize (lg_sl ([.ref (a 1), .int x0, .int x1]) ++ List.replicate (3 - (lg_sl ([.ref (a 1), .int x0, .int x1])).length) Slot.unset).toArray = ls at hl ⊢
  have hl : lv_has ls 3 [(0, .ref (a 1)), (1, .int x0), (2, .int x1)] := hl
  refine lv_aload_n hx hb dX2_areTwo_0 rfl (lv_at hl 0 rfl) ?_
  refine lv_iload_n hx hb dX2_areTwo_1 rfl (lv_at hl 1 rfl) ?_
  refine wk_sv 1 (As := [.int x0]) (rest := []) ⟨hx, hb, hml, hown, hts⟩ (k_X2_hasPoint l D cI cS a na nc N L u hL hN x0) hKK hP (ci := 2) rfl rfl (cwV 1 hts gX2_areTwo_X2_hasPoint rfl rfl rfl (by decide +kernel) ⟨Nat.le_of_ble_eq_true rfl, Nat.le_of_ble_eq_true rfl⟩) rfl hl.1 rfl (Nat.le_of_ble_eq_true rfl) dX2_areTwo_2 ⟨Nat.le_of_ble_eq_true rfl, Nat.le_of_ble_eq_true rfl⟩ (fun r19768 hr19768 => ?_)
  refine lv_if_eq (tgt := 25) hx hb dX2_areTwo_5 (by decide) (fun c19769 => ?_) (fun c19769 => ?_)
  · have g19770 : Rg 0 0 r19768 := wk_eql hr19768.1 (by decide : Rg 0 0 (0 : Int32)) c19769 (by decide)
    refine lv_iconst (v := 0) hx hb dX2_areTwo_25 (by decide) ?_
    exact W.zret (v := 0) hx hb hr (by decide) (fun t ht hW => ⟨_, rfl, ⟨(by decide : Rg 0 1 (0 : Int32)), fun h9 => absurd rfl h9⟩, ht⟩) (fun q hq => absurd hq List.not_mem_nil) dX2_areTwo_26
  · have g19771 : Rg 0 11 x0 := (hr19768.2 c19769)
    have g19772 : Rg 1 1 r19768 := rg_ne_lo (k := 0) hr19768.1 (by decide) c19769 (by decide)
    refine lv_aload_n hx hb dX2_areTwo_8 rfl (lv_at hl 0 rfl) ?_
    refine lv_iload_n hx hb dX2_areTwo_9 rfl (lv_at hl 2 rfl) ?_
    refine wk_sv 1 (As := [.int x1]) (rest := []) ⟨hx, hb, hml, hown, hts⟩ (k_X2_hasPoint l D cI cS a na nc N L u hL hN x1) hKK hP (ci := 2) rfl rfl (cwV 1 hts gX2_areTwo_X2_hasPoint rfl rfl rfl (by decide +kernel) ⟨Nat.le_of_ble_eq_true rfl, Nat.le_of_ble_eq_true rfl⟩) rfl hl.1 rfl (Nat.le_of_ble_eq_true rfl) dX2_areTwo_10 ⟨Nat.le_of_ble_eq_true rfl, Nat.le_of_ble_eq_true rfl⟩ (fun r19773 hr19773 => ?_)
    refine lv_if_eq (tgt := 25) hx hb dX2_areTwo_13 (by decide) (fun c19774 => ?_) (fun c19774 => ?_)
    · have g19775 : Rg 0 0 r19773 := wk_eql hr19773.1 (by decide : Rg 0 0 (0 : Int32)) c19774 (by decide)
      refine lv_iconst (v := 0) hx hb dX2_areTwo_25 (by decide) ?_
      exact W.zret (v := 0) hx hb hr (by decide) (fun t ht hW => ⟨_, rfl, ⟨(by decide : Rg 0 1 (0 : Int32)), fun h9 => absurd rfl h9⟩, ht⟩) (fun q hq => absurd hq List.not_mem_nil) dX2_areTwo_26
    · have g19776 : Rg 0 11 x1 := (hr19773.2 c19774)
      have g19777 : Rg 1 1 r19773 := rg_ne_lo (k := 0) hr19773.1 (by decide) c19774 (by decide)
      refine lv_iload_n hx hb dX2_areTwo_16 rfl (lv_at hl 1 rfl) ?_
      refine lv_iload_n hx hb dX2_areTwo_17 rfl (lv_at hl 2 rfl) ?_
      refine lv_icmp_eq (tgt := 25) hx hb dX2_areTwo_18 (by decide) (fun c19778 => ?_) (fun c19778 => ?_)
      · refine lv_iconst (v := 0) hx hb dX2_areTwo_25 (by decide) ?_
        exact W.zret (v := 0) hx hb hr (by decide) (fun t ht hW => ⟨_, rfl, ⟨(by decide : Rg 0 1 (0 : Int32)), fun h9 => absurd rfl h9⟩, ht⟩) (fun q hq => absurd hq List.not_mem_nil) dX2_areTwo_26
      · refine lv_iconst (v := 1) hx hb dX2_areTwo_21 (by decide) ?_
        refine lv_goto (tgt := 26) hx hb dX2_areTwo_22 (by decide) ?_
        exact W.zret (v := 1) hx hb hr (by decide) (fun t ht hW => ⟨_, rfl, ⟨(by decide : Rg 0 1 (1 : Int32)), fun _ => ⟨g19771, g19776⟩⟩, ht⟩) (fun q hq => absurd hq List.not_mem_nil) dX2_areTwo_26
set_option maxRecDepth 20000 in
theorem ggX2_joined_X2_areTwo : GoodIn wsX2_joined wsX2_areTwo := goodIn_r _ [6, 7, 8, 9, 5, 10, 11, 12, 13, 14] (by decide +kernel) (by decide +kernel)
set_option maxRecDepth 20000 in
theorem gX2_joined_X2_areTwo : GoodIn wsX2_joined (wsV RX2 36 RX2 yX2_areTwo wsX2_areTwo) := goodIn_app (goodIn_of _ (by decide +kernel)) ggX2_joined_X2_areTwo
theorem dX2_joined_0 : decode cX2_joined 0 = .ok (.aload_n 0, 1) := by decide +kernel
theorem dX2_joined_1 : decode cX2_joined 1 = .ok (.iload_n 1, 1) := by decide +kernel
theorem dX2_joined_10 : decode cX2_joined 10 = .ok (.getfield 9, 3) := by decide +kernel
theorem dX2_joined_13 : decode cX2_joined 13 = .ok (.iload_n 1, 1) := by decide +kernel
theorem dX2_joined_14 : decode cX2_joined 14 = .ok (.iaload, 1) := by decide +kernel
theorem dX2_joined_15 : decode cX2_joined 15 = .ok (.iload_n 2, 1) := by decide +kernel
theorem dX2_joined_16 : decode cX2_joined 16 = .ok (.ishr, 1) := by decide +kernel
theorem dX2_joined_17 : decode cX2_joined 17 = .ok (.iconst 1, 1) := by decide +kernel
theorem dX2_joined_18 : decode cX2_joined 18 = .ok (.iand, 1) := by decide +kernel
theorem dX2_joined_19 : decode cX2_joined 19 = .ok (.ifCond .eq 7, 3) := by decide +kernel
theorem dX2_joined_2 : decode cX2_joined 2 = .ok (.iload_n 2, 1) := by decide +kernel
theorem dX2_joined_22 : decode cX2_joined 22 = .ok (.iconst 1, 1) := by decide +kernel
theorem dX2_joined_23 : decode cX2_joined 23 = .ok (.goto 4, 3) := by decide +kernel
theorem dX2_joined_26 : decode cX2_joined 26 = .ok (.iconst 0, 1) := by decide +kernel
theorem dX2_joined_27 : decode cX2_joined 27 = .ok (.ireturn, 1) := by decide +kernel
theorem dX2_joined_3 : decode cX2_joined 3 = .ok (.invokevirtual 36, 3) := by decide +kernel
theorem dX2_joined_6 : decode cX2_joined 6 = .ok (.ifCond .eq 20, 3) := by decide +kernel
theorem dX2_joined_9 : decode cX2_joined 9 = .ok (.aload_n 0, 1) := by decide +kernel
set_option maxHeartbeats 4000000 in
set_option maxRecDepth 100000 in
theorem k_X2_joined (l : Launch) (D : va_G) (cI cS : ClassId) (a : Nat → Nat) (na nc N : Nat) (L u : SU) (hL : TyX L) (hN : N = 0 ∨ N = 24576) (x0 x1 : Int32) : Met l yX2_joined wsX2_joined ({ frames := 2, cells := 0, slots := 0, locals := 80 }) (PS D cI cS (wX cI cS a na nc N L u) [.ref (a 1), .int x0, .int x1]) (vp_Si (fun r => Rg 0 1 r ∧ (r ≠ 0 → Rg 0 11 x0 ∧ Rg 0 11 x1))) 0 0 (fun _ => False) := by
  refine Met.ofW (cc := cX2_joined) (maxL := 3) (ret := (some .boolean)) (by decide) rfl ?_
  intro p e s m args below meth c s₁ B hml hv
  obtain ⟨rfl, hP, hKK⟩ := hv
  have hx := B.exec
  have hb := B.bytes
  have hr := B.returns
  have hts := atoms_spec (ws := wsX2_joined) B.pre
  have hown : s.vm.findClass RX2 = some m.cls := findClass_of_methodNamed B.named
  have hlocks := B.notSynchronized
  have hK := hKK.1
  have hin2 : ∀ w ∈ wsX20, w ∈ wsX2_joined := by decide +kernel
  have hl := lv_entry ([.ref (a 1), .int x0, .int x1]) (n := 3) (Nat.le_of_ble_eq_true rfl)
  rw [lg_entry_eq]
  generalize (lg_sl ([.ref (a 1), .int x0, .int x1]) ++ List.replicate (3 - (lg_sl ([.ref (a 1), .int x0, .int x1])).length) Slot.unset).toArray = ls at hl ⊢
  have hl : lv_has ls 3 [(0, .ref (a 1)), (1, .int x0), (2, .int x1)] := hl
  refine lv_aload_n hx hb dX2_joined_0 rfl (lv_at hl 0 rfl) ?_
  refine lv_iload_n hx hb dX2_joined_1 rfl (lv_at hl 1 rfl) ?_
  refine lv_iload_n hx hb dX2_joined_2 rfl (lv_at hl 2 rfl) ?_
  refine wk_sv 1 (As := [.int x0, .int x1]) (rest := []) ⟨hx, hb, hml, hown, hts⟩ (k_X2_areTwo l D cI cS a na nc N L u hL hN x0 x1) hKK hP (ci := 2) rfl rfl (cwV 2 hts gX2_joined_X2_areTwo rfl rfl rfl (by decide +kernel) ⟨Nat.le_of_ble_eq_true rfl, Nat.le_of_ble_eq_true rfl⟩) rfl hl.1 rfl (Nat.le_of_ble_eq_true rfl) dX2_joined_3 ⟨Nat.le_of_ble_eq_true rfl, Nat.le_of_ble_eq_true rfl⟩ (fun r19791 hr19791 => ?_)
  refine lv_if_eq (tgt := 26) hx hb dX2_joined_6 (by decide) (fun c19792 => ?_) (fun c19792 => ?_)
  · have g19793 : Rg 0 0 r19791 := wk_eql hr19791.1 (by decide : Rg 0 0 (0 : Int32)) c19792 (by decide)
    refine lv_iconst (v := 0) hx hb dX2_joined_26 (by decide) ?_
    exact W.zret (v := 0) hx hb hr (by decide) (fun t ht hW => ⟨_, rfl, ⟨(by decide : Rg 0 1 (0 : Int32)), fun h9 => absurd rfl h9⟩, ht⟩) (fun q hq => absurd hq List.not_mem_nil) dX2_joined_27
  · have g19794 : Rg 0 11 x0 := (hr19791.2 c19792).1
    have g19795 : Rg 0 11 x1 := (hr19791.2 c19792).2
    have g19796 : Rg 1 1 r19791 := rg_ne_lo (k := 0) hr19791.1 (by decide) c19792 (by decide)
    refine lv_aload_n hx hb dX2_joined_9 rfl (lv_at hl 0 rfl) ?_
    refine va_get (D := D) (ci := 2) (v := .ref (a 2)) (C := RX2) (T := TX2) (N := 3) hx hb hts hin2 hown hK hP 1 rfl rfl 0 (by decide) (hts (.fieldLink RX2 9 "MissedPoints$Net" "links" "[I") (by decide +kernel)) (fun _ h9 => h9) rfl dX2_joined_10 ?_
    refine lv_iload_n hx hb dX2_joined_13 rfl (lv_at hl 1 rfl) ?_
    refine wk_aldA hx hb hK hP 2 0 rfl rfl (rg_in g19794 (by decide) (by decide)) dX2_joined_14 (fun r19797 => ?_)
    refine lv_iload_n hx hb dX2_joined_15 rfl (lv_at hl 2 rfl) ?_
    refine lv_ishr hx hb dX2_joined_16 ?_
    refine wk_topP (P := fun r => r = r19797 >>> (x1 &&& 31)) rfl (fun r19798 qr19798 => ?_)
    refine lv_iconst (v := 1) hx hb dX2_joined_17 (by decide) ?_
    refine wk_iandr hx hb dX2_joined_18 (by decide : Rg 1 1 (1 : Int32)) (by decide) (fun r19799 hr19799 qr19799 => ?_)
    refine lv_if_eq (tgt := 26) hx hb dX2_joined_19 (by decide) (fun c19800 => ?_) (fun c19800 => ?_)
    · have g19801 : Rg 0 0 r19799 := wk_eql hr19799 (by decide : Rg 0 0 (0 : Int32)) c19800 (by decide)
      refine lv_iconst (v := 0) hx hb dX2_joined_26 (by decide) ?_
      exact W.zret (v := 0) hx hb hr (by decide) (fun t ht hW => ⟨_, rfl, ⟨(by decide : Rg 0 1 (0 : Int32)), fun h9 => absurd rfl h9⟩, ht⟩) (fun q hq => absurd hq List.not_mem_nil) dX2_joined_27
    · have g19802 : Rg 1 1 r19799 := rg_ne_lo (k := 0) hr19799 (by decide) c19800 (by decide)
      refine lv_iconst (v := 1) hx hb dX2_joined_22 (by decide) ?_
      refine lv_goto (tgt := 27) hx hb dX2_joined_23 (by decide) ?_
      exact W.zret (v := 1) hx hb hr (by decide) (fun t ht hW => ⟨_, rfl, ⟨(by decide : Rg 0 1 (1 : Int32)), fun _ => ⟨g19794, g19795⟩⟩, ht⟩) (fun q hq => absurd hq List.not_mem_nil) dX2_joined_27
theorem dX2_join_41 : decode cX2_join 41 = .ok (.aload_n 0, 1) := by decide +kernel
theorem dX2_join_42 : decode cX2_join 42 = .ok (.getfield 9, 3) := by decide +kernel
theorem dX2_join_45 : decode cX2_join 45 = .ok (.iload_n 1, 1) := by decide +kernel
theorem dX2_join_46 : decode cX2_join 46 = .ok (.dup2, 1) := by decide +kernel
theorem dX2_join_47 : decode cX2_join 47 = .ok (.iaload, 1) := by decide +kernel
theorem dX2_join_48 : decode cX2_join 48 = .ok (.iconst 1, 1) := by decide +kernel
theorem dX2_join_49 : decode cX2_join 49 = .ok (.iload_n 2, 1) := by decide +kernel
theorem dX2_join_50 : decode cX2_join 50 = .ok (.ishl, 1) := by decide +kernel
theorem dX2_join_51 : decode cX2_join 51 = .ok (.iconst (-1), 1) := by decide +kernel
theorem dX2_join_52 : decode cX2_join 52 = .ok (.ixor, 1) := by decide +kernel
theorem dX2_join_53 : decode cX2_join 53 = .ok (.iand, 1) := by decide +kernel
theorem dX2_join_54 : decode cX2_join 54 = .ok (.iastore, 1) := by decide +kernel
theorem dX2_join_55 : decode cX2_join 55 = .ok (.aload_n 0, 1) := by decide +kernel
theorem dX2_join_56 : decode cX2_join 56 = .ok (.getfield 9, 3) := by decide +kernel
theorem dX2_join_59 : decode cX2_join 59 = .ok (.iload_n 2, 1) := by decide +kernel
theorem dX2_join_60 : decode cX2_join 60 = .ok (.dup2, 1) := by decide +kernel
theorem dX2_join_61 : decode cX2_join 61 = .ok (.iaload, 1) := by decide +kernel
theorem dX2_join_62 : decode cX2_join 62 = .ok (.iconst 1, 1) := by decide +kernel
theorem dX2_join_63 : decode cX2_join 63 = .ok (.iload_n 1, 1) := by decide +kernel
theorem dX2_join_64 : decode cX2_join 64 = .ok (.ishl, 1) := by decide +kernel
theorem dX2_join_65 : decode cX2_join 65 = .ok (.iconst (-1), 1) := by decide +kernel
theorem dX2_join_66 : decode cX2_join 66 = .ok (.ixor, 1) := by decide +kernel
theorem dX2_join_67 : decode cX2_join 67 = .ok (.iand, 1) := by decide +kernel
theorem dX2_join_68 : decode cX2_join 68 = .ok (.iastore, 1) := by decide +kernel
theorem dX2_join_9 : decode cX2_join 9 = .ok (.return_, 1) := by decide +kernel
set_option maxHeartbeats 4000000 in
set_option maxRecDepth 100000 in
theorem k_X2_join (l : Launch) (D : va_G) (cI cS : ClassId) (sz : Nat) (a : Nat → Nat) (na nc N : Nat) (L u0 : SU) (hL : TyX L) (hN : N = 0 ∨ N = 24576) (x0 x1 x2 : Int32) (px2 : Rg 0 1 x2) : Met l yX2_join wsX2_join ({ frames := 2, cells := 0, slots := 0, locals := 80 }) (PQ D cI cS (wX cI cS a na nc N L u0) sz [.ref (a 1), .int x0, .int x1, .int x2]) (QE (S := SU) D (wX cI cS a na nc N L u0) (wX cI cS a na nc N L) sz (fun _ => True)) 0 0 (va_A (wX cI cS a na nc N L u0) sz) := by
  refine Met.ofW (cc := cX2_join) (maxL := 4) (ret := none) (by decide) rfl ?_
  intro p e s m args below meth c s₁ B hml hv
  obtain ⟨rfl, hsz, hP, hKK, hD0⟩ := hv
  have hx := B.exec
  have hb := B.bytes
  have hr := B.returns
  have hts := atoms_spec (ws := wsX2_join) B.pre
  have hown : s.vm.findClass RX2 = some m.cls := findClass_of_methodNamed B.named
  have hlocks := B.notSynchronized
  have hK := hKK.1
  have hin2 : ∀ w ∈ wsX20, w ∈ wsX2_join := by decide +kernel
  subst hsz
  have hD := hD0.self (sz := s.heap.size)
  obtain ⟨A, hAe⟩ : ∃ A, A = va_A (wX cI cS a na nc N L u0) s.heap.size := ⟨_, rfl⟩
  rw [← hAe] at hD
  have hA : ∀ q : Nat, s.heap.size ≤ q → A q := fun q h => by rw [hAe]; exact Or.inr h
  have hS : va_S A s.heap s.heap [] := va_S.rf
  have hl := lv_entry ([.ref (a 1), .int x0, .int x1, .int x2]) (n := 4) (Nat.le_of_ble_eq_true rfl)
  rw [lg_entry_eq]
  generalize (lg_sl ([.ref (a 1), .int x0, .int x1, .int x2]) ++ List.replicate (4 - (lg_sl ([.ref (a 1), .int x0, .int x1, .int x2])).length) Slot.unset).toArray = ls at hl ⊢
  have hl : lv_has ls 4 [(0, .ref (a 1)), (1, .int x0), (2, .int x1), (3, .int x2)] := hl
  obtain ⟨u, hu9⟩ : ∃ u : SU, u = u0 := ⟨_, rfl⟩
  rw [← hu9] at hP hD
  refine lv_aload_n hx hb dX2_join_0 rfl (lv_at hl 0 rfl) ?_
  refine lv_iload_n hx hb dX2_join_1 rfl (lv_at hl 1 rfl) ?_
  refine lv_iload_n hx hb dX2_join_2 rfl (lv_at hl 2 rfl) ?_
  refine wk_sv 1 (As := [.int x0, .int x1]) (rest := []) ⟨hx, hb, hml, hown, hts⟩ (k_X2_areTwo l D cI cS a na nc N L u hL hN x0 x1) hKK hP (ci := 2) rfl rfl (cwV 2 hts gX2_join_X2_areTwo rfl rfl rfl (by decide +kernel) ⟨Nat.le_of_ble_eq_true rfl, Nat.le_of_ble_eq_true rfl⟩) rfl hl.1 rfl (Nat.le_of_ble_eq_true rfl) dX2_join_3 ⟨Nat.le_of_ble_eq_true rfl, Nat.le_of_ble_eq_true rfl⟩ (fun r19830 hr19830 => ?_)
  refine lv_if_ne (tgt := 10) hx hb dX2_join_6 (by decide) (fun c19831 => ?_) (fun c19831 => ?_)
  · have g19832 : Rg 0 11 x0 := (hr19830.2 c19831).1
    have g19833 : Rg 0 11 x1 := (hr19830.2 c19831).2
    have g19834 : Rg 1 1 r19830 := rg_ne_lo (k := 0) hr19830.1 (by decide) c19831 (by decide)
    refine lv_iload_n hx hb dX2_join_10 rfl (lv_at hl 3 rfl) ?_
    refine lv_if_eq (tgt := 41) hx hb dX2_join_11 (by decide) (fun c19835 => ?_) (fun c19835 => ?_)
    · have g19836 : Rg 0 0 x2 := wk_eql px2 (by decide : Rg 0 0 (0 : Int32)) c19835 (by decide)
      refine lv_aload_n hx hb dX2_join_41 rfl (lv_at hl 0 rfl) ?_
      refine va_get (D := D) (ci := 2) (v := .ref (a 2)) (C := RX2) (T := TX2) (N := 3) hx hb hts hin2 hown hK hP 1 rfl rfl 0 (by decide) (hts (.fieldLink RX2 9 "MissedPoints$Net" "links" "[I") (by decide +kernel)) (fun _ h9 => h9) rfl dX2_join_42 ?_
      refine lv_iload_n hx hb dX2_join_45 rfl (lv_at hl 1 rfl) ?_
      refine lv_dup2_11 hx hb dX2_join_46 rfl rfl ?_
      refine wk_aldA hx hb hK hP 2 0 rfl rfl (rg_in g19832 (by decide) (by decide)) dX2_join_47 (fun r19837 => ?_)
      refine lv_iconst (v := 1) hx hb dX2_join_48 (by decide) ?_
      refine lv_iload_n hx hb dX2_join_49 rfl (lv_at hl 2 rfl) ?_
      refine wk_ishl1 (f := 2048) hx hb dX2_join_50 g19833 (by decide) (fun r19838 hr19838 qr19838 => ?_)
      refine lv_iconst (v := (-1)) hx hb dX2_join_51 (by decide) ?_
      refine lv_ixor hx hb dX2_join_52 ?_
      refine wk_topP (P := fun r => r = r19838 ^^^ ((-1) : Int32)) rfl (fun r19839 qr19839 => ?_)
      refine lv_iand hx hb dX2_join_53 ?_
      refine wk_topP (P := fun r => r = r19837 &&& r19839) rfl (fun r19840 qr19840 => ?_)
      refine ks_ast hx hb hK hP hD hS rfl (k := 2) rfl sx_2 (rg_in g19832 (by decide) (by decide)) dX2_join_54 (fun u H locs hP hD hS => ?_)
      refine lv_aload_n hx hb dX2_join_55 rfl (lv_at hl 0 rfl) ?_
      refine va_get (D := D) (ci := 2) (v := .ref (a 2)) (C := RX2) (T := TX2) (N := 3) hx hb hts hin2 hown hK hP 1 rfl rfl 0 (by decide) (hts (.fieldLink RX2 9 "MissedPoints$Net" "links" "[I") (by decide +kernel)) (fun _ h9 => h9) rfl dX2_join_56 ?_
      refine lv_iload_n hx hb dX2_join_59 rfl (lv_at hl 2 rfl) ?_
      refine lv_dup2_11 hx hb dX2_join_60 rfl rfl ?_
      refine wk_aldA hx hb hK hP 2 0 rfl rfl (rg_in g19833 (by decide) (by decide)) dX2_join_61 (fun r19841 => ?_)
      refine lv_iconst (v := 1) hx hb dX2_join_62 (by decide) ?_
      refine lv_iload_n hx hb dX2_join_63 rfl (lv_at hl 1 rfl) ?_
      refine wk_ishl1 (f := 2048) hx hb dX2_join_64 g19832 (by decide) (fun r19842 hr19842 qr19842 => ?_)
      refine lv_iconst (v := (-1)) hx hb dX2_join_65 (by decide) ?_
      refine lv_ixor hx hb dX2_join_66 ?_
      refine wk_topP (P := fun r => r = r19842 ^^^ ((-1) : Int32)) rfl (fun r19843 qr19843 => ?_)
      refine lv_iand hx hb dX2_join_67 ?_
      refine wk_topP (P := fun r => r = r19841 &&& r19843) rfl (fun r19844 qr19844 => ?_)
      refine ks_ast hx hb hK hP hD hS rfl (k := 2) rfl sx_2 (rg_in g19833 (by decide) (by decide)) dX2_join_68 (fun u H locs hP hD hS => ?_)
      refine lv_aload_n hx hb dX2_join_69 rfl (lv_at hl 0 rfl) ?_
      refine lv_dup hx hb dX2_join_70 rfl ?_
      refine va_get (D := D) (ci := 2) (v := .int (u 1 2)) (C := RX2) (T := TX2) (N := 3) hx hb hts hin2 hown hK hP 1 rfl rfl 2 (by decide) (hts (.fieldLink RX2 33 "MissedPoints$Net" "changes" "I") (by decide +kernel)) (fun _ h9 => h9) rfl dX2_join_71 ?_
      refine wk_any (fun r19845 => ?_)
      refine lv_iconst (v := 1) hx hb dX2_join_74 (by decide) ?_
      refine lv_iadd hx hb dX2_join_75 ?_
      refine wk_topP (P := fun r => r = r19845 + (1 : Int32)) rfl (fun r19846 qr19846 => ?_)
      refine va_put (D := D) (ci := 2) (v := .int r19846) (ty := .int) (C := RX2) (T := TX2) (N := 3) hx hb hts hin2 tyX2 tyX2_ok nmX2 hown hK hP hD hS 1 rfl rfl 2 (by decide) (hts (.fieldLink RX2 33 "MissedPoints$Net" "changes" "I") (by decide +kernel)) (fun _ h9 => h9) rfl (by decide +kernel) rfl rfl (Nat.le_of_ble_eq_true rfl) dX2_join_76 (fun H locs hP hD hS => ?_)
      rw [sxf_1_2] at hP hD
      generalize sU u 1 _ = u at hP hD
      subst hAe
      exact W.vret hx hb hr (fun t ht hW => ⟨⟨u, rfl, trivial, by rw [ht]; exact hP, hD⟩, hS.F ht⟩) hS.2.2 dX2_join_79
    · have g19847 : Rg 1 1 x2 := rg_ne_lo (k := 0) px2 (by decide) c19835 (by decide)
      refine lv_aload_n hx hb dX2_join_14 rfl (lv_at hl 0 rfl) ?_
      refine va_get (D := D) (ci := 2) (v := .ref (a 2)) (C := RX2) (T := TX2) (N := 3) hx hb hts hin2 hown hK hP 1 rfl rfl 0 (by decide) (hts (.fieldLink RX2 9 "MissedPoints$Net" "links" "[I") (by decide +kernel)) (fun _ h9 => h9) rfl dX2_join_15 ?_
      refine lv_iload_n hx hb dX2_join_18 rfl (lv_at hl 1 rfl) ?_
      refine lv_dup2_11 hx hb dX2_join_19 rfl rfl ?_
      refine wk_aldA hx hb hK hP 2 0 rfl rfl (rg_in g19832 (by decide) (by decide)) dX2_join_20 (fun r19848 => ?_)
      refine lv_iconst (v := 1) hx hb dX2_join_21 (by decide) ?_
      refine lv_iload_n hx hb dX2_join_22 rfl (lv_at hl 2 rfl) ?_
      refine wk_ishl1 (f := 2048) hx hb dX2_join_23 g19833 (by decide) (fun r19849 hr19849 qr19849 => ?_)
      refine lv_ior hx hb dX2_join_24 ?_
      refine wk_topP (P := fun r => r = r19848 ||| r19849) rfl (fun r19850 qr19850 => ?_)
      refine ks_ast hx hb hK hP hD hS rfl (k := 2) rfl sx_2 (rg_in g19832 (by decide) (by decide)) dX2_join_25 (fun u H locs hP hD hS => ?_)
      refine lv_aload_n hx hb dX2_join_26 rfl (lv_at hl 0 rfl) ?_
      refine va_get (D := D) (ci := 2) (v := .ref (a 2)) (C := RX2) (T := TX2) (N := 3) hx hb hts hin2 hown hK hP 1 rfl rfl 0 (by decide) (hts (.fieldLink RX2 9 "MissedPoints$Net" "links" "[I") (by decide +kernel)) (fun _ h9 => h9) rfl dX2_join_27 ?_
      refine lv_iload_n hx hb dX2_join_30 rfl (lv_at hl 2 rfl) ?_
      refine lv_dup2_11 hx hb dX2_join_31 rfl rfl ?_
      refine wk_aldA hx hb hK hP 2 0 rfl rfl (rg_in g19833 (by decide) (by decide)) dX2_join_32 (fun r19851 => ?_)
      refine lv_iconst (v := 1) hx hb dX2_join_33 (by decide) ?_
      refine lv_iload_n hx hb dX2_join_34 rfl (lv_at hl 1 rfl) ?_
      refine wk_ishl1 (f := 2048) hx hb dX2_join_35 g19832 (by decide) (fun r19852 hr19852 qr19852 => ?_)
      refine lv_ior hx hb dX2_join_36 ?_
      refine wk_topP (P := fun r => r = r19851 ||| r19852) rfl (fun r19853 qr19853 => ?_)
      refine ks_ast hx hb hK hP hD hS rfl (k := 2) rfl sx_2 (rg_in g19833 (by decide) (by decide)) dX2_join_37 (fun u H locs hP hD hS => ?_)
      refine lv_goto (tgt := 69) hx hb dX2_join_38 (by decide) ?_
      refine lv_aload_n hx hb dX2_join_69 rfl (lv_at hl 0 rfl) ?_
      refine lv_dup hx hb dX2_join_70 rfl ?_
      refine va_get (D := D) (ci := 2) (v := .int (u 1 2)) (C := RX2) (T := TX2) (N := 3) hx hb hts hin2 hown hK hP 1 rfl rfl 2 (by decide) (hts (.fieldLink RX2 33 "MissedPoints$Net" "changes" "I") (by decide +kernel)) (fun _ h9 => h9) rfl dX2_join_71 ?_
      refine wk_any (fun r19854 => ?_)
      refine lv_iconst (v := 1) hx hb dX2_join_74 (by decide) ?_
      refine lv_iadd hx hb dX2_join_75 ?_
      refine wk_topP (P := fun r => r = r19854 + (1 : Int32)) rfl (fun r19855 qr19855 => ?_)
      refine va_put (D := D) (ci := 2) (v := .int r19855) (ty := .int) (C := RX2) (T := TX2) (N := 3) hx hb hts hin2 tyX2 tyX2_ok nmX2 hown hK hP hD hS 1 rfl rfl 2 (by decide) (hts (.fieldLink RX2 33 "MissedPoints$Net" "changes" "I") (by decide +kernel)) (fun _ h9 => h9) rfl (by decide +kernel) rfl rfl (Nat.le_of_ble_eq_true rfl) dX2_join_76 (fun H locs hP hD hS => ?_)
      rw [sxf_1_2] at hP hD
      generalize sU u 1 _ = u at hP hD
      subst hAe
      exact W.vret hx hb hr (fun t ht hW => ⟨⟨u, rfl, trivial, by rw [ht]; exact hP, hD⟩, hS.F ht⟩) hS.2.2 dX2_join_79
  · have g19856 : Rg 0 0 r19830 := wk_eql hr19830.1 (by decide : Rg 0 0 (0 : Int32)) c19831 (by decide)
    subst hAe
    exact W.vret hx hb hr (fun t ht hW => ⟨⟨u, rfl, trivial, by rw [ht]; exact hP, hD⟩, hS.F ht⟩) hS.2.2 dX2_join_9
set_option maxRecDepth 20000 in
theorem ggX2_near_X2_hasPoint : GoodIn wsX2_near wsX2_hasPoint := goodIn_r _ [6, 7, 8, 9, 10] (by decide +kernel) (by decide +kernel)
set_option maxRecDepth 20000 in
theorem gX2_near_X2_hasPoint : GoodIn wsX2_near (wsV RX2 23 RX2 yX2_hasPoint wsX2_hasPoint) := goodIn_app (goodIn_of _ (by decide +kernel)) ggX2_near_X2_hasPoint
theorem dX2_near_0 : decode cX2_near 0 = .ok (.aload_n 0, 1) := by decide +kernel
theorem dX2_near_1 : decode cX2_near 1 = .ok (.iload_n 1, 1) := by decide +kernel
theorem dX2_near_12 : decode cX2_near 12 = .ok (.iload_n 1, 1) := by decide +kernel
theorem dX2_near_13 : decode cX2_near 13 = .ok (.iaload, 1) := by decide +kernel
theorem dX2_near_14 : decode cX2_near 14 = .ok (.goto 4, 3) := by decide +kernel
theorem dX2_near_17 : decode cX2_near 17 = .ok (.iconst 0, 1) := by decide +kernel
theorem dX2_near_18 : decode cX2_near 18 = .ok (.ireturn, 1) := by decide +kernel
theorem dX2_near_2 : decode cX2_near 2 = .ok (.invokevirtual 23, 3) := by decide +kernel
theorem dX2_near_5 : decode cX2_near 5 = .ok (.ifCond .eq 12, 3) := by decide +kernel
theorem dX2_near_8 : decode cX2_near 8 = .ok (.aload_n 0, 1) := by decide +kernel
theorem dX2_near_9 : decode cX2_near 9 = .ok (.getfield 9, 3) := by decide +kernel
set_option maxHeartbeats 4000000 in
set_option maxRecDepth 100000 in
theorem k_X2_near (l : Launch) (D : va_G) (cI cS : ClassId) (a : Nat → Nat) (na nc N : Nat) (L u : SU) (hL : TyX L) (hN : N = 0 ∨ N = 24576) (x0 : Int32) : Met l yX2_near wsX2_near ({ frames := 1, cells := 0, slots := 0, locals := 40 }) (PS D cI cS (wX cI cS a na nc N L u) [.ref (a 1), .int x0]) (vp_Si (fun r => Rg (-2147483648) 2147483647 r ∧ True)) 0 0 (fun _ => False) := by
  refine Met.ofW (cc := cX2_near) (maxL := 2) (ret := (some .int)) (by decide) rfl ?_
  intro p e s m args below meth c s₁ B hml hv
  obtain ⟨rfl, hP, hKK⟩ := hv
  have hx := B.exec
  have hb := B.bytes
  have hr := B.returns
  have hts := atoms_spec (ws := wsX2_near) B.pre
  have hown : s.vm.findClass RX2 = some m.cls := findClass_of_methodNamed B.named
  have hlocks := B.notSynchronized
  have hK := hKK.1
  have hin2 : ∀ w ∈ wsX20, w ∈ wsX2_near := by decide +kernel
  have hl := lv_entry ([.ref (a 1), .int x0]) (n := 2) (Nat.le_of_ble_eq_true rfl)
  rw [lg_entry_eq]
  generalize (lg_sl ([.ref (a 1), .int x0]) ++ List.replicate (2 - (lg_sl ([.ref (a 1), .int x0])).length) Slot.unset).toArray = ls at hl ⊢
  have hl : lv_has ls 2 [(0, .ref (a 1)), (1, .int x0)] := hl
  refine lv_aload_n hx hb dX2_near_0 rfl (lv_at hl 0 rfl) ?_
  refine lv_iload_n hx hb dX2_near_1 rfl (lv_at hl 1 rfl) ?_
  refine wk_sv 1 (As := [.int x0]) (rest := []) ⟨hx, hb, hml, hown, hts⟩ (k_X2_hasPoint l D cI cS a na nc N L u hL hN x0) hKK hP (ci := 2) rfl rfl (cwV 1 hts gX2_near_X2_hasPoint rfl rfl rfl (by decide +kernel) ⟨Nat.le_of_ble_eq_true rfl, Nat.le_of_ble_eq_true rfl⟩) rfl hl.1 rfl (Nat.le_of_ble_eq_true rfl) dX2_near_2 ⟨Nat.le_of_ble_eq_true rfl, Nat.le_of_ble_eq_true rfl⟩ (fun r19863 hr19863 => ?_)
  refine lv_if_eq (tgt := 17) hx hb dX2_near_5 (by decide) (fun c19864 => ?_) (fun c19864 => ?_)
  · have g19865 : Rg 0 0 r19863 := wk_eql hr19863.1 (by decide : Rg 0 0 (0 : Int32)) c19864 (by decide)
    refine lv_iconst (v := 0) hx hb dX2_near_17 (by decide) ?_
    exact W.iret (v := 0) hx hb hr (fun t ht hW => ⟨_, rfl, ⟨(by decide : Rg (-2147483648) 2147483647 (0 : Int32)), trivial⟩, ht⟩) (fun q hq => absurd hq List.not_mem_nil) dX2_near_18
  · have g19866 : Rg 0 11 x0 := (hr19863.2 c19864)
    have g19867 : Rg 1 1 r19863 := rg_ne_lo (k := 0) hr19863.1 (by decide) c19864 (by decide)
    refine lv_aload_n hx hb dX2_near_8 rfl (lv_at hl 0 rfl) ?_
    refine va_get (D := D) (ci := 2) (v := .ref (a 2)) (C := RX2) (T := TX2) (N := 3) hx hb hts hin2 hown hK hP 1 rfl rfl 0 (by decide) (hts (.fieldLink RX2 9 "MissedPoints$Net" "links" "[I") (by decide +kernel)) (fun _ h9 => h9) rfl dX2_near_9 ?_
    refine lv_iload_n hx hb dX2_near_12 rfl (lv_at hl 1 rfl) ?_
    refine wk_aldA hx hb hK hP 2 0 rfl rfl (rg_in g19866 (by decide) (by decide)) dX2_near_13 (fun r19868 => ?_)
    refine lv_goto (tgt := 18) hx hb dX2_near_14 (by decide) ?_
    exact W.iret (v := r19868) hx hb hr (fun t ht hW => ⟨_, rfl, ⟨(rg_any r19868), trivial⟩, ht⟩) (fun q hq => absurd hq List.not_mem_nil) dX2_near_18
theorem dX2_nearAny_12 : decode cX2_nearAny 12 = .ok (.iload_n 1, 1) := by decide +kernel
theorem dX2_nearAny_13 : decode cX2_nearAny 13 = .ok (.iload_n 3, 1) := by decide +kernel
theorem dX2_nearAny_14 : decode cX2_nearAny 14 = .ok (.ishr, 1) := by decide +kernel
theorem dX2_nearAny_15 : decode cX2_nearAny 15 = .ok (.iconst 1, 1) := by decide +kernel
theorem dX2_nearAny_16 : decode cX2_nearAny 16 = .ok (.iand, 1) := by decide +kernel
theorem dX2_nearAny_17 : decode cX2_nearAny 17 = .ok (.ifCond .eq 12, 3) := by decide +kernel
theorem dX2_nearAny_20 : decode cX2_nearAny 20 = .ok (.iload_n 2, 1) := by decide +kernel
theorem dX2_nearAny_21 : decode cX2_nearAny 21 = .ok (.aload_n 0, 1) := by decide +kernel
theorem dX2_nearAny_22 : decode cX2_nearAny 22 = .ok (.getfield 9, 3) := by decide +kernel
theorem dX2_nearAny_25 : decode cX2_nearAny 25 = .ok (.iload_n 3, 1) := by decide +kernel
theorem dX2_nearAny_26 : decode cX2_nearAny 26 = .ok (.iaload, 1) := by decide +kernel
theorem dX2_nearAny_27 : decode cX2_nearAny 27 = .ok (.ior, 1) := by decide +kernel
theorem dX2_nearAny_28 : decode cX2_nearAny 28 = .ok (.istore_n 2, 1) := by decide +kernel
theorem dX2_nearAny_29 : decode cX2_nearAny 29 = .ok (.iinc 3 1, 3) := by decide +kernel
theorem dX2_nearAny_32 : decode cX2_nearAny 32 = .ok (.goto (-28), 3) := by decide +kernel
set_option maxHeartbeats 4000000 in
set_option maxRecDepth 100000 in
theorem k_X2_nearAny (l : Launch) (D : va_G) (cI cS : ClassId) (a : Nat → Nat) (na nc N : Nat) (L u : SU) (hL : TyX L) (hN : N = 0 ∨ N = 24576) (x0 : Int32) : Met l yX2_nearAny wsX2_nearAny ({ frames := 0, cells := 0, slots := 0, locals := 0 }) (PS D cI cS (wX cI cS a na nc N L u) [.ref (a 1), .int x0]) (vp_Si (fun r => Rg (-2147483648) 2147483647 r ∧ True)) 0 0 (fun _ => False) := by
  refine Met.ofW (cc := cX2_nearAny) (maxL := 4) (ret := (some .int)) (by decide) rfl ?_
  intro p e s m args below meth c s₁ B hml hv
  obtain ⟨rfl, hP, hKK⟩ := hv
  have hx := B.exec
  have hb := B.bytes
  have hr := B.returns
  have hts := atoms_spec (ws := wsX2_nearAny) B.pre
  have hown : s.vm.findClass RX2 = some m.cls := findClass_of_methodNamed B.named
  have hlocks := B.notSynchronized
  have hK := hKK.1
  have hin2 : ∀ w ∈ wsX20, w ∈ wsX2_nearAny := by decide +kernel
  have hl := lv_entry ([.ref (a 1), .int x0]) (n := 4) (Nat.le_of_ble_eq_true rfl)
  rw [lg_entry_eq]
  generalize (lg_sl ([.ref (a 1), .int x0]) ++ List.replicate (4 - (lg_sl ([.ref (a 1), .int x0])).length) Slot.unset).toArray = ls at hl ⊢
  have hl : lv_has ls 4 [(0, .ref (a 1)), (1, .int x0)] := hl
  have lp4 : ∀ (n4 : Nat) (y4_l2 y4_l3 : Int32) (ls : Array Slot), Rg 0 12 y4_l3 → lv_has ls 4 [(0, .ref (a 1)), (1, .int x0), (2, .int y4_l2), (3, .int y4_l3)] → 12 - y4_l3.toInt < (n4 : Int) → W p l e (headSpec wsX2_nearAny ({ frames := 0, cells := 0, slots := 0, locals := 0 })).room s m ([.ref (a 1), .int x0]).toArray below meth c s.heap [] 0 0 (MQ below (vp_Si (fun r => Rg (-2147483648) 2147483647 r ∧ True)) ([.ref (a 1), .int x0]).toArray s 0 0 (fun _ => False)) (F0 m 4 ls []) := by
    intro n4
    induction n4 with
    | zero =>
      intro y4_l2 y4_l3 ls g4_l3 hl hm4
      exact absurd rfl (me_z g4_l3 hm4)
    | succ n4 ih4 =>
      intro y4_l2 y4_l3 ls g4_l3 hl hm4
      refine lv_iload_n hx hb dX2_nearAny_4 rfl (lv_at hl 3 rfl) ?_
      refine lv_aload_n hx hb dX2_nearAny_5 rfl (lv_at hl 0 rfl) ?_
      refine va_get (D := D) (ci := 2) (v := .int (L 1 1)) (C := RX2) (T := TX2) (N := 3) hx hb hts hin2 hown hK hP 1 rfl rfl 1 (by decide) (hts (.fieldLink RX2 15 "MissedPoints$Net" "size" "I") (by decide +kernel)) (fun _ h9 => h9) rfl dX2_nearAny_6 ?_
      refine lv_icmp_ge (tgt := 35) hx hb dX2_nearAny_9 (by decide) (fun c19973 => ?_) (fun c19973 => ?_)
      · refine lv_iload_n hx hb dX2_nearAny_35 rfl (lv_at hl 2 rfl) ?_
        exact W.iret (v := y4_l2) hx hb hr (fun t ht hW => ⟨_, rfl, ⟨(rg_any y4_l2), trivial⟩, ht⟩) (fun q hq => absurd hq List.not_mem_nil) dX2_nearAny_36
      · have g19974 : Rg 1 12 (L 1 1) := rg_ltr g4_l3 hL.1 (rg_nle c19973) (by decide)
        have g19975 : Rg 0 11 y4_l3 := rg_ltl g4_l3 hL.1 (rg_nle c19973) (by decide)
        refine lv_iload_n hx hb dX2_nearAny_12 rfl (lv_at hl 1 rfl) ?_
        refine lv_iload_n hx hb dX2_nearAny_13 rfl (lv_at hl 3 rfl) ?_
        refine lv_ishr hx hb dX2_nearAny_14 ?_
        refine wk_topP (P := fun r => r = x0 >>> (y4_l3 &&& 31)) rfl (fun r19976 qr19976 => ?_)
        refine lv_iconst (v := 1) hx hb dX2_nearAny_15 (by decide) ?_
        refine wk_iandr hx hb dX2_nearAny_16 (by decide : Rg 1 1 (1 : Int32)) (by decide) (fun r19977 hr19977 qr19977 => ?_)
        refine lv_if_eq (tgt := 29) hx hb dX2_nearAny_17 (by decide) (fun c19978 => ?_) (fun c19978 => ?_)
        · have g19979 : Rg 0 0 r19977 := wk_eql hr19977 (by decide : Rg 0 0 (0 : Int32)) c19978 (by decide)
          refine wk_iinc (lv' := fun r => [(3, .int r), (0, .ref (a 1)), (1, .int x0), (2, .int y4_l2)]) (e1 := 1) (f := 12) hx hb dX2_nearAny_29 hl (k := 3) rfl (by decide) g19975 (by decide) (fun _ => rfl) (fun r19980 ls hr19980 er19980 hl => ?_)
          refine lv_goto (tgt := 4) hx hb dX2_nearAny_32 (by decide) ?_
          exact ih4 y4_l2 r19980 ls (show Rg 0 12 r19980 from rg_w hr19980 (by decide) (by decide)) (lv_sub (l' := [(0, .ref (a 1)), (1, .int x0), (2, .int y4_l2), (3, .int r19980)]) hl [1, 2, 3, 0] rfl) (me_up hm4 er19980 (by decide))
        · have g19981 : Rg 1 1 r19977 := rg_ne_lo (k := 0) hr19977 (by decide) c19978 (by decide)
          refine lv_iload_n hx hb dX2_nearAny_20 rfl (lv_at hl 2 rfl) ?_
          refine lv_aload_n hx hb dX2_nearAny_21 rfl (lv_at hl 0 rfl) ?_
          refine va_get (D := D) (ci := 2) (v := .ref (a 2)) (C := RX2) (T := TX2) (N := 3) hx hb hts hin2 hown hK hP 1 rfl rfl 0 (by decide) (hts (.fieldLink RX2 9 "MissedPoints$Net" "links" "[I") (by decide +kernel)) (fun _ h9 => h9) rfl dX2_nearAny_22 ?_
          refine lv_iload_n hx hb dX2_nearAny_25 rfl (lv_at hl 3 rfl) ?_
          refine wk_aldA hx hb hK hP 2 0 rfl rfl (rg_in g19975 (by decide) (by decide)) dX2_nearAny_26 (fun r19982 => ?_)
          refine lv_ior hx hb dX2_nearAny_27 ?_
          refine wk_topP (P := fun r => r = y4_l2 ||| r19982) rfl (fun r19983 qr19983 => ?_)
          refine lv_istore_n (lv' := [(2, .int r19983), (0, .ref (a 1)), (1, .int x0), (3, .int y4_l3)]) hx hb dX2_nearAny_28 rfl hl (by decide) rfl (fun ls hl => ?_)
          refine wk_iinc (lv' := fun r => [(3, .int r), (2, .int r19983), (0, .ref (a 1)), (1, .int x0)]) (e1 := 1) (f := 12) hx hb dX2_nearAny_29 hl (k := 3) rfl (by decide) g19975 (by decide) (fun _ => rfl) (fun r19984 ls hr19984 er19984 hl => ?_)
          refine lv_goto (tgt := 4) hx hb dX2_nearAny_32 (by decide) ?_
          exact ih4 r19983 r19984 ls (show Rg 0 12 r19984 from rg_w hr19984 (by decide) (by decide)) (lv_sub (l' := [(0, .ref (a 1)), (1, .int x0), (2, .int r19983), (3, .int r19984)]) hl [2, 3, 1, 0] rfl) (me_up hm4 er19984 (by decide))
  refine lv_iconst (v := 0) hx hb dX2_nearAny_0 (by decide) ?_
  refine lv_istore_n (lv' := [(2, .int 0), (0, .ref (a 1)), (1, .int x0)]) hx hb dX2_nearAny_1 rfl hl (by decide) rfl (fun ls hl => ?_)
  refine lv_iconst (v := 0) hx hb dX2_nearAny_2 (by decide) ?_
  refine lv_istore_n (lv' := [(3, .int 0), (2, .int 0), (0, .ref (a 1)), (1, .int x0)]) hx hb dX2_nearAny_3 rfl hl (by decide) rfl (fun ls hl => ?_)
  exact lp4 13 (0 : Int32) (0 : Int32) ls (by decide : Rg 0 12 (0 : Int32)) (lv_sub (l' := [(0, .ref (a 1)), (1, .int x0), (2, .int 0), (3, .int 0)]) hl [2, 3, 1, 0] rfl) (me_i (by decide : Rg 0 12 (0 : Int32)) (by decide))
set_option maxHeartbeats 4000000 in
set_option maxRecDepth 100000 in
theorem k_X2_lineCount (l : Launch) (D : va_G) (cI cS : ClassId) (a : Nat → Nat) (na nc N : Nat) (L u : SU) (hL : TyX L) (hN : N = 0 ∨ N = 24576) : Met l yX2_lineCount wsX2_lineCount ({ frames := 1, cells := 0, slots := 0, locals := 40 }) (PS D cI cS (wX cI cS a na nc N L u) [.ref (a 1)]) (vp_Si (fun r => Rg (-2147483648) 2147483647 r ∧ True)) 0 0 (fun _ => False) := by
  refine Met.ofW (cc := cX2_lineCount) (maxL := 3) (ret := (some .int)) (by decide) rfl ?_
  intro p e s m args below meth c s₁ B hml hv
  obtain ⟨rfl, hP, hKK⟩ := hv
  have hx := B.exec
  have hb := B.bytes
  have hr := B.returns
  have hts := atoms_spec (ws := wsX2_lineCount) B.pre
  have hown : s.vm.findClass RX2 = some m.cls := findClass_of_methodNamed B.named
  have hlocks := B.notSynchronized
  have hK := hKK.1
  have hin2 : ∀ w ∈ wsX20, w ∈ wsX2_lineCount := by decide +kernel
  have hl := lv_entry ([.ref (a 1)]) (n := 3) (Nat.le_of_ble_eq_true rfl)
  rw [lg_entry_eq]
  generalize (lg_sl ([.ref (a 1)]) ++ List.replicate (3 - (lg_sl ([.ref (a 1)])).length) Slot.unset).toArray = ls at hl ⊢
  have hl : lv_has ls 3 [(0, .ref (a 1))] := hl
  have lp4 : ∀ (n4 : Nat) (y4_l1 y4_l2 : Int32) (ls : Array Slot), Rg 0 12 y4_l2 → lv_has ls 3 [(0, .ref (a 1)), (1, .int y4_l1), (2, .int y4_l2)] → 12 - y4_l2.toInt < (n4 : Int) → W p l e (headSpec wsX2_lineCount ({ frames := 1, cells := 0, slots := 0, locals := 40 })).room s m ([.ref (a 1)]).toArray below meth c s.heap [] 0 0 (MQ below (vp_Si (fun r => Rg (-2147483648) 2147483647 r ∧ True)) ([.ref (a 1)]).toArray s 0 0 (fun _ => False)) (F0 m 4 ls []) := by
    intro n4
    induction n4 with
    | zero =>
      intro y4_l1 y4_l2 ls g4_l2 hl hm4
      exact absurd rfl (me_z g4_l2 hm4)
    | succ n4 ih4 =>
      intro y4_l1 y4_l2 ls g4_l2 hl hm4
      refine lv_iload_n hx hb dX2_lineCount_4 rfl (lv_at hl 2 rfl) ?_
      refine lv_aload_n hx hb dX2_lineCount_5 rfl (lv_at hl 0 rfl) ?_
      refine va_get (D := D) (ci := 2) (v := .int (L 1 1)) (C := RX2) (T := TX2) (N := 3) hx hb hts hin2 hown hK hP 1 rfl rfl 1 (by decide) (hts (.fieldLink RX2 15 "MissedPoints$Net" "size" "I") (by decide +kernel)) (fun _ h9 => h9) rfl dX2_lineCount_6 ?_
      refine lv_icmp_ge (tgt := 30) hx hb dX2_lineCount_9 (by decide) (fun c20065 => ?_) (fun c20065 => ?_)
      · refine lv_iload_n hx hb dX2_lineCount_30 rfl (lv_at hl 1 rfl) ?_
        refine lv_iconst (v := 2) hx hb dX2_lineCount_31 (by decide) ?_
        refine lv_idiv hx hb dX2_lineCount_32 (by decide) ?_
        refine wk_any (fun r20066 => ?_)
        exact W.iret (v := r20066) hx hb hr (fun t ht hW => ⟨_, rfl, ⟨(rg_any r20066), trivial⟩, ht⟩) (fun q hq => absurd hq List.not_mem_nil) dX2_lineCount_33
      · have g20067 : Rg 1 12 (L 1 1) := rg_ltr g4_l2 hL.1 (rg_nle c20065) (by decide)
        have g20068 : Rg 0 11 y4_l2 := rg_ltl g4_l2 hL.1 (rg_nle c20065) (by decide)
        refine lv_iload_n hx hb dX2_lineCount_12 rfl (lv_at hl 1 rfl) ?_
        refine lv_aload_n hx hb dX2_lineCount_13 rfl (lv_at hl 0 rfl) ?_
        refine va_get (D := D) (ci := 2) (v := .ref (a 2)) (C := RX2) (T := TX2) (N := 3) hx hb hts hin2 hown hK hP 1 rfl rfl 0 (by decide) (hts (.fieldLink RX2 9 "MissedPoints$Net" "links" "[I") (by decide +kernel)) (fun _ h9 => h9) rfl dX2_lineCount_14 ?_
        refine lv_iload_n hx hb dX2_lineCount_17 rfl (lv_at hl 2 rfl) ?_
        refine wk_aldA hx hb hK hP 2 0 rfl rfl (rg_in g20068 (by decide) (by decide)) dX2_lineCount_18 (fun r20069 => ?_)
        refine lz_ss (As := [.int r20069]) (rest := [.int y4_l1]) ⟨hx, hb, hml, hown, hts⟩ (k_J6_bitCount_0f7a4 l D cI cS r20069) hKK (hP.sub (ws' := []) [] rfl) (va_cwS 1 hts gX2_lineCount_J6_bitCount_0f7a4 rfl rfl rfl (by decide +kernel) ⟨Nat.le_of_ble_eq_true rfl, Nat.le_of_ble_eq_true rfl⟩) rfl hl.1 rfl (Nat.le_of_ble_eq_true rfl) dX2_lineCount_19 ⟨Nat.le_of_ble_eq_true rfl, Nat.le_of_ble_eq_true rfl⟩ (fun r20070 hr20070 => ?_)
        refine lv_iadd hx hb dX2_lineCount_22 ?_
        refine wk_topP (P := fun r => r = y4_l1 + r20070) rfl (fun r20071 qr20071 => ?_)
        refine lv_istore_n (lv' := [(1, .int r20071), (0, .ref (a 1)), (2, .int y4_l2)]) hx hb dX2_lineCount_23 rfl hl (by decide) rfl (fun ls hl => ?_)
        refine wk_iinc (lv' := fun r => [(2, .int r), (1, .int r20071), (0, .ref (a 1))]) (e1 := 1) (f := 12) hx hb dX2_lineCount_24 hl (k := 2) rfl (by decide) g20068 (by decide) (fun _ => rfl) (fun r20072 ls hr20072 er20072 hl => ?_)
        refine lv_goto (tgt := 4) hx hb dX2_lineCount_27 (by decide) ?_
        exact ih4 r20071 r20072 ls (show Rg 0 12 r20072 from rg_w hr20072 (by decide) (by decide)) (lv_sub (l' := [(0, .ref (a 1)), (1, .int r20071), (2, .int r20072)]) hl [2, 1, 0] rfl) (me_up hm4 er20072 (by decide))
  refine lv_iconst (v := 0) hx hb dX2_lineCount_0 (by decide) ?_
  refine lv_istore_n (lv' := [(1, .int 0), (0, .ref (a 1))]) hx hb dX2_lineCount_1 rfl hl (by decide) rfl (fun ls hl => ?_)
  refine lv_iconst (v := 0) hx hb dX2_lineCount_2 (by decide) ?_
  refine lv_istore_n (lv' := [(2, .int 0), (1, .int 0), (0, .ref (a 1))]) hx hb dX2_lineCount_3 rfl hl (by decide) rfl (fun ls hl => ?_)
  exact lp4 13 (0 : Int32) (0 : Int32) ls (by decide : Rg 0 12 (0 : Int32)) (lv_sub (l' := [(0, .ref (a 1)), (1, .int 0), (2, .int 0)]) hl [2, 1, 0] rfl) (me_i (by decide : Rg 0 12 (0 : Int32)) (by decide))
set_option maxRecDepth 20000 in
theorem ggX2_firstPiece_J6_lowestOneBit_0f7a4 : GoodIn wsX2_firstPiece wsJ6_lowestOneBit_0f7a4 := goodIn_r _ [4] (by decide +kernel) (by decide +kernel)
set_option maxRecDepth 20000 in
theorem gX2_firstPiece_J6_lowestOneBit_0f7a4 : GoodIn wsX2_firstPiece (va_wsS RX2 75 yJ6_lowestOneBit_0f7a4 wsJ6_lowestOneBit_0f7a4) := goodIn_app (goodIn_of _ (by decide +kernel)) ggX2_firstPiece_J6_lowestOneBit_0f7a4
set_option maxRecDepth 20000 in
theorem ggX2_firstPiece_J6_numberOfTrailingZeros_0f7a4 : GoodIn wsX2_firstPiece wsJ6_numberOfTrailingZeros_0f7a4 := goodIn_r _ [7, 8] (by decide +kernel) (by decide +kernel)
set_option maxRecDepth 20000 in
theorem gX2_firstPiece_J6_numberOfTrailingZeros_0f7a4 : GoodIn wsX2_firstPiece (va_wsS RX2 78 yJ6_numberOfTrailingZeros_0f7a4 wsJ6_numberOfTrailingZeros_0f7a4) := goodIn_app (goodIn_of _ (by decide +kernel)) ggX2_firstPiece_J6_numberOfTrailingZeros_0f7a4
theorem dX2_firstPiece_0 : decode cX2_firstPiece 0 = .ok (.iload_n 1, 1) := by decide +kernel
theorem dX2_firstPiece_1 : decode cX2_firstPiece 1 = .ok (.invokestatic 75, 3) := by decide +kernel
theorem dX2_firstPiece_10 : decode cX2_firstPiece 10 = .ok (.iload 4, 2) := by decide +kernel
theorem dX2_firstPiece_12 : decode cX2_firstPiece 12 = .ok (.bipush 12, 2) := by decide +kernel
theorem dX2_firstPiece_14 : decode cX2_firstPiece 14 = .ok (.if_icmp .ge 56, 3) := by decide +kernel
theorem dX2_firstPiece_17 : decode cX2_firstPiece 17 = .ok (.iload_n 3, 1) := by decide +kernel
theorem dX2_firstPiece_18 : decode cX2_firstPiece 18 = .ok (.ifCond .eq 52, 3) := by decide +kernel
theorem dX2_firstPiece_21 : decode cX2_firstPiece 21 = .ok (.iload_n 3, 1) := by decide +kernel
theorem dX2_firstPiece_22 : decode cX2_firstPiece 22 = .ok (.invokestatic 78, 3) := by decide +kernel
theorem dX2_firstPiece_25 : decode cX2_firstPiece 25 = .ok (.istore 5, 2) := by decide +kernel
theorem dX2_firstPiece_27 : decode cX2_firstPiece 27 = .ok (.iload 5, 2) := by decide +kernel
theorem dX2_firstPiece_29 : decode cX2_firstPiece 29 = .ok (.aload_n 0, 1) := by decide +kernel
theorem dX2_firstPiece_30 : decode cX2_firstPiece 30 = .ok (.arraylength, 1) := by decide +kernel
theorem dX2_firstPiece_31 : decode cX2_firstPiece 31 = .ok (.if_icmp .lt 5, 3) := by decide +kernel
theorem dX2_firstPiece_34 : decode cX2_firstPiece 34 = .ok (.iload_n 2, 1) := by decide +kernel
theorem dX2_firstPiece_35 : decode cX2_firstPiece 35 = .ok (.ireturn, 1) := by decide +kernel
theorem dX2_firstPiece_36 : decode cX2_firstPiece 36 = .ok (.iload_n 3, 1) := by decide +kernel
theorem dX2_firstPiece_37 : decode cX2_firstPiece 37 = .ok (.iload_n 3, 1) := by decide +kernel
theorem dX2_firstPiece_38 : decode cX2_firstPiece 38 = .ok (.iconst 1, 1) := by decide +kernel
theorem dX2_firstPiece_39 : decode cX2_firstPiece 39 = .ok (.isub, 1) := by decide +kernel
theorem dX2_firstPiece_4 : decode cX2_firstPiece 4 = .ok (.istore_n 2, 1) := by decide +kernel
theorem dX2_firstPiece_40 : decode cX2_firstPiece 40 = .ok (.iand, 1) := by decide +kernel
theorem dX2_firstPiece_41 : decode cX2_firstPiece 41 = .ok (.istore_n 3, 1) := by decide +kernel
theorem dX2_firstPiece_42 : decode cX2_firstPiece 42 = .ok (.aload_n 0, 1) := by decide +kernel
theorem dX2_firstPiece_43 : decode cX2_firstPiece 43 = .ok (.iload 5, 2) := by decide +kernel
theorem dX2_firstPiece_45 : decode cX2_firstPiece 45 = .ok (.iaload, 1) := by decide +kernel
theorem dX2_firstPiece_46 : decode cX2_firstPiece 46 = .ok (.iload_n 1, 1) := by decide +kernel
theorem dX2_firstPiece_47 : decode cX2_firstPiece 47 = .ok (.iand, 1) := by decide +kernel
theorem dX2_firstPiece_48 : decode cX2_firstPiece 48 = .ok (.iload_n 2, 1) := by decide +kernel
theorem dX2_firstPiece_49 : decode cX2_firstPiece 49 = .ok (.iconst (-1), 1) := by decide +kernel
theorem dX2_firstPiece_5 : decode cX2_firstPiece 5 = .ok (.iload_n 2, 1) := by decide +kernel
theorem dX2_firstPiece_50 : decode cX2_firstPiece 50 = .ok (.ixor, 1) := by decide +kernel
theorem dX2_firstPiece_51 : decode cX2_firstPiece 51 = .ok (.iand, 1) := by decide +kernel
theorem dX2_firstPiece_52 : decode cX2_firstPiece 52 = .ok (.istore 6, 2) := by decide +kernel
theorem dX2_firstPiece_54 : decode cX2_firstPiece 54 = .ok (.iload_n 2, 1) := by decide +kernel
theorem dX2_firstPiece_55 : decode cX2_firstPiece 55 = .ok (.iload 6, 2) := by decide +kernel
theorem dX2_firstPiece_57 : decode cX2_firstPiece 57 = .ok (.ior, 1) := by decide +kernel
theorem dX2_firstPiece_58 : decode cX2_firstPiece 58 = .ok (.istore_n 2, 1) := by decide +kernel
theorem dX2_firstPiece_59 : decode cX2_firstPiece 59 = .ok (.iload_n 3, 1) := by decide +kernel
theorem dX2_firstPiece_6 : decode cX2_firstPiece 6 = .ok (.istore_n 3, 1) := by decide +kernel
theorem dX2_firstPiece_60 : decode cX2_firstPiece 60 = .ok (.iload 6, 2) := by decide +kernel
theorem dX2_firstPiece_62 : decode cX2_firstPiece 62 = .ok (.ior, 1) := by decide +kernel
theorem dX2_firstPiece_63 : decode cX2_firstPiece 63 = .ok (.istore_n 3, 1) := by decide +kernel
theorem dX2_firstPiece_64 : decode cX2_firstPiece 64 = .ok (.iinc 4 1, 3) := by decide +kernel
theorem dX2_firstPiece_67 : decode cX2_firstPiece 67 = .ok (.goto (-57), 3) := by decide +kernel
theorem dX2_firstPiece_7 : decode cX2_firstPiece 7 = .ok (.iconst 0, 1) := by decide +kernel
theorem dX2_firstPiece_70 : decode cX2_firstPiece 70 = .ok (.iload_n 2, 1) := by decide +kernel
theorem dX2_firstPiece_71 : decode cX2_firstPiece 71 = .ok (.ireturn, 1) := by decide +kernel
theorem dX2_firstPiece_8 : decode cX2_firstPiece 8 = .ok (.istore 4, 2) := by decide +kernel
set_option maxHeartbeats 4000000 in
set_option maxRecDepth 100000 in
theorem k_X2_firstPiece (l : Launch) (D : va_G) (cI cS : ClassId) (a : Nat → Nat) (na nc N : Nat) (L u : SU) (hL : TyX L) (hN : N = 0 ∨ N = 24576) (x0 : Int32) : Met l yX2_firstPiece wsX2_firstPiece ({ frames := 1, cells := 0, slots := 0, locals := 40 }) (PS D cI cS (wX cI cS a na nc N L u) [.ref (a 2), .int x0]) (vp_Si (fun r => Rg (-2147483648) 2147483647 r ∧ True)) 0 0 (fun _ => False) := by
  refine Met.ofW (cc := cX2_firstPiece) (maxL := 7) (ret := (some .int)) (by decide) rfl ?_
  intro p e s m args below meth c s₁ B hml hv
  obtain ⟨rfl, hP, hKK⟩ := hv
  have hx := B.exec
  have hb := B.bytes
  have hr := B.returns
  have hts := atoms_spec (ws := wsX2_firstPiece) B.pre
  have hown : s.vm.findClass RX2 = some m.cls := findClass_of_methodNamed B.named
  have hlocks := B.notSynchronized
  have hK := hKK.1
  have hl := lv_entry ([.ref (a 2), .int x0]) (n := 7) (Nat.le_of_ble_eq_true rfl)
  rw [lg_entry_eq]
  generalize (lg_sl ([.ref (a 2), .int x0]) ++ List.replicate (7 - (lg_sl ([.ref (a 2), .int x0])).length) Slot.unset).toArray = ls at hl ⊢
  have hl : lv_has ls 7 [(0, .ref (a 2)), (1, .int x0)] := hl
  have lp10 : ∀ (n10 : Nat) (y10_l2 y10_l3 y10_l4 : Int32) (ls : Array Slot), Rg 0 12 y10_l4 → lv_has ls 7 [(0, .ref (a 2)), (1, .int x0), (2, .int y10_l2), (3, .int y10_l3), (4, .int y10_l4)] → 12 - y10_l4.toInt < (n10 : Int) → W p l e (headSpec wsX2_firstPiece ({ frames := 1, cells := 0, slots := 0, locals := 40 })).room s m ([.ref (a 2), .int x0]).toArray below meth c s.heap [] 0 0 (MQ below (vp_Si (fun r => Rg (-2147483648) 2147483647 r ∧ True)) ([.ref (a 2), .int x0]).toArray s 0 0 (fun _ => False)) (F0 m 10 ls []) := by
    intro n10
    induction n10 with
    | zero =>
      intro y10_l2 y10_l3 y10_l4 ls g10_l4 hl hm10
      exact absurd rfl (me_z g10_l4 hm10)
    | succ n10 ih10 =>
      intro y10_l2 y10_l3 y10_l4 ls g10_l4 hl hm10
      refine lv_iload hx hb dX2_firstPiece_10 (lv_at hl 4 rfl) ?_
      refine lv_bipush (v := 12) hx hb dX2_firstPiece_12 (by decide) ?_
      refine lv_icmp_ge (tgt := 70) hx hb dX2_firstPiece_14 (by decide) (fun c20227 => ?_) (fun c20227 => ?_)
      · have g20228 : Rg 12 12 y10_l4 := rg_ler (by decide : Rg 12 12 (12 : Int32)) g10_l4 c20227 (by decide)
        refine lv_iload_n hx hb dX2_firstPiece_70 rfl (lv_at hl 2 rfl) ?_
        exact W.iret (v := y10_l2) hx hb hr (fun t ht hW => ⟨_, rfl, ⟨(rg_any y10_l2), trivial⟩, ht⟩) (fun q hq => absurd hq List.not_mem_nil) dX2_firstPiece_71
      · have g20229 : Rg 0 11 y10_l4 := rg_ltl g10_l4 (by decide : Rg 12 12 (12 : Int32)) (rg_nle c20227) (by decide)
        refine lv_iload_n hx hb dX2_firstPiece_17 rfl (lv_at hl 3 rfl) ?_
        refine lv_if_eq (tgt := 70) hx hb dX2_firstPiece_18 (by decide) (fun c20230 => ?_) (fun c20230 => ?_)
        · have g20231 : Rg 0 0 y10_l3 := wk_eql (rg_any y10_l3) (by decide : Rg 0 0 (0 : Int32)) c20230 (by decide)
          refine lv_iload_n hx hb dX2_firstPiece_70 rfl (lv_at hl 2 rfl) ?_
          exact W.iret (v := y10_l2) hx hb hr (fun t ht hW => ⟨_, rfl, ⟨(rg_any y10_l2), trivial⟩, ht⟩) (fun q hq => absurd hq List.not_mem_nil) dX2_firstPiece_71
        · refine lv_iload_n hx hb dX2_firstPiece_21 rfl (lv_at hl 3 rfl) ?_
          refine lz_ss (As := [.int y10_l3]) (rest := []) ⟨hx, hb, hml, hown, hts⟩ (k_J6_numberOfTrailingZeros_0f7a4 l D cI cS y10_l3) hKK (hP.sub (ws' := []) [] rfl) (va_cwS 1 hts gX2_firstPiece_J6_numberOfTrailingZeros_0f7a4 rfl rfl rfl (by decide +kernel) ⟨Nat.le_of_ble_eq_true rfl, Nat.le_of_ble_eq_true rfl⟩) rfl hl.1 rfl (Nat.le_of_ble_eq_true rfl) dX2_firstPiece_22 ⟨Nat.le_of_ble_eq_true rfl, Nat.le_of_ble_eq_true rfl⟩ (fun r20232 hr20232 => ?_)
          refine lv_istore (lv' := [(5, .int r20232), (0, .ref (a 2)), (1, .int x0), (2, .int y10_l2), (3, .int y10_l3), (4, .int y10_l4)]) hx hb dX2_firstPiece_25 hl (by decide) rfl (fun ls hl => ?_)
          refine lv_iload hx hb dX2_firstPiece_27 (lv_at hl 0 rfl) ?_
          refine lv_aload_n hx hb dX2_firstPiece_29 rfl (lv_at hl 1 rfl) ?_
          refine va_alen hx hb hK hP 2 0 rfl rfl (v := 12) (by decide) dX2_firstPiece_30 ?_
          refine lv_icmp_lt (tgt := 36) hx hb dX2_firstPiece_31 (by decide) (fun c20233 => ?_) (fun c20233 => ?_)
          · have g20234 : Rg 0 11 r20232 := rg_ltl hr20232.1 (by decide : Rg 12 12 (12 : Int32)) c20233 (by decide)
            refine lv_iload_n hx hb dX2_firstPiece_36 rfl (lv_at hl 4 rfl) ?_
            refine lv_iload_n hx hb dX2_firstPiece_37 rfl (lv_at hl 4 rfl) ?_
            refine lv_iconst (v := 1) hx hb dX2_firstPiece_38 (by decide) ?_
            refine lv_isub hx hb dX2_firstPiece_39 ?_
            refine wk_topP (P := fun r => r = y10_l3 - (1 : Int32)) rfl (fun r20235 qr20235 => ?_)
            refine lv_iand hx hb dX2_firstPiece_40 ?_
            refine wk_topP (P := fun r => r = y10_l3 &&& r20235) rfl (fun r20236 qr20236 => ?_)
            refine lv_istore_n (lv' := [(3, .int r20236), (5, .int r20232), (0, .ref (a 2)), (1, .int x0), (2, .int y10_l2), (4, .int y10_l4)]) hx hb dX2_firstPiece_41 rfl hl (by decide) rfl (fun ls hl => ?_)
            refine lv_aload_n hx hb dX2_firstPiece_42 rfl (lv_at hl 2 rfl) ?_
            refine lv_iload hx hb dX2_firstPiece_43 (lv_at hl 1 rfl) ?_
            refine wk_aldA hx hb hK hP 2 0 rfl rfl (rg_in g20234 (by decide) (by decide)) dX2_firstPiece_45 (fun r20237 => ?_)
            refine lv_iload_n hx hb dX2_firstPiece_46 rfl (lv_at hl 3 rfl) ?_
            refine lv_iand hx hb dX2_firstPiece_47 ?_
            refine wk_topP (P := fun r => r = r20237 &&& x0) rfl (fun r20238 qr20238 => ?_)
            refine lv_iload_n hx hb dX2_firstPiece_48 rfl (lv_at hl 4 rfl) ?_
            refine lv_iconst (v := (-1)) hx hb dX2_firstPiece_49 (by decide) ?_
            refine lv_ixor hx hb dX2_firstPiece_50 ?_
            refine wk_topP (P := fun r => r = y10_l2 ^^^ ((-1) : Int32)) rfl (fun r20239 qr20239 => ?_)
            refine lv_iand hx hb dX2_firstPiece_51 ?_
            refine wk_topP (P := fun r => r = r20238 &&& r20239) rfl (fun r20240 qr20240 => ?_)
            refine lv_istore (lv' := [(6, .int r20240), (3, .int r20236), (5, .int r20232), (0, .ref (a 2)), (1, .int x0), (2, .int y10_l2), (4, .int y10_l4)]) hx hb dX2_firstPiece_52 hl (by decide) rfl (fun ls hl => ?_)
            refine lv_iload_n hx hb dX2_firstPiece_54 rfl (lv_at hl 5 rfl) ?_
            refine lv_iload hx hb dX2_firstPiece_55 (lv_at hl 0 rfl) ?_
            refine lv_ior hx hb dX2_firstPiece_57 ?_
            refine wk_topP (P := fun r => r = y10_l2 ||| r20240) rfl (fun r20241 qr20241 => ?_)
            refine lv_istore_n (lv' := [(2, .int r20241), (6, .int r20240), (3, .int r20236), (5, .int r20232), (0, .ref (a 2)), (1, .int x0), (4, .int y10_l4)]) hx hb dX2_firstPiece_58 rfl hl (by decide) rfl (fun ls hl => ?_)
            refine lv_iload_n hx hb dX2_firstPiece_59 rfl (lv_at hl 2 rfl) ?_
            refine lv_iload hx hb dX2_firstPiece_60 (lv_at hl 1 rfl) ?_
            refine lv_ior hx hb dX2_firstPiece_62 ?_
            refine wk_topP (P := fun r => r = r20236 ||| r20240) rfl (fun r20242 qr20242 => ?_)
            refine lv_istore_n (lv' := [(3, .int r20242), (2, .int r20241), (6, .int r20240), (5, .int r20232), (0, .ref (a 2)), (1, .int x0), (4, .int y10_l4)]) hx hb dX2_firstPiece_63 rfl hl (by decide) rfl (fun ls hl => ?_)
            refine wk_iinc (lv' := fun r => [(4, .int r), (3, .int r20242), (2, .int r20241), (6, .int r20240), (5, .int r20232), (0, .ref (a 2)), (1, .int x0)]) (e1 := 1) (f := 12) hx hb dX2_firstPiece_64 hl (k := 6) rfl (by decide) g20229 (by decide) (fun _ => rfl) (fun r20243 ls hr20243 er20243 hl => ?_)
            refine lv_goto (tgt := 10) hx hb dX2_firstPiece_67 (by decide) ?_
            exact ih10 r20241 r20242 r20243 ls (show Rg 0 12 r20243 from rg_w hr20243 (by decide) (by decide)) (lv_sub (l' := [(0, .ref (a 2)), (1, .int x0), (2, .int r20241), (3, .int r20242), (4, .int r20243)]) hl [5, 6, 2, 1, 0] rfl) (me_up hm10 er20243 (by decide))
          · have g20244 : Rg 12 33 r20232 := rg_ler (by decide : Rg 12 12 (12 : Int32)) hr20232.1 (rg_nlt c20233) (by decide)
            refine lv_iload_n hx hb dX2_firstPiece_34 rfl (lv_at hl 3 rfl) ?_
            exact W.iret (v := y10_l2) hx hb hr (fun t ht hW => ⟨_, rfl, ⟨(rg_any y10_l2), trivial⟩, ht⟩) (fun q hq => absurd hq List.not_mem_nil) dX2_firstPiece_35
  refine lv_iload_n hx hb dX2_firstPiece_0 rfl (lv_at hl 1 rfl) ?_
  refine lz_ss (As := [.int x0]) (rest := []) ⟨hx, hb, hml, hown, hts⟩ (k_J6_lowestOneBit_0f7a4 l D cI cS x0) hKK (hP.sub (ws' := []) [] rfl) (va_cwS 1 hts gX2_firstPiece_J6_lowestOneBit_0f7a4 rfl rfl rfl (by decide +kernel) ⟨Nat.le_of_ble_eq_true rfl, Nat.le_of_ble_eq_true rfl⟩) rfl hl.1 rfl (Nat.le_of_ble_eq_true rfl) dX2_firstPiece_1 ⟨Nat.le_of_ble_eq_true rfl, Nat.le_of_ble_eq_true rfl⟩ (fun r20245 hr20245 => ?_)
  refine lv_istore_n (lv' := [(2, .int r20245), (0, .ref (a 2)), (1, .int x0)]) hx hb dX2_firstPiece_4 rfl hl (by decide) rfl (fun ls hl => ?_)
  refine lv_iload_n hx hb dX2_firstPiece_5 rfl (lv_at hl 0 rfl) ?_
  refine lv_istore_n (lv' := [(3, .int r20245), (2, .int r20245), (0, .ref (a 2)), (1, .int x0)]) hx hb dX2_firstPiece_6 rfl hl (by decide) rfl (fun ls hl => ?_)
  refine lv_iconst (v := 0) hx hb dX2_firstPiece_7 (by decide) ?_
  refine lv_istore (lv' := [(4, .int 0), (3, .int r20245), (2, .int r20245), (0, .ref (a 2)), (1, .int x0)]) hx hb dX2_firstPiece_8 hl (by decide) rfl (fun ls hl => ?_)
  exact lp10 13 r20245 r20245 (0 : Int32) ls (by decide : Rg 0 12 (0 : Int32)) (lv_sub (l' := [(0, .ref (a 2)), (1, .int x0), (2, .int r20245), (3, .int r20245), (4, .int 0)]) hl [3, 4, 2, 1, 0] rfl) (me_i (by decide : Rg 0 12 (0 : Int32)) (by decide))
set_option maxRecDepth 20000 in
theorem ggX2_pieceCount_X2_firstPiece : GoodIn wsX2_pieceCount wsX2_firstPiece := goodIn_r _ [10, 11, 12, 13, 14, 15, 16, 17, 18] (by decide +kernel) (by decide +kernel)
set_option maxRecDepth 20000 in
theorem gX2_pieceCount_X2_firstPiece : GoodIn wsX2_pieceCount (va_wsS RX2 71 yX2_firstPiece wsX2_firstPiece) := goodIn_app (goodIn_of _ (by decide +kernel)) ggX2_pieceCount_X2_firstPiece
theorem dX2_pieceCount_23 : decode cX2_pieceCount 23 = .ok (.iload_n 2, 1) := by decide +kernel
theorem dX2_pieceCount_24 : decode cX2_pieceCount 24 = .ok (.aload_n 0, 1) := by decide +kernel
theorem dX2_pieceCount_25 : decode cX2_pieceCount 25 = .ok (.getfield 9, 3) := by decide +kernel
theorem dX2_pieceCount_28 : decode cX2_pieceCount 28 = .ok (.iload_n 2, 1) := by decide +kernel
theorem dX2_pieceCount_29 : decode cX2_pieceCount 29 = .ok (.invokestatic 71, 3) := by decide +kernel
theorem dX2_pieceCount_32 : decode cX2_pieceCount 32 = .ok (.iconst (-1), 1) := by decide +kernel
theorem dX2_pieceCount_33 : decode cX2_pieceCount 33 = .ok (.ixor, 1) := by decide +kernel
theorem dX2_pieceCount_34 : decode cX2_pieceCount 34 = .ok (.iand, 1) := by decide +kernel
theorem dX2_pieceCount_35 : decode cX2_pieceCount 35 = .ok (.istore_n 2, 1) := by decide +kernel
theorem dX2_pieceCount_36 : decode cX2_pieceCount 36 = .ok (.iinc 3 1, 3) := by decide +kernel
theorem dX2_pieceCount_39 : decode cX2_pieceCount 39 = .ok (.iinc 4 1, 3) := by decide +kernel
theorem dX2_pieceCount_42 : decode cX2_pieceCount 42 = .ok (.goto (-30), 3) := by decide +kernel
set_option maxHeartbeats 4000000 in
set_option maxRecDepth 100000 in
theorem k_X2_pieceCount (l : Launch) (D : va_G) (cI cS : ClassId) (a : Nat → Nat) (na nc N : Nat) (L u : SU) (hL : TyX L) (hN : N = 0 ∨ N = 24576) (x0 : Int32) : Met l yX2_pieceCount wsX2_pieceCount ({ frames := 2, cells := 0, slots := 0, locals := 80 }) (PS D cI cS (wX cI cS a na nc N L u) [.ref (a 1), .int x0]) (vp_Si (fun r => Rg (-2147483648) 2147483647 r ∧ True)) 0 0 (fun _ => False) := by
  refine Met.ofW (cc := cX2_pieceCount) (maxL := 5) (ret := (some .int)) (by decide) rfl ?_
  intro p e s m args below meth c s₁ B hml hv
  obtain ⟨rfl, hP, hKK⟩ := hv
  have hx := B.exec
  have hb := B.bytes
  have hr := B.returns
  have hts := atoms_spec (ws := wsX2_pieceCount) B.pre
  have hown : s.vm.findClass RX2 = some m.cls := findClass_of_methodNamed B.named
  have hlocks := B.notSynchronized
  have hK := hKK.1
  have hin2 : ∀ w ∈ wsX20, w ∈ wsX2_pieceCount := by decide +kernel
  have hl := lv_entry ([.ref (a 1), .int x0]) (n := 5) (Nat.le_of_ble_eq_true rfl)
  rw [lg_entry_eq]
  generalize (lg_sl ([.ref (a 1), .int x0]) ++ List.replicate (5 - (lg_sl ([.ref (a 1), .int x0])).length) Slot.unset).toArray = ls at hl ⊢
  have hl : lv_has ls 5 [(0, .ref (a 1)), (1, .int x0)] := hl
  have lp12 : ∀ (n12 : Nat) (y12_l2 y12_l3 y12_l4 : Int32) (ls : Array Slot), Rg 0 4095 y12_l2 → Rg 0 12 y12_l4 → lv_has ls 5 [(0, .ref (a 1)), (2, .int y12_l2), (3, .int y12_l3), (4, .int y12_l4)] → 12 - y12_l4.toInt < (n12 : Int) → W p l e (headSpec wsX2_pieceCount ({ frames := 2, cells := 0, slots := 0, locals := 80 })).room s m ([.ref (a 1), .int x0]).toArray below meth c s.heap [] 0 0 (MQ below (vp_Si (fun r => Rg (-2147483648) 2147483647 r ∧ True)) ([.ref (a 1), .int x0]).toArray s 0 0 (fun _ => False)) (F0 m 12 ls []) := by
    intro n12
    induction n12 with
    | zero =>
      intro y12_l2 y12_l3 y12_l4 ls g12_l2 g12_l4 hl hm12
      exact absurd rfl (me_z g12_l4 hm12)
    | succ n12 ih12 =>
      intro y12_l2 y12_l3 y12_l4 ls g12_l2 g12_l4 hl hm12
      refine lv_iload hx hb dX2_pieceCount_12 (lv_at hl 3 rfl) ?_
      refine lv_bipush (v := 12) hx hb dX2_pieceCount_14 (by decide) ?_
      refine lv_icmp_ge (tgt := 45) hx hb dX2_pieceCount_16 (by decide) (fun c20605 => ?_) (fun c20605 => ?_)
      · have g20606 : Rg 12 12 y12_l4 := rg_ler (by decide : Rg 12 12 (12 : Int32)) g12_l4 c20605 (by decide)
        refine lv_iload_n hx hb dX2_pieceCount_45 rfl (lv_at hl 2 rfl) ?_
        exact W.iret (v := y12_l3) hx hb hr (fun t ht hW => ⟨_, rfl, ⟨(rg_any y12_l3), trivial⟩, ht⟩) (fun q hq => absurd hq List.not_mem_nil) dX2_pieceCount_46
      · have g20607 : Rg 0 11 y12_l4 := rg_ltl g12_l4 (by decide : Rg 12 12 (12 : Int32)) (rg_nle c20605) (by decide)
        refine lv_iload_n hx hb dX2_pieceCount_19 rfl (lv_at hl 1 rfl) ?_
        refine lv_if_eq (tgt := 45) hx hb dX2_pieceCount_20 (by decide) (fun c20608 => ?_) (fun c20608 => ?_)
        · have g20609 : Rg 0 0 y12_l2 := wk_eql g12_l2 (by decide : Rg 0 0 (0 : Int32)) c20608 (by decide)
          refine lv_iload_n hx hb dX2_pieceCount_45 rfl (lv_at hl 2 rfl) ?_
          exact W.iret (v := y12_l3) hx hb hr (fun t ht hW => ⟨_, rfl, ⟨(rg_any y12_l3), trivial⟩, ht⟩) (fun q hq => absurd hq List.not_mem_nil) dX2_pieceCount_46
        · have g20610 : Rg 1 4095 y12_l2 := rg_ne_lo (k := 0) g12_l2 (by decide) c20608 (by decide)
          refine lv_iload_n hx hb dX2_pieceCount_23 rfl (lv_at hl 1 rfl) ?_
          refine lv_aload_n hx hb dX2_pieceCount_24 rfl (lv_at hl 0 rfl) ?_
          refine va_get (D := D) (ci := 2) (v := .ref (a 2)) (C := RX2) (T := TX2) (N := 3) hx hb hts hin2 hown hK hP 1 rfl rfl 0 (by decide) (hts (.fieldLink RX2 9 "MissedPoints$Net" "links" "[I") (by decide +kernel)) (fun _ h9 => h9) rfl dX2_pieceCount_25 ?_
          refine lv_iload_n hx hb dX2_pieceCount_28 rfl (lv_at hl 1 rfl) ?_
          refine lz_ss (As := [.ref (a 2), .int y12_l2]) (rest := [.int y12_l2]) ⟨hx, hb, hml, hown, hts⟩ (k_X2_firstPiece l D cI cS a na nc N L u hL hN y12_l2) hKK hP (va_cwS 2 hts gX2_pieceCount_X2_firstPiece rfl rfl rfl (by decide +kernel) ⟨Nat.le_of_ble_eq_true rfl, Nat.le_of_ble_eq_true rfl⟩) rfl hl.1 rfl (Nat.le_of_ble_eq_true rfl) dX2_pieceCount_29 ⟨Nat.le_of_ble_eq_true rfl, Nat.le_of_ble_eq_true rfl⟩ (fun r20611 hr20611 => ?_)
          refine lv_iconst (v := (-1)) hx hb dX2_pieceCount_32 (by decide) ?_
          refine lv_ixor hx hb dX2_pieceCount_33 ?_
          refine wk_topP (P := fun r => r = r20611 ^^^ ((-1) : Int32)) rfl (fun r20612 qr20612 => ?_)
          refine wk_iandl hx hb dX2_pieceCount_34 g20610 (by decide) (fun r20613 hr20613 qr20613 => ?_)
          refine lv_istore_n (lv' := [(2, .int r20613), (0, .ref (a 1)), (3, .int y12_l3), (4, .int y12_l4)]) hx hb dX2_pieceCount_35 rfl hl (by decide) rfl (fun ls hl => ?_)
          refine wk_iincA (lv' := fun r => [(3, .int r), (2, .int r20613), (0, .ref (a 1)), (4, .int y12_l4)]) hx hb dX2_pieceCount_36 hl (k := 2) rfl (by decide) (fun _ => rfl) (fun r20614 ls hl => ?_)
          refine wk_iinc (lv' := fun r => [(4, .int r), (3, .int r20614), (2, .int r20613), (0, .ref (a 1))]) (e1 := 1) (f := 12) hx hb dX2_pieceCount_39 hl (k := 3) rfl (by decide) g20607 (by decide) (fun _ => rfl) (fun r20615 ls hr20615 er20615 hl => ?_)
          refine lv_goto (tgt := 12) hx hb dX2_pieceCount_42 (by decide) ?_
          exact ih12 r20613 r20614 r20615 ls hr20613 (show Rg 0 12 r20615 from rg_w hr20615 (by decide) (by decide)) (lv_sub (l' := [(0, .ref (a 1)), (2, .int r20613), (3, .int r20614), (4, .int r20615)]) hl [3, 2, 1, 0] rfl) (me_up hm12 er20615 (by decide))
  refine lv_iload_n hx hb dX2_pieceCount_0 rfl (lv_at hl 1 rfl) ?_
  refine lv_aload_n hx hb dX2_pieceCount_1 rfl (lv_at hl 0 rfl) ?_
  refine wk_sv 1 (As := []) (rest := [.int x0]) ⟨hx, hb, hml, hown, hts⟩ (k_X2_all l D cI cS a na nc N L u hL hN) hKK hP (ci := 2) rfl rfl (cwV 0 hts gX2_pieceCount_X2_all rfl rfl rfl (by decide +kernel) ⟨Nat.le_of_ble_eq_true rfl, Nat.le_of_ble_eq_true rfl⟩) rfl hl.1 rfl (Nat.le_of_ble_eq_true rfl) dX2_pieceCount_2 ⟨Nat.le_of_ble_eq_true rfl, Nat.le_of_ble_eq_true rfl⟩ (fun r20616 hr20616 => ?_)
  refine wk_iandr hx hb dX2_pieceCount_5 hr20616.1 (by decide) (fun r20617 hr20617 qr20617 => ?_)
  refine lv_istore_n (lv' := [(2, .int r20617), (0, .ref (a 1)), (1, .int x0)]) hx hb dX2_pieceCount_6 rfl hl (by decide) rfl (fun ls hl => ?_)
  refine lv_iconst (v := 0) hx hb dX2_pieceCount_7 (by decide) ?_
  refine lv_istore_n (lv' := [(3, .int 0), (2, .int r20617), (0, .ref (a 1)), (1, .int x0)]) hx hb dX2_pieceCount_8 rfl hl (by decide) rfl (fun ls hl => ?_)
  refine lv_iconst (v := 0) hx hb dX2_pieceCount_9 (by decide) ?_
  refine lv_istore (lv' := [(4, .int 0), (3, .int 0), (2, .int r20617), (0, .ref (a 1)), (1, .int x0)]) hx hb dX2_pieceCount_10 hl (by decide) rfl (fun ls hl => ?_)
  exact lp12 13 r20617 (0 : Int32) (0 : Int32) ls hr20617 (by decide : Rg 0 12 (0 : Int32)) (lv_sub (l' := [(0, .ref (a 1)), (2, .int r20617), (3, .int 0), (4, .int 0)]) hl [3, 2, 1, 0] rfl) (me_i (by decide : Rg 0 12 (0 : Int32)) (by decide))
set_option maxRecDepth 20000 in
theorem ggX2_oddPieceCount_J6_bitCount_0f7a4 : GoodIn wsX2_oddPieceCount wsJ6_bitCount_0f7a4 := goodIn_r _ [21, 22, 23, 24] (by decide +kernel) (by decide +kernel)
set_option maxRecDepth 20000 in
theorem gX2_oddPieceCount_J6_bitCount_0f7a4 : GoodIn wsX2_oddPieceCount (va_wsS RX2 65 yJ6_bitCount_0f7a4 wsJ6_bitCount_0f7a4) := goodIn_app (goodIn_of _ (by decide +kernel)) ggX2_oddPieceCount_J6_bitCount_0f7a4
set_option maxRecDepth 20000 in
theorem ggX2_oddPieceCount_X2_firstPiece : GoodIn wsX2_oddPieceCount wsX2_firstPiece := goodIn_r _ [10, 11, 12, 13, 14, 15, 16, 17, 18] (by decide +kernel) (by decide +kernel)
set_option maxRecDepth 20000 in
theorem gX2_oddPieceCount_X2_firstPiece : GoodIn wsX2_oddPieceCount (va_wsS RX2 71 yX2_firstPiece wsX2_firstPiece) := goodIn_app (goodIn_of _ (by decide +kernel)) ggX2_oddPieceCount_X2_firstPiece
theorem dX2_oddPieceCount_23 : decode cX2_oddPieceCount 23 = .ok (.aload_n 0, 1) := by decide +kernel
theorem dX2_oddPieceCount_24 : decode cX2_oddPieceCount 24 = .ok (.getfield 9, 3) := by decide +kernel
theorem dX2_oddPieceCount_27 : decode cX2_oddPieceCount 27 = .ok (.iload_n 2, 1) := by decide +kernel
theorem dX2_oddPieceCount_28 : decode cX2_oddPieceCount 28 = .ok (.invokestatic 71, 3) := by decide +kernel
theorem dX2_oddPieceCount_31 : decode cX2_oddPieceCount 31 = .ok (.istore 5, 2) := by decide +kernel
theorem dX2_oddPieceCount_33 : decode cX2_oddPieceCount 33 = .ok (.iload_n 2, 1) := by decide +kernel
theorem dX2_oddPieceCount_34 : decode cX2_oddPieceCount 34 = .ok (.iload 5, 2) := by decide +kernel
theorem dX2_oddPieceCount_36 : decode cX2_oddPieceCount 36 = .ok (.iconst (-1), 1) := by decide +kernel
theorem dX2_oddPieceCount_37 : decode cX2_oddPieceCount 37 = .ok (.ixor, 1) := by decide +kernel
theorem dX2_oddPieceCount_38 : decode cX2_oddPieceCount 38 = .ok (.iand, 1) := by decide +kernel
theorem dX2_oddPieceCount_39 : decode cX2_oddPieceCount 39 = .ok (.istore_n 2, 1) := by decide +kernel
theorem dX2_oddPieceCount_40 : decode cX2_oddPieceCount 40 = .ok (.iload_n 3, 1) := by decide +kernel
theorem dX2_oddPieceCount_41 : decode cX2_oddPieceCount 41 = .ok (.iload 5, 2) := by decide +kernel
theorem dX2_oddPieceCount_43 : decode cX2_oddPieceCount 43 = .ok (.invokestatic 65, 3) := by decide +kernel
theorem dX2_oddPieceCount_46 : decode cX2_oddPieceCount 46 = .ok (.iconst 1, 1) := by decide +kernel
theorem dX2_oddPieceCount_47 : decode cX2_oddPieceCount 47 = .ok (.iand, 1) := by decide +kernel
theorem dX2_oddPieceCount_48 : decode cX2_oddPieceCount 48 = .ok (.iadd, 1) := by decide +kernel
theorem dX2_oddPieceCount_49 : decode cX2_oddPieceCount 49 = .ok (.istore_n 3, 1) := by decide +kernel
theorem dX2_oddPieceCount_50 : decode cX2_oddPieceCount 50 = .ok (.iinc 4 1, 3) := by decide +kernel
theorem dX2_oddPieceCount_53 : decode cX2_oddPieceCount 53 = .ok (.goto (-41), 3) := by decide +kernel
set_option maxHeartbeats 4000000 in
set_option maxRecDepth 100000 in
theorem k_X2_oddPieceCount (l : Launch) (D : va_G) (cI cS : ClassId) (a : Nat → Nat) (na nc N : Nat) (L u : SU) (hL : TyX L) (hN : N = 0 ∨ N = 24576) (x0 : Int32) : Met l yX2_oddPieceCount wsX2_oddPieceCount ({ frames := 2, cells := 0, slots := 0, locals := 80 }) (PS D cI cS (wX cI cS a na nc N L u) [.ref (a 1), .int x0]) (vp_Si (fun r => Rg (-2147483648) 2147483647 r ∧ True)) 0 0 (fun _ => False) := by
  refine Met.ofW (cc := cX2_oddPieceCount) (maxL := 6) (ret := (some .int)) (by decide) rfl ?_
  intro p e s m args below meth c s₁ B hml hv
  obtain ⟨rfl, hP, hKK⟩ := hv
  have hx := B.exec
  have hb := B.bytes
  have hr := B.returns
  have hts := atoms_spec (ws := wsX2_oddPieceCount) B.pre
  have hown : s.vm.findClass RX2 = some m.cls := findClass_of_methodNamed B.named
  have hlocks := B.notSynchronized
  have hK := hKK.1
  have hin2 : ∀ w ∈ wsX20, w ∈ wsX2_oddPieceCount := by decide +kernel
  have hl := lv_entry ([.ref (a 1), .int x0]) (n := 6) (Nat.le_of_ble_eq_true rfl)
  rw [lg_entry_eq]
  generalize (lg_sl ([.ref (a 1), .int x0]) ++ List.replicate (6 - (lg_sl ([.ref (a 1), .int x0])).length) Slot.unset).toArray = ls at hl ⊢
  have hl : lv_has ls 6 [(0, .ref (a 1)), (1, .int x0)] := hl
  have lp12 : ∀ (n12 : Nat) (y12_l2 y12_l3 y12_l4 : Int32) (ls : Array Slot), Rg 0 4095 y12_l2 → Rg 0 12 y12_l4 → lv_has ls 6 [(0, .ref (a 1)), (2, .int y12_l2), (3, .int y12_l3), (4, .int y12_l4)] → 12 - y12_l4.toInt < (n12 : Int) → W p l e (headSpec wsX2_oddPieceCount ({ frames := 2, cells := 0, slots := 0, locals := 80 })).room s m ([.ref (a 1), .int x0]).toArray below meth c s.heap [] 0 0 (MQ below (vp_Si (fun r => Rg (-2147483648) 2147483647 r ∧ True)) ([.ref (a 1), .int x0]).toArray s 0 0 (fun _ => False)) (F0 m 12 ls []) := by
    intro n12
    induction n12 with
    | zero =>
      intro y12_l2 y12_l3 y12_l4 ls g12_l2 g12_l4 hl hm12
      exact absurd rfl (me_z g12_l4 hm12)
    | succ n12 ih12 =>
      intro y12_l2 y12_l3 y12_l4 ls g12_l2 g12_l4 hl hm12
      refine lv_iload hx hb dX2_oddPieceCount_12 (lv_at hl 3 rfl) ?_
      refine lv_bipush (v := 12) hx hb dX2_oddPieceCount_14 (by decide) ?_
      refine lv_icmp_ge (tgt := 56) hx hb dX2_oddPieceCount_16 (by decide) (fun c21035 => ?_) (fun c21035 => ?_)
      · have g21036 : Rg 12 12 y12_l4 := rg_ler (by decide : Rg 12 12 (12 : Int32)) g12_l4 c21035 (by decide)
        refine lv_iload_n hx hb dX2_oddPieceCount_56 rfl (lv_at hl 2 rfl) ?_
        exact W.iret (v := y12_l3) hx hb hr (fun t ht hW => ⟨_, rfl, ⟨(rg_any y12_l3), trivial⟩, ht⟩) (fun q hq => absurd hq List.not_mem_nil) dX2_oddPieceCount_57
      · have g21037 : Rg 0 11 y12_l4 := rg_ltl g12_l4 (by decide : Rg 12 12 (12 : Int32)) (rg_nle c21035) (by decide)
        refine lv_iload_n hx hb dX2_oddPieceCount_19 rfl (lv_at hl 1 rfl) ?_
        refine lv_if_eq (tgt := 56) hx hb dX2_oddPieceCount_20 (by decide) (fun c21038 => ?_) (fun c21038 => ?_)
        · have g21039 : Rg 0 0 y12_l2 := wk_eql g12_l2 (by decide : Rg 0 0 (0 : Int32)) c21038 (by decide)
          refine lv_iload_n hx hb dX2_oddPieceCount_56 rfl (lv_at hl 2 rfl) ?_
          exact W.iret (v := y12_l3) hx hb hr (fun t ht hW => ⟨_, rfl, ⟨(rg_any y12_l3), trivial⟩, ht⟩) (fun q hq => absurd hq List.not_mem_nil) dX2_oddPieceCount_57
        · have g21040 : Rg 1 4095 y12_l2 := rg_ne_lo (k := 0) g12_l2 (by decide) c21038 (by decide)
          refine lv_aload_n hx hb dX2_oddPieceCount_23 rfl (lv_at hl 0 rfl) ?_
          refine va_get (D := D) (ci := 2) (v := .ref (a 2)) (C := RX2) (T := TX2) (N := 3) hx hb hts hin2 hown hK hP 1 rfl rfl 0 (by decide) (hts (.fieldLink RX2 9 "MissedPoints$Net" "links" "[I") (by decide +kernel)) (fun _ h9 => h9) rfl dX2_oddPieceCount_24 ?_
          refine lv_iload_n hx hb dX2_oddPieceCount_27 rfl (lv_at hl 1 rfl) ?_
          refine lz_ss (As := [.ref (a 2), .int y12_l2]) (rest := []) ⟨hx, hb, hml, hown, hts⟩ (k_X2_firstPiece l D cI cS a na nc N L u hL hN y12_l2) hKK hP (va_cwS 2 hts gX2_oddPieceCount_X2_firstPiece rfl rfl rfl (by decide +kernel) ⟨Nat.le_of_ble_eq_true rfl, Nat.le_of_ble_eq_true rfl⟩) rfl hl.1 rfl (Nat.le_of_ble_eq_true rfl) dX2_oddPieceCount_28 ⟨Nat.le_of_ble_eq_true rfl, Nat.le_of_ble_eq_true rfl⟩ (fun r21041 hr21041 => ?_)
          refine lv_istore (lv' := [(5, .int r21041), (0, .ref (a 1)), (2, .int y12_l2), (3, .int y12_l3), (4, .int y12_l4)]) hx hb dX2_oddPieceCount_31 hl (by decide) rfl (fun ls hl => ?_)
          refine lv_iload_n hx hb dX2_oddPieceCount_33 rfl (lv_at hl 2 rfl) ?_
          refine lv_iload hx hb dX2_oddPieceCount_34 (lv_at hl 0 rfl) ?_
          refine lv_iconst (v := (-1)) hx hb dX2_oddPieceCount_36 (by decide) ?_
          refine lv_ixor hx hb dX2_oddPieceCount_37 ?_
          refine wk_topP (P := fun r => r = r21041 ^^^ ((-1) : Int32)) rfl (fun r21042 qr21042 => ?_)
          refine wk_iandl hx hb dX2_oddPieceCount_38 g21040 (by decide) (fun r21043 hr21043 qr21043 => ?_)
          refine lv_istore_n (lv' := [(2, .int r21043), (5, .int r21041), (0, .ref (a 1)), (3, .int y12_l3), (4, .int y12_l4)]) hx hb dX2_oddPieceCount_39 rfl hl (by decide) rfl (fun ls hl => ?_)
          refine lv_iload_n hx hb dX2_oddPieceCount_40 rfl (lv_at hl 3 rfl) ?_
          refine lv_iload hx hb dX2_oddPieceCount_41 (lv_at hl 1 rfl) ?_
          refine lz_ss (As := [.int r21041]) (rest := [.int y12_l3]) ⟨hx, hb, hml, hown, hts⟩ (k_J6_bitCount_0f7a4 l D cI cS r21041) hKK (hP.sub (ws' := []) [] rfl) (va_cwS 1 hts gX2_oddPieceCount_J6_bitCount_0f7a4 rfl rfl rfl (by decide +kernel) ⟨Nat.le_of_ble_eq_true rfl, Nat.le_of_ble_eq_true rfl⟩) rfl hl.1 rfl (Nat.le_of_ble_eq_true rfl) dX2_oddPieceCount_43 ⟨Nat.le_of_ble_eq_true rfl, Nat.le_of_ble_eq_true rfl⟩ (fun r21044 hr21044 => ?_)
          refine lv_iconst (v := 1) hx hb dX2_oddPieceCount_46 (by decide) ?_
          refine wk_iandr hx hb dX2_oddPieceCount_47 (by decide : Rg 1 1 (1 : Int32)) (by decide) (fun r21045 hr21045 qr21045 => ?_)
          refine lv_iadd hx hb dX2_oddPieceCount_48 ?_
          refine wk_topP (P := fun r => r = y12_l3 + r21045) rfl (fun r21046 qr21046 => ?_)
          refine lv_istore_n (lv' := [(3, .int r21046), (2, .int r21043), (5, .int r21041), (0, .ref (a 1)), (4, .int y12_l4)]) hx hb dX2_oddPieceCount_49 rfl hl (by decide) rfl (fun ls hl => ?_)
          refine wk_iinc (lv' := fun r => [(4, .int r), (3, .int r21046), (2, .int r21043), (5, .int r21041), (0, .ref (a 1))]) (e1 := 1) (f := 12) hx hb dX2_oddPieceCount_50 hl (k := 4) rfl (by decide) g21037 (by decide) (fun _ => rfl) (fun r21047 ls hr21047 er21047 hl => ?_)
          refine lv_goto (tgt := 12) hx hb dX2_oddPieceCount_53 (by decide) ?_
          exact ih12 r21043 r21046 r21047 ls hr21043 (show Rg 0 12 r21047 from rg_w hr21047 (by decide) (by decide)) (lv_sub (l' := [(0, .ref (a 1)), (2, .int r21043), (3, .int r21046), (4, .int r21047)]) hl [4, 2, 1, 0] rfl) (me_up hm12 er21047 (by decide))
  refine lv_iload_n hx hb dX2_oddPieceCount_0 rfl (lv_at hl 1 rfl) ?_
  refine lv_aload_n hx hb dX2_oddPieceCount_1 rfl (lv_at hl 0 rfl) ?_
  refine wk_sv 1 (As := []) (rest := [.int x0]) ⟨hx, hb, hml, hown, hts⟩ (k_X2_all l D cI cS a na nc N L u hL hN) hKK hP (ci := 2) rfl rfl (cwV 0 hts gX2_oddPieceCount_X2_all rfl rfl rfl (by decide +kernel) ⟨Nat.le_of_ble_eq_true rfl, Nat.le_of_ble_eq_true rfl⟩) rfl hl.1 rfl (Nat.le_of_ble_eq_true rfl) dX2_oddPieceCount_2 ⟨Nat.le_of_ble_eq_true rfl, Nat.le_of_ble_eq_true rfl⟩ (fun r21048 hr21048 => ?_)
  refine wk_iandr hx hb dX2_oddPieceCount_5 hr21048.1 (by decide) (fun r21049 hr21049 qr21049 => ?_)
  refine lv_istore_n (lv' := [(2, .int r21049), (0, .ref (a 1)), (1, .int x0)]) hx hb dX2_oddPieceCount_6 rfl hl (by decide) rfl (fun ls hl => ?_)
  refine lv_iconst (v := 0) hx hb dX2_oddPieceCount_7 (by decide) ?_
  refine lv_istore_n (lv' := [(3, .int 0), (2, .int r21049), (0, .ref (a 1)), (1, .int x0)]) hx hb dX2_oddPieceCount_8 rfl hl (by decide) rfl (fun ls hl => ?_)
  refine lv_iconst (v := 0) hx hb dX2_oddPieceCount_9 (by decide) ?_
  refine lv_istore (lv' := [(4, .int 0), (3, .int 0), (2, .int r21049), (0, .ref (a 1)), (1, .int x0)]) hx hb dX2_oddPieceCount_10 hl (by decide) rfl (fun ls hl => ?_)
  exact lp12 13 r21049 (0 : Int32) (0 : Int32) ls hr21049 (by decide : Rg 0 12 (0 : Int32)) (lv_sub (l' := [(0, .ref (a 1)), (2, .int r21049), (3, .int 0), (4, .int 0)]) hl [3, 2, 1, 0] rfl) (me_i (by decide : Rg 0 12 (0 : Int32)) (by decide))
set_option maxRecDepth 20000 in
theorem ggX2_pieceAt_X2_firstPiece : GoodIn wsX2_pieceAt wsX2_firstPiece := goodIn_r _ [10, 11, 12, 13, 14, 15, 16, 17, 18] (by decide +kernel) (by decide +kernel)
set_option maxRecDepth 20000 in
theorem gX2_pieceAt_X2_firstPiece : GoodIn wsX2_pieceAt (va_wsS RX2 71 yX2_firstPiece wsX2_firstPiece) := goodIn_app (goodIn_of _ (by decide +kernel)) ggX2_pieceAt_X2_firstPiece
theorem dX2_pieceAt_21 : decode cX2_pieceAt 21 = .ok (.aload_n 0, 1) := by decide +kernel
theorem dX2_pieceAt_22 : decode cX2_pieceAt 22 = .ok (.getfield 9, 3) := by decide +kernel
theorem dX2_pieceAt_25 : decode cX2_pieceAt 25 = .ok (.iload_n 3, 1) := by decide +kernel
theorem dX2_pieceAt_26 : decode cX2_pieceAt 26 = .ok (.invokestatic 71, 3) := by decide +kernel
theorem dX2_pieceAt_29 : decode cX2_pieceAt 29 = .ok (.istore 5, 2) := by decide +kernel
theorem dX2_pieceAt_31 : decode cX2_pieceAt 31 = .ok (.iload 4, 2) := by decide +kernel
theorem dX2_pieceAt_33 : decode cX2_pieceAt 33 = .ok (.iload_n 2, 1) := by decide +kernel
theorem dX2_pieceAt_34 : decode cX2_pieceAt 34 = .ok (.if_icmp .ne 6, 3) := by decide +kernel
theorem dX2_pieceAt_37 : decode cX2_pieceAt 37 = .ok (.iload 5, 2) := by decide +kernel
theorem dX2_pieceAt_39 : decode cX2_pieceAt 39 = .ok (.ireturn, 1) := by decide +kernel
theorem dX2_pieceAt_40 : decode cX2_pieceAt 40 = .ok (.iload_n 3, 1) := by decide +kernel
theorem dX2_pieceAt_41 : decode cX2_pieceAt 41 = .ok (.iload 5, 2) := by decide +kernel
theorem dX2_pieceAt_43 : decode cX2_pieceAt 43 = .ok (.iconst (-1), 1) := by decide +kernel
theorem dX2_pieceAt_44 : decode cX2_pieceAt 44 = .ok (.ixor, 1) := by decide +kernel
theorem dX2_pieceAt_45 : decode cX2_pieceAt 45 = .ok (.iand, 1) := by decide +kernel
theorem dX2_pieceAt_46 : decode cX2_pieceAt 46 = .ok (.istore_n 3, 1) := by decide +kernel
theorem dX2_pieceAt_47 : decode cX2_pieceAt 47 = .ok (.iinc 4 1, 3) := by decide +kernel
theorem dX2_pieceAt_50 : decode cX2_pieceAt 50 = .ok (.goto (-40), 3) := by decide +kernel
set_option maxHeartbeats 4000000 in
set_option maxRecDepth 100000 in
theorem k_X2_pieceAt (l : Launch) (D : va_G) (cI cS : ClassId) (a : Nat → Nat) (na nc N : Nat) (L u : SU) (hL : TyX L) (hN : N = 0 ∨ N = 24576) (x0 x1 : Int32) : Met l yX2_pieceAt wsX2_pieceAt ({ frames := 2, cells := 0, slots := 0, locals := 80 }) (PS D cI cS (wX cI cS a na nc N L u) [.ref (a 1), .int x0, .int x1]) (vp_Si (fun r => Rg (-2147483648) 2147483647 r ∧ True)) 0 0 (fun _ => False) := by
  refine Met.ofW (cc := cX2_pieceAt) (maxL := 6) (ret := (some .int)) (by decide) rfl ?_
  intro p e s m args below meth c s₁ B hml hv
  obtain ⟨rfl, hP, hKK⟩ := hv
  have hx := B.exec
  have hb := B.bytes
  have hr := B.returns
  have hts := atoms_spec (ws := wsX2_pieceAt) B.pre
  have hown : s.vm.findClass RX2 = some m.cls := findClass_of_methodNamed B.named
  have hlocks := B.notSynchronized
  have hK := hKK.1
  have hin2 : ∀ w ∈ wsX20, w ∈ wsX2_pieceAt := by decide +kernel
  have hl := lv_entry ([.ref (a 1), .int x0, .int x1]) (n := 6) (Nat.le_of_ble_eq_true rfl)
  rw [lg_entry_eq]
  generalize (lg_sl ([.ref (a 1), .int x0, .int x1]) ++ List.replicate (6 - (lg_sl ([.ref (a 1), .int x0, .int x1])).length) Slot.unset).toArray = ls at hl ⊢
  have hl : lv_has ls 6 [(0, .ref (a 1)), (1, .int x0), (2, .int x1)] := hl
  have lp10 : ∀ (n10 : Nat) (y10_l3 y10_l4 : Int32) (ls : Array Slot), Rg 0 4095 y10_l3 → Rg 0 12 y10_l4 → lv_has ls 6 [(0, .ref (a 1)), (2, .int x1), (3, .int y10_l3), (4, .int y10_l4)] → 12 - y10_l4.toInt < (n10 : Int) → W p l e (headSpec wsX2_pieceAt ({ frames := 2, cells := 0, slots := 0, locals := 80 })).room s m ([.ref (a 1), .int x0, .int x1]).toArray below meth c s.heap [] 0 0 (MQ below (vp_Si (fun r => Rg (-2147483648) 2147483647 r ∧ True)) ([.ref (a 1), .int x0, .int x1]).toArray s 0 0 (fun _ => False)) (F0 m 10 ls []) := by
    intro n10
    induction n10 with
    | zero =>
      intro y10_l3 y10_l4 ls g10_l3 g10_l4 hl hm10
      exact absurd rfl (me_z g10_l4 hm10)
    | succ n10 ih10 =>
      intro y10_l3 y10_l4 ls g10_l3 g10_l4 hl hm10
      refine lv_iload hx hb dX2_pieceAt_10 (lv_at hl 3 rfl) ?_
      refine lv_bipush (v := 12) hx hb dX2_pieceAt_12 (by decide) ?_
      refine lv_icmp_ge (tgt := 53) hx hb dX2_pieceAt_14 (by decide) (fun c21159 => ?_) (fun c21159 => ?_)
      · have g21160 : Rg 12 12 y10_l4 := rg_ler (by decide : Rg 12 12 (12 : Int32)) g10_l4 c21159 (by decide)
        refine lv_iconst (v := 0) hx hb dX2_pieceAt_53 (by decide) ?_
        exact W.iret (v := 0) hx hb hr (fun t ht hW => ⟨_, rfl, ⟨(by decide : Rg (-2147483648) 2147483647 (0 : Int32)), trivial⟩, ht⟩) (fun q hq => absurd hq List.not_mem_nil) dX2_pieceAt_54
      · have g21161 : Rg 0 11 y10_l4 := rg_ltl g10_l4 (by decide : Rg 12 12 (12 : Int32)) (rg_nle c21159) (by decide)
        refine lv_iload_n hx hb dX2_pieceAt_17 rfl (lv_at hl 2 rfl) ?_
        refine lv_if_eq (tgt := 53) hx hb dX2_pieceAt_18 (by decide) (fun c21162 => ?_) (fun c21162 => ?_)
        · have g21163 : Rg 0 0 y10_l3 := wk_eql g10_l3 (by decide : Rg 0 0 (0 : Int32)) c21162 (by decide)
          refine lv_iconst (v := 0) hx hb dX2_pieceAt_53 (by decide) ?_
          exact W.iret (v := 0) hx hb hr (fun t ht hW => ⟨_, rfl, ⟨(by decide : Rg (-2147483648) 2147483647 (0 : Int32)), trivial⟩, ht⟩) (fun q hq => absurd hq List.not_mem_nil) dX2_pieceAt_54
        · have g21164 : Rg 1 4095 y10_l3 := rg_ne_lo (k := 0) g10_l3 (by decide) c21162 (by decide)
          refine lv_aload_n hx hb dX2_pieceAt_21 rfl (lv_at hl 0 rfl) ?_
          refine va_get (D := D) (ci := 2) (v := .ref (a 2)) (C := RX2) (T := TX2) (N := 3) hx hb hts hin2 hown hK hP 1 rfl rfl 0 (by decide) (hts (.fieldLink RX2 9 "MissedPoints$Net" "links" "[I") (by decide +kernel)) (fun _ h9 => h9) rfl dX2_pieceAt_22 ?_
          refine lv_iload_n hx hb dX2_pieceAt_25 rfl (lv_at hl 2 rfl) ?_
          refine lz_ss (As := [.ref (a 2), .int y10_l3]) (rest := []) ⟨hx, hb, hml, hown, hts⟩ (k_X2_firstPiece l D cI cS a na nc N L u hL hN y10_l3) hKK hP (va_cwS 2 hts gX2_pieceAt_X2_firstPiece rfl rfl rfl (by decide +kernel) ⟨Nat.le_of_ble_eq_true rfl, Nat.le_of_ble_eq_true rfl⟩) rfl hl.1 rfl (Nat.le_of_ble_eq_true rfl) dX2_pieceAt_26 ⟨Nat.le_of_ble_eq_true rfl, Nat.le_of_ble_eq_true rfl⟩ (fun r21165 hr21165 => ?_)
          refine lv_istore (lv' := [(5, .int r21165), (0, .ref (a 1)), (2, .int x1), (3, .int y10_l3), (4, .int y10_l4)]) hx hb dX2_pieceAt_29 hl (by decide) rfl (fun ls hl => ?_)
          refine lv_iload hx hb dX2_pieceAt_31 (lv_at hl 4 rfl) ?_
          refine lv_iload_n hx hb dX2_pieceAt_33 rfl (lv_at hl 2 rfl) ?_
          refine lv_icmp_ne (tgt := 40) hx hb dX2_pieceAt_34 (by decide) (fun c21166 => ?_) (fun c21166 => ?_)
          · refine lv_iload_n hx hb dX2_pieceAt_40 rfl (lv_at hl 3 rfl) ?_
            refine lv_iload hx hb dX2_pieceAt_41 (lv_at hl 0 rfl) ?_
            refine lv_iconst (v := (-1)) hx hb dX2_pieceAt_43 (by decide) ?_
            refine lv_ixor hx hb dX2_pieceAt_44 ?_
            refine wk_topP (P := fun r => r = r21165 ^^^ ((-1) : Int32)) rfl (fun r21167 qr21167 => ?_)
            refine wk_iandl hx hb dX2_pieceAt_45 g21164 (by decide) (fun r21168 hr21168 qr21168 => ?_)
            refine lv_istore_n (lv' := [(3, .int r21168), (5, .int r21165), (0, .ref (a 1)), (2, .int x1), (4, .int y10_l4)]) hx hb dX2_pieceAt_46 rfl hl (by decide) rfl (fun ls hl => ?_)
            refine wk_iinc (lv' := fun r => [(4, .int r), (3, .int r21168), (5, .int r21165), (0, .ref (a 1)), (2, .int x1)]) (e1 := 1) (f := 12) hx hb dX2_pieceAt_47 hl (k := 4) rfl (by decide) g21161 (by decide) (fun _ => rfl) (fun r21169 ls hr21169 er21169 hl => ?_)
            refine lv_goto (tgt := 10) hx hb dX2_pieceAt_50 (by decide) ?_
            exact ih10 r21168 r21169 ls hr21168 (show Rg 0 12 r21169 from rg_w hr21169 (by decide) (by decide)) (lv_sub (l' := [(0, .ref (a 1)), (2, .int x1), (3, .int r21168), (4, .int r21169)]) hl [3, 4, 1, 0] rfl) (me_up hm10 er21169 (by decide))
          · have g21170 : Rg 0 11 x1 := wk_eqr g21161 (rg_any x1) c21166 (by decide)
            refine lv_iload hx hb dX2_pieceAt_37 (lv_at hl 0 rfl) ?_
            exact W.iret (v := r21165) hx hb hr (fun t ht hW => ⟨_, rfl, ⟨hr21165.1, trivial⟩, ht⟩) (fun q hq => absurd hq List.not_mem_nil) dX2_pieceAt_39
  refine lv_iload_n hx hb dX2_pieceAt_0 rfl (lv_at hl 1 rfl) ?_
  refine lv_aload_n hx hb dX2_pieceAt_1 rfl (lv_at hl 0 rfl) ?_
  refine wk_sv 1 (As := []) (rest := [.int x0]) ⟨hx, hb, hml, hown, hts⟩ (k_X2_all l D cI cS a na nc N L u hL hN) hKK hP (ci := 2) rfl rfl (cwV 0 hts gX2_pieceAt_X2_all rfl rfl rfl (by decide +kernel) ⟨Nat.le_of_ble_eq_true rfl, Nat.le_of_ble_eq_true rfl⟩) rfl hl.1 rfl (Nat.le_of_ble_eq_true rfl) dX2_pieceAt_2 ⟨Nat.le_of_ble_eq_true rfl, Nat.le_of_ble_eq_true rfl⟩ (fun r21171 hr21171 => ?_)
  refine wk_iandr hx hb dX2_pieceAt_5 hr21171.1 (by decide) (fun r21172 hr21172 qr21172 => ?_)
  refine lv_istore_n (lv' := [(3, .int r21172), (0, .ref (a 1)), (1, .int x0), (2, .int x1)]) hx hb dX2_pieceAt_6 rfl hl (by decide) rfl (fun ls hl => ?_)
  refine lv_iconst (v := 0) hx hb dX2_pieceAt_7 (by decide) ?_
  refine lv_istore (lv' := [(4, .int 0), (3, .int r21172), (0, .ref (a 1)), (1, .int x0), (2, .int x1)]) hx hb dX2_pieceAt_8 hl (by decide) rfl (fun ls hl => ?_)
  exact lp10 13 r21172 (0 : Int32) ls hr21172 (by decide : Rg 0 12 (0 : Int32)) (lv_sub (l' := [(0, .ref (a 1)), (2, .int x1), (3, .int r21172), (4, .int 0)]) hl [2, 4, 1, 0] rfl) (me_i (by decide : Rg 0 12 (0 : Int32)) (by decide))
set_option maxRecDepth 20000 in
theorem ggX2_joinAll_X2_join : GoodIn wsX2_joinAll wsX2_join := goodIn_r _ [19, 7, 20, 8, 9, 10, 5, 11, 12, 13, 14, 15, 1, 21, 22, 23] (by decide +kernel) (by decide +kernel)
set_option maxRecDepth 20000 in
theorem gX2_joinAll_X2_join : GoodIn wsX2_joinAll (wsV RX2 43 RX2 yX2_join wsX2_join) := goodIn_app (goodIn_of _ (by decide +kernel)) ggX2_joinAll_X2_join
set_option maxRecDepth 20000 in
theorem ggX2_joinAll_X2_joined : GoodIn wsX2_joinAll wsX2_joined := goodIn_r _ [6, 7, 8, 9, 10, 5, 11, 12, 13, 14, 15, 1, 21, 22, 23] (by decide +kernel) (by decide +kernel)
set_option maxRecDepth 20000 in
theorem gX2_joinAll_X2_joined : GoodIn wsX2_joinAll (wsV RX2 40 RX2 yX2_joined wsX2_joined) := goodIn_app (goodIn_of _ (by decide +kernel)) ggX2_joinAll_X2_joined
theorem dX2_joinAll_0 : decode cX2_joinAll 0 = .ok (.iconst 0, 1) := by decide +kernel
theorem dX2_joinAll_1 : decode cX2_joinAll 1 = .ok (.istore_n 2, 1) := by decide +kernel
theorem dX2_joinAll_12 : decode cX2_joinAll 12 = .ok (.iload_n 3, 1) := by decide +kernel
theorem dX2_joinAll_13 : decode cX2_joinAll 13 = .ok (.aload_n 1, 1) := by decide +kernel
theorem dX2_joinAll_14 : decode cX2_joinAll 14 = .ok (.arraylength, 1) := by decide +kernel
theorem dX2_joinAll_15 : decode cX2_joinAll 15 = .ok (.if_icmp .ge 61, 3) := by decide +kernel
theorem dX2_joinAll_18 : decode cX2_joinAll 18 = .ok (.iload_n 3, 1) := by decide +kernel
theorem dX2_joinAll_19 : decode cX2_joinAll 19 = .ok (.iconst 1, 1) := by decide +kernel
theorem dX2_joinAll_2 : decode cX2_joinAll 2 = .ok (.iconst 0, 1) := by decide +kernel
theorem dX2_joinAll_20 : decode cX2_joinAll 20 = .ok (.iadd, 1) := by decide +kernel
theorem dX2_joinAll_21 : decode cX2_joinAll 21 = .ok (.istore 4, 2) := by decide +kernel
theorem dX2_joinAll_23 : decode cX2_joinAll 23 = .ok (.iload 4, 2) := by decide +kernel
theorem dX2_joinAll_25 : decode cX2_joinAll 25 = .ok (.aload_n 0, 1) := by decide +kernel
theorem dX2_joinAll_26 : decode cX2_joinAll 26 = .ok (.getfield 15, 3) := by decide +kernel
theorem dX2_joinAll_29 : decode cX2_joinAll 29 = .ok (.if_icmp .ge 41, 3) := by decide +kernel
theorem dX2_joinAll_3 : decode cX2_joinAll 3 = .ok (.istore_n 3, 1) := by decide +kernel
theorem dX2_joinAll_32 : decode cX2_joinAll 32 = .ok (.aload_n 1, 1) := by decide +kernel
theorem dX2_joinAll_33 : decode cX2_joinAll 33 = .ok (.iload_n 3, 1) := by decide +kernel
theorem dX2_joinAll_34 : decode cX2_joinAll 34 = .ok (.iaload, 1) := by decide +kernel
theorem dX2_joinAll_35 : decode cX2_joinAll 35 = .ok (.iload 4, 2) := by decide +kernel
theorem dX2_joinAll_37 : decode cX2_joinAll 37 = .ok (.ishr, 1) := by decide +kernel
theorem dX2_joinAll_38 : decode cX2_joinAll 38 = .ok (.iconst 1, 1) := by decide +kernel
theorem dX2_joinAll_39 : decode cX2_joinAll 39 = .ok (.iand, 1) := by decide +kernel
theorem dX2_joinAll_4 : decode cX2_joinAll 4 = .ok (.iload_n 3, 1) := by decide +kernel
theorem dX2_joinAll_40 : decode cX2_joinAll 40 = .ok (.ifCond .eq 24, 3) := by decide +kernel
theorem dX2_joinAll_43 : decode cX2_joinAll 43 = .ok (.aload_n 0, 1) := by decide +kernel
theorem dX2_joinAll_44 : decode cX2_joinAll 44 = .ok (.iload_n 3, 1) := by decide +kernel
theorem dX2_joinAll_45 : decode cX2_joinAll 45 = .ok (.iload 4, 2) := by decide +kernel
theorem dX2_joinAll_47 : decode cX2_joinAll 47 = .ok (.invokevirtual 40, 3) := by decide +kernel
theorem dX2_joinAll_5 : decode cX2_joinAll 5 = .ok (.aload_n 0, 1) := by decide +kernel
theorem dX2_joinAll_50 : decode cX2_joinAll 50 = .ok (.ifCond .ne 14, 3) := by decide +kernel
theorem dX2_joinAll_53 : decode cX2_joinAll 53 = .ok (.aload_n 0, 1) := by decide +kernel
theorem dX2_joinAll_54 : decode cX2_joinAll 54 = .ok (.iload_n 3, 1) := by decide +kernel
theorem dX2_joinAll_55 : decode cX2_joinAll 55 = .ok (.iload 4, 2) := by decide +kernel
theorem dX2_joinAll_57 : decode cX2_joinAll 57 = .ok (.iconst 1, 1) := by decide +kernel
theorem dX2_joinAll_58 : decode cX2_joinAll 58 = .ok (.invokevirtual 43, 3) := by decide +kernel
theorem dX2_joinAll_6 : decode cX2_joinAll 6 = .ok (.getfield 15, 3) := by decide +kernel
theorem dX2_joinAll_61 : decode cX2_joinAll 61 = .ok (.iinc 2 1, 3) := by decide +kernel
theorem dX2_joinAll_64 : decode cX2_joinAll 64 = .ok (.iinc 4 1, 3) := by decide +kernel
theorem dX2_joinAll_67 : decode cX2_joinAll 67 = .ok (.goto (-44), 3) := by decide +kernel
theorem dX2_joinAll_70 : decode cX2_joinAll 70 = .ok (.iinc 3 1, 3) := by decide +kernel
theorem dX2_joinAll_73 : decode cX2_joinAll 73 = .ok (.goto (-69), 3) := by decide +kernel
theorem dX2_joinAll_76 : decode cX2_joinAll 76 = .ok (.iload_n 2, 1) := by decide +kernel
theorem dX2_joinAll_77 : decode cX2_joinAll 77 = .ok (.ireturn, 1) := by decide +kernel
theorem dX2_joinAll_9 : decode cX2_joinAll 9 = .ok (.if_icmp .ge 67, 3) := by decide +kernel
set_option maxHeartbeats 4000000 in
set_option maxRecDepth 100000 in
theorem k_X2_joinAll (l : Launch) (D : va_G) (cI cS : ClassId) (sz : Nat) (a : Nat → Nat) (na nc N : Nat) (L u0 : SU) (hL : TyX L) (hN : N = 0 ∨ N = 24576) : Met l yX2_joinAll wsX2_joinAll ({ frames := 3, cells := 0, slots := 0, locals := 120 }) (PQ D cI cS (wX cI cS a na nc N L u0) sz [.ref (a 1), .ref (a 24)]) (QF (S := SU) D (wX cI cS a na nc N L u0) (wX cI cS a na nc N L) sz (fun r _ => Rg (-2147483648) 2147483647 r ∧ True)) 0 0 (va_A (wX cI cS a na nc N L u0) sz) := by
  refine Met.ofW (cc := cX2_joinAll) (maxL := 5) (ret := (some .int)) (by decide) rfl ?_
  intro p e s m args below meth c s₁ B hml hv
  obtain ⟨rfl, hsz, hP, hKK, hD0⟩ := hv
  have hx := B.exec
  have hb := B.bytes
  have hr := B.returns
  have hts := atoms_spec (ws := wsX2_joinAll) B.pre
  have hown : s.vm.findClass RX2 = some m.cls := findClass_of_methodNamed B.named
  have hlocks := B.notSynchronized
  have hK := hKK.1
  have hin2 : ∀ w ∈ wsX20, w ∈ wsX2_joinAll := by decide +kernel
  subst hsz
  have hD := hD0.self (sz := s.heap.size)
  obtain ⟨A, hAe⟩ : ∃ A, A = va_A (wX cI cS a na nc N L u0) s.heap.size := ⟨_, rfl⟩
  rw [← hAe] at hD
  have hA : ∀ q : Nat, s.heap.size ≤ q → A q := fun q h => by rw [hAe]; exact Or.inr h
  have hS : va_S A s.heap s.heap [] := va_S.rf
  have hl := lv_entry ([.ref (a 1), .ref (a 24)]) (n := 5) (Nat.le_of_ble_eq_true rfl)
  rw [lg_entry_eq]
  generalize (lg_sl ([.ref (a 1), .ref (a 24)]) ++ List.replicate (5 - (lg_sl ([.ref (a 1), .ref (a 24)])).length) Slot.unset).toArray = ls at hl ⊢
  have hl : lv_has ls 5 [(0, .ref (a 1)), (1, .ref (a 24))] := hl
  obtain ⟨u, hu9⟩ : ∃ u : SU, u = u0 := ⟨_, rfl⟩
  rw [← hu9] at hP hD
  have lp4 : ∀ (n4 : Nat) (y4_l2 y4_l3 : Int32) (u : SU) (H : Heap) (locs : List Loc) (ls : Array Slot), Rg 0 12 y4_l3 → va_P D cls (wX cI cS a na nc N L u) H → va_D A (wX cI cS a na nc N L u) → va_S A s.heap H locs → lv_has ls 5 [(0, .ref (a 1)), (1, .ref (a 24)), (2, .int y4_l2), (3, .int y4_l3)] → 12 - y4_l3.toInt < (n4 : Int) → W p l e (headSpec wsX2_joinAll ({ frames := 3, cells := 0, slots := 0, locals := 120 })).room s m ([.ref (a 1), .ref (a 24)]).toArray below meth c H locs 0 0 (MQ below (QF (S := SU) D (wX cI cS a na nc N L u0) (wX cI cS a na nc N L) s.heap.size (fun r _ => Rg (-2147483648) 2147483647 r ∧ True)) ([.ref (a 1), .ref (a 24)]).toArray s 0 0 (va_A (wX cI cS a na nc N L u0) s.heap.size)) (F0 m 4 ls []) := by
    intro n4
    induction n4 with
    | zero =>
      intro y4_l2 y4_l3 u H locs ls g4_l3 hP hD hS hl hm4
      exact absurd rfl (me_z g4_l3 hm4)
    | succ n4 ih4 =>
      intro y4_l2 y4_l3 u H locs ls g4_l3 hP hD hS hl hm4
      have lp23 : ∀ (n23 : Nat) (y23_l2 y23_l4 : Int32) (u : SU) (H : Heap) (locs : List Loc) (ls : Array Slot), Rg 0 11 y4_l3 → Rg 1 12 y23_l4 → va_P D cls (wX cI cS a na nc N L u) H → va_D A (wX cI cS a na nc N L u) → va_S A s.heap H locs → lv_has ls 5 [(0, .ref (a 1)), (1, .ref (a 24)), (2, .int y23_l2), (3, .int y4_l3), (4, .int y23_l4)] → 12 - y23_l4.toInt < (n23 : Int) → W p l e (headSpec wsX2_joinAll ({ frames := 3, cells := 0, slots := 0, locals := 120 })).room s m ([.ref (a 1), .ref (a 24)]).toArray below meth c H locs 0 0 (MQ below (QF (S := SU) D (wX cI cS a na nc N L u0) (wX cI cS a na nc N L) s.heap.size (fun r _ => Rg (-2147483648) 2147483647 r ∧ True)) ([.ref (a 1), .ref (a 24)]).toArray s 0 0 (va_A (wX cI cS a na nc N L u0) s.heap.size)) (F0 m 23 ls []) := by
        intro n23
        induction n23 with
        | zero =>
          intro y23_l2 y23_l4 u H locs ls g23_l3 g23_l4 hP hD hS hl hm23
          exact absurd rfl (me_z g23_l4 hm23)
        | succ n23 ih23 =>
          intro y23_l2 y23_l4 u H locs ls g23_l3 g23_l4 hP hD hS hl hm23
          refine lv_iload hx hb dX2_joinAll_23 (lv_at hl 4 rfl) ?_
          refine lv_aload_n hx hb dX2_joinAll_25 rfl (lv_at hl 0 rfl) ?_
          refine va_get (D := D) (ci := 2) (v := .int (L 1 1)) (C := RX2) (T := TX2) (N := 3) hx hb hts hin2 hown hK hP 1 rfl rfl 1 (by decide) (hts (.fieldLink RX2 15 "MissedPoints$Net" "size" "I") (by decide +kernel)) (fun _ h9 => h9) rfl dX2_joinAll_26 ?_
          refine lv_icmp_ge (tgt := 70) hx hb dX2_joinAll_29 (by decide) (fun c21922 => ?_) (fun c21922 => ?_)
          · refine wk_iinc (lv' := fun r => [(3, .int r), (0, .ref (a 1)), (1, .ref (a 24)), (2, .int y23_l2), (4, .int y23_l4)]) (e1 := 1) (f := 12) hx hb dX2_joinAll_70 hl (k := 3) rfl (by decide) g23_l3 (by decide) (fun _ => rfl) (fun r21923 ls hr21923 er21923 hl => ?_)
            refine lv_goto (tgt := 4) hx hb dX2_joinAll_73 (by decide) ?_
            exact ih4 y23_l2 r21923 u _ _ ls (show Rg 0 12 r21923 from rg_w hr21923 (by decide) (by decide)) hP hD hS (lv_sub (l' := [(0, .ref (a 1)), (1, .ref (a 24)), (2, .int y23_l2), (3, .int r21923)]) hl [1, 2, 3, 0] rfl) (me_up hm4 er21923 (by decide))
          · have g21924 : Rg 2 12 (L 1 1) := rg_ltr g23_l4 hL.1 (rg_nle c21922) (by decide)
            have g21925 : Rg 1 11 y23_l4 := rg_ltl g23_l4 hL.1 (rg_nle c21922) (by decide)
            refine lv_aload_n hx hb dX2_joinAll_32 rfl (lv_at hl 1 rfl) ?_
            refine lv_iload_n hx hb dX2_joinAll_33 rfl (lv_at hl 3 rfl) ?_
            refine wk_aldA hx hb hK hP 24 0 rfl rfl (rg_in g23_l3 (by decide) (by decide)) dX2_joinAll_34 (fun r21926 => ?_)
            refine lv_iload hx hb dX2_joinAll_35 (lv_at hl 4 rfl) ?_
            refine lv_ishr hx hb dX2_joinAll_37 ?_
            refine wk_topP (P := fun r => r = r21926 >>> (y23_l4 &&& 31)) rfl (fun r21927 qr21927 => ?_)
            refine lv_iconst (v := 1) hx hb dX2_joinAll_38 (by decide) ?_
            refine wk_iandr hx hb dX2_joinAll_39 (by decide : Rg 1 1 (1 : Int32)) (by decide) (fun r21928 hr21928 qr21928 => ?_)
            refine lv_if_eq (tgt := 64) hx hb dX2_joinAll_40 (by decide) (fun c21929 => ?_) (fun c21929 => ?_)
            · have g21930 : Rg 0 0 r21928 := wk_eql hr21928 (by decide : Rg 0 0 (0 : Int32)) c21929 (by decide)
              refine wk_iinc (lv' := fun r => [(4, .int r), (0, .ref (a 1)), (1, .ref (a 24)), (2, .int y23_l2), (3, .int y4_l3)]) (e1 := 2) (f := 12) hx hb dX2_joinAll_64 hl (k := 4) rfl (by decide) g21925 (by decide) (fun _ => rfl) (fun r21931 ls hr21931 er21931 hl => ?_)
              refine lv_goto (tgt := 23) hx hb dX2_joinAll_67 (by decide) ?_
              exact ih23 y23_l2 r21931 u _ _ ls g23_l3 (show Rg 1 12 r21931 from rg_w hr21931 (by decide) (by decide)) hP hD hS (lv_sub (l' := [(0, .ref (a 1)), (1, .ref (a 24)), (2, .int y23_l2), (3, .int y4_l3), (4, .int r21931)]) hl [1, 2, 3, 4, 0] rfl) (me_up hm23 er21931 (by decide))
            · have g21932 : Rg 1 1 r21928 := rg_ne_lo (k := 0) hr21928 (by decide) c21929 (by decide)
              refine lv_aload_n hx hb dX2_joinAll_43 rfl (lv_at hl 0 rfl) ?_
              refine lv_iload_n hx hb dX2_joinAll_44 rfl (lv_at hl 3 rfl) ?_
              refine lv_iload hx hb dX2_joinAll_45 (lv_at hl 4 rfl) ?_
              refine wk_sv 1 (As := [.int y4_l3, .int y23_l4]) (rest := []) ⟨hx, hb, hml, hown, hts⟩ (k_X2_joined l D cI cS a na nc N L u hL hN y4_l3 y23_l4) hKK hP (ci := 2) rfl rfl (cwV 2 hts gX2_joinAll_X2_joined rfl rfl rfl (by decide +kernel) ⟨Nat.le_of_ble_eq_true rfl, Nat.le_of_ble_eq_true rfl⟩) rfl hl.1 rfl (Nat.le_of_ble_eq_true rfl) dX2_joinAll_47 ⟨Nat.le_of_ble_eq_true rfl, Nat.le_of_ble_eq_true rfl⟩ (fun r21933 hr21933 => ?_)
              refine lv_if_ne (tgt := 64) hx hb dX2_joinAll_50 (by decide) (fun c21934 => ?_) (fun c21934 => ?_)
              · have g21935 : Rg 1 1 r21933 := rg_ne_lo (k := 0) hr21933.1 (by decide) c21934 (by decide)
                refine wk_iinc (lv' := fun r => [(4, .int r), (0, .ref (a 1)), (1, .ref (a 24)), (2, .int y23_l2), (3, .int y4_l3)]) (e1 := 2) (f := 12) hx hb dX2_joinAll_64 hl (k := 4) rfl (by decide) g21925 (by decide) (fun _ => rfl) (fun r21936 ls hr21936 er21936 hl => ?_)
                refine lv_goto (tgt := 23) hx hb dX2_joinAll_67 (by decide) ?_
                exact ih23 y23_l2 r21936 u _ _ ls g23_l3 (show Rg 1 12 r21936 from rg_w hr21936 (by decide) (by decide)) hP hD hS (lv_sub (l' := [(0, .ref (a 1)), (1, .ref (a 24)), (2, .int y23_l2), (3, .int y4_l3), (4, .int r21936)]) hl [1, 2, 3, 4, 0] rfl) (me_up hm23 er21936 (by decide))
              · have g21937 : Rg 0 0 r21933 := wk_eql hr21933.1 (by decide : Rg 0 0 (0 : Int32)) c21934 (by decide)
                refine lv_aload_n hx hb dX2_joinAll_53 rfl (lv_at hl 0 rfl) ?_
                refine lv_iload_n hx hb dX2_joinAll_54 rfl (lv_at hl 3 rfl) ?_
                refine lv_iload hx hb dX2_joinAll_55 (lv_at hl 4 rfl) ?_
                refine lv_iconst (v := 1) hx hb dX2_joinAll_57 (by decide) ?_
                refine wk_qv (wX cI cS a na nc N L) u (As := [.int y4_l3, .int y23_l4, .int 1]) (rest := []) ⟨hx, hb, hml, hown, hts⟩ (k_X2_join l D cI cS _ a na nc N L u hL hN y4_l3 y23_l4 (1 : Int32) (by decide : Rg 0 1 (1 : Int32))) hKK hP hD hS hA 1 (ci := 2) rfl rfl (cwV 3 hts gX2_joinAll_X2_join rfl rfl rfl (by decide +kernel) ⟨Nat.le_of_ble_eq_true rfl, Nat.le_of_ble_eq_true rfl⟩) rfl hl.1 rfl (Nat.le_of_ble_eq_true rfl) dX2_joinAll_58 ⟨Nat.le_of_ble_eq_true rfl, Nat.le_of_ble_eq_true rfl⟩ (fun u H locs hr21938 hP hD hS => ?_)
                refine wk_iincA (lv' := fun r => [(2, .int r), (0, .ref (a 1)), (1, .ref (a 24)), (3, .int y4_l3), (4, .int y23_l4)]) hx hb dX2_joinAll_61 hl (k := 2) rfl (by decide) (fun _ => rfl) (fun r21939 ls hl => ?_)
                refine wk_iinc (lv' := fun r => [(4, .int r), (2, .int r21939), (0, .ref (a 1)), (1, .ref (a 24)), (3, .int y4_l3)]) (e1 := 2) (f := 12) hx hb dX2_joinAll_64 hl (k := 4) rfl (by decide) g21925 (by decide) (fun _ => rfl) (fun r21940 ls hr21940 er21940 hl => ?_)
                refine lv_goto (tgt := 23) hx hb dX2_joinAll_67 (by decide) ?_
                exact ih23 r21939 r21940 u _ _ ls g23_l3 (show Rg 1 12 r21940 from rg_w hr21940 (by decide) (by decide)) hP hD hS (lv_sub (l' := [(0, .ref (a 1)), (1, .ref (a 24)), (2, .int r21939), (3, .int y4_l3), (4, .int r21940)]) hl [2, 3, 1, 4, 0] rfl) (me_up hm23 er21940 (by decide))
      refine lv_iload_n hx hb dX2_joinAll_4 rfl (lv_at hl 3 rfl) ?_
      refine lv_aload_n hx hb dX2_joinAll_5 rfl (lv_at hl 0 rfl) ?_
      refine va_get (D := D) (ci := 2) (v := .int (L 1 1)) (C := RX2) (T := TX2) (N := 3) hx hb hts hin2 hown hK hP 1 rfl rfl 1 (by decide) (hts (.fieldLink RX2 15 "MissedPoints$Net" "size" "I") (by decide +kernel)) (fun _ h9 => h9) rfl dX2_joinAll_6 ?_
      refine lv_icmp_ge (tgt := 76) hx hb dX2_joinAll_9 (by decide) (fun c21941 => ?_) (fun c21941 => ?_)
      · refine lv_iload_n hx hb dX2_joinAll_76 rfl (lv_at hl 2 rfl) ?_
        subst hAe
        exact W.iret (v := y4_l2) hx hb hr (fun t ht hW => ⟨⟨_, u, rfl, ⟨(rg_any y4_l2), trivial⟩, by rw [ht]; exact hP, hD⟩, hS.F ht⟩) hS.2.2 dX2_joinAll_77
      · have g21942 : Rg 1 12 (L 1 1) := rg_ltr g4_l3 hL.1 (rg_nle c21941) (by decide)
        have g21943 : Rg 0 11 y4_l3 := rg_ltl g4_l3 hL.1 (rg_nle c21941) (by decide)
        refine lv_iload_n hx hb dX2_joinAll_12 rfl (lv_at hl 3 rfl) ?_
        refine lv_aload_n hx hb dX2_joinAll_13 rfl (lv_at hl 1 rfl) ?_
        refine va_alen hx hb hK hP 24 0 rfl rfl (v := 12) (by decide) dX2_joinAll_14 ?_
        refine lv_icmp_ge (tgt := 76) hx hb dX2_joinAll_15 (by decide) (fun c21944 => ?_) (fun c21944 => ?_)
        · exact absurd c21944 (wk_nle (by decide : Rg 12 12 (12 : Int32)) g21943 (by decide))
        · refine lv_iload_n hx hb dX2_joinAll_18 rfl (lv_at hl 3 rfl) ?_
          refine lv_iconst (v := 1) hx hb dX2_joinAll_19 (by decide) ?_
          refine wk_iadd (e1 := 1) (f := 12) hx hb dX2_joinAll_20 g21943 (by decide : Rg 1 1 (1 : Int32)) (by decide) (fun r21945 hr21945 er21945 qr21945 => ?_)
          refine lv_istore (lv' := [(4, .int r21945), (0, .ref (a 1)), (1, .ref (a 24)), (2, .int y4_l2), (3, .int y4_l3)]) hx hb dX2_joinAll_21 hl (by decide) rfl (fun ls hl => ?_)
          exact lp23 12 y4_l2 r21945 u _ _ ls g21943 hr21945 hP hD hS (lv_sub (l' := [(0, .ref (a 1)), (1, .ref (a 24)), (2, .int y4_l2), (3, .int y4_l3), (4, .int r21945)]) hl [1, 2, 3, 4, 0] rfl) (me_i hr21945 (by decide))
  refine lv_iconst (v := 0) hx hb dX2_joinAll_0 (by decide) ?_
  refine lv_istore_n (lv' := [(2, .int 0), (0, .ref (a 1)), (1, .ref (a 24))]) hx hb dX2_joinAll_1 rfl hl (by decide) rfl (fun ls hl => ?_)
  refine lv_iconst (v := 0) hx hb dX2_joinAll_2 (by decide) ?_
  refine lv_istore_n (lv' := [(3, .int 0), (2, .int 0), (0, .ref (a 1)), (1, .ref (a 24))]) hx hb dX2_joinAll_3 rfl hl (by decide) rfl (fun ls hl => ?_)
  exact lp4 13 (0 : Int32) (0 : Int32) u _ _ ls (by decide : Rg 0 12 (0 : Int32)) hP hD hS (lv_sub (l' := [(0, .ref (a 1)), (1, .ref (a 24)), (2, .int 0), (3, .int 0)]) hl [2, 3, 1, 0] rfl) (me_i (by decide : Rg 0 12 (0 : Int32)) (by decide))
set_option maxHeartbeats 4000000 in
set_option maxRecDepth 100000 in
theorem k_X1_recall (l : Launch) (D : va_G) (cI cS : ClassId) (a : Nat → Nat) (na nc N : Nat) (L u : SU) (hL : TyX L) (hN : N = 0 ∨ N = 24576) (x0 : Int32) : Met l yX1_recall wsX1_recall ({ frames := 0, cells := 0, slots := 0, locals := 0 }) (PS D cI cS (wX cI cS a na nc N L u) [.ref (a 9), .int x0]) (vp_Si (fun r => Rg (-1) 65535 r ∧ True)) 0 0 (fun _ => False) := by
  refine Met.ofW (cc := cX1_recall) (maxL := 2) (ret := (some .int)) (by decide) rfl ?_
  intro p e s m args below meth c s₁ B hml hv
  obtain ⟨rfl, hP, hKK⟩ := hv
  have hx := B.exec
  have hb := B.bytes
  have hr := B.returns
  have hts := atoms_spec (ws := wsX1_recall) B.pre
  have hown : s.vm.findClass RX1 = some m.cls := findClass_of_methodNamed B.named
  have hlocks := B.notSynchronized
  have hK := hKK.1
  have hin1 : ∀ w ∈ wsX10, w ∈ wsX1_recall := by decide +kernel
  have hl := lv_entry ([.ref (a 9), .int x0]) (n := 2) (Nat.le_of_ble_eq_true rfl)
  rw [lg_entry_eq]
  generalize (lg_sl ([.ref (a 9), .int x0]) ++ List.replicate (2 - (lg_sl ([.ref (a 9), .int x0])).length) Slot.unset).toArray = ls at hl ⊢
  have hl : lv_has ls 2 [(0, .ref (a 9)), (1, .int x0)] := hl
  refine lv_iload_n hx hb dX1_recall_0 rfl (lv_at hl 1 rfl) ?_
  refine lv_if_lt (tgt := 29) hx hb dX1_recall_1 (by decide) (fun c21958 => ?_) (fun c21958 => ?_)
  · have g21959 : Rg (-2147483648) (-1) x0 := rg_ltl (rg_any x0) (by decide : Rg 0 0 (0 : Int32)) c21958 (by decide)
    refine lv_iconst (v := (-1)) hx hb dX1_recall_29 (by decide) ?_
    exact W.iret (v := (-1)) hx hb hr (fun t ht hW => ⟨_, rfl, ⟨(by decide : Rg (-1) 65535 ((-1) : Int32)), trivial⟩, ht⟩) (fun q hq => absurd hq List.not_mem_nil) dX1_recall_30
  · have g21960 : Rg 0 2147483647 x0 := rg_ler (by decide : Rg 0 0 (0 : Int32)) (rg_any x0) (rg_nlt c21958) (by decide)
    refine lv_iload_n hx hb dX1_recall_4 rfl (lv_at hl 1 rfl) ?_
    refine lv_aload_n hx hb dX1_recall_5 rfl (lv_at hl 0 rfl) ?_
    refine va_get (D := D) (ci := 1) (v := .ref (a 10)) (C := RX1) (T := TX1) (N := 2) hx hb hts hin1 hown hK hP 9 rfl rfl 0 (by decide) (hts (.fieldLink RX1 21 "MissedPoints$Memo" "cells" "[I") (by decide +kernel)) (fun _ h9 => h9) rfl dX1_recall_6 ?_
    refine va_alen hx hb hK hP 10 0 rfl rfl (v := 4096) (by decide) dX1_recall_9 ?_
    refine lv_icmp_ge (tgt := 29) hx hb dX1_recall_10 (by decide) (fun c21961 => ?_) (fun c21961 => ?_)
    · have g21962 : Rg 4096 2147483647 x0 := rg_ler (by decide : Rg 4096 4096 (4096 : Int32)) g21960 c21961 (by decide)
      refine lv_iconst (v := (-1)) hx hb dX1_recall_29 (by decide) ?_
      exact W.iret (v := (-1)) hx hb hr (fun t ht hW => ⟨_, rfl, ⟨(by decide : Rg (-1) 65535 ((-1) : Int32)), trivial⟩, ht⟩) (fun q hq => absurd hq List.not_mem_nil) dX1_recall_30
    · have g21963 : Rg 0 4095 x0 := rg_ltl g21960 (by decide : Rg 4096 4096 (4096 : Int32)) (rg_nle c21961) (by decide)
      refine lv_aload_n hx hb dX1_recall_13 rfl (lv_at hl 0 rfl) ?_
      refine va_get (D := D) (ci := 1) (v := .ref (a 10)) (C := RX1) (T := TX1) (N := 2) hx hb hts hin1 hown hK hP 9 rfl rfl 0 (by decide) (hts (.fieldLink RX1 21 "MissedPoints$Memo" "cells" "[I") (by decide +kernel)) (fun _ h9 => h9) rfl dX1_recall_14 ?_
      refine lv_iload_n hx hb dX1_recall_17 rfl (lv_at hl 1 rfl) ?_
      refine wk_aldA hx hb hK hP 10 0 rfl rfl (rg_in g21963 (by decide) (by decide)) dX1_recall_18 (fun r21964 => ?_)
      refine lv_bipush (v := 16) hx hb dX1_recall_19 (by decide) ?_
      refine lv_iushr hx hb dX1_recall_21 rfl ?_
      refine wk_any (fun r21965 => ?_)
      refine lv_aload_n hx hb dX1_recall_22 rfl (lv_at hl 0 rfl) ?_
      refine va_get (D := D) (ci := 1) (v := .int (u 9 1)) (C := RX1) (T := TX1) (N := 2) hx hb hts hin1 hown hK hP 9 rfl rfl 1 (by decide) (hts (.fieldLink RX1 9 "MissedPoints$Memo" "age" "I") (by decide +kernel)) (fun _ h9 => h9) rfl dX1_recall_23 ?_
      refine wk_any (fun r21966 => ?_)
      refine lv_icmp_eq (tgt := 31) hx hb dX1_recall_26 (by decide) (fun c21967 => ?_) (fun c21967 => ?_)
      · refine lv_aload_n hx hb dX1_recall_31 rfl (lv_at hl 0 rfl) ?_
        refine va_get (D := D) (ci := 1) (v := .ref (a 10)) (C := RX1) (T := TX1) (N := 2) hx hb hts hin1 hown hK hP 9 rfl rfl 0 (by decide) (hts (.fieldLink RX1 21 "MissedPoints$Memo" "cells" "[I") (by decide +kernel)) (fun _ h9 => h9) rfl dX1_recall_32 ?_
        refine lv_iload_n hx hb dX1_recall_35 rfl (lv_at hl 1 rfl) ?_
        refine wk_aldA hx hb hK hP 10 0 rfl rfl (rg_in g21963 (by decide) (by decide)) dX1_recall_36 (fun r21968 => ?_)
        refine lv_ldc hx hb hown (hts (.constant RX1 25 (65535)) (by decide +kernel)) dX1_recall_37 ?_
        refine wk_iandr hx hb dX1_recall_39 (by decide : Rg 65535 65535 (65535 : Int32)) (by decide) (fun r21969 hr21969 qr21969 => ?_)
        exact W.iret (v := r21969) hx hb hr (fun t ht hW => ⟨_, rfl, ⟨(show Rg (-1) 65535 r21969 from rg_w hr21969 (by decide) (by decide)), trivial⟩, ht⟩) (fun q hq => absurd hq List.not_mem_nil) dX1_recall_40
      · refine lv_iconst (v := (-1)) hx hb dX1_recall_29 (by decide) ?_
        exact W.iret (v := (-1)) hx hb hr (fun t ht hW => ⟨_, rfl, ⟨(by decide : Rg (-1) 65535 ((-1) : Int32)), trivial⟩, ht⟩) (fun q hq => absurd hq List.not_mem_nil) dX1_recall_30
set_option maxHeartbeats 4000000 in
set_option maxRecDepth 100000 in
theorem k_X1_keep (l : Launch) (D : va_G) (cI cS : ClassId) (sz : Nat) (a : Nat → Nat) (na nc N : Nat) (L u0 : SU) (hL : TyX L) (hN : N = 0 ∨ N = 24576) (x0 x1 : Int32) : Met l yX1_keep wsX1_keep ({ frames := 0, cells := 0, slots := 0, locals := 0 }) (PQ D cI cS (wX cI cS a na nc N L u0) sz [.ref (a 9), .int x0, .int x1]) (QE (S := SU) D (wX cI cS a na nc N L u0) (wX cI cS a na nc N L) sz (fun _ => True)) 0 0 (va_A (wX cI cS a na nc N L u0) sz) := by
  refine Met.ofW (cc := cX1_keep) (maxL := 3) (ret := none) (by decide) rfl ?_
  intro p e s m args below meth c s₁ B hml hv
  obtain ⟨rfl, hsz, hP, hKK, hD0⟩ := hv
  have hx := B.exec
  have hb := B.bytes
  have hr := B.returns
  have hts := atoms_spec (ws := wsX1_keep) B.pre
  have hown : s.vm.findClass RX1 = some m.cls := findClass_of_methodNamed B.named
  have hlocks := B.notSynchronized
  have hK := hKK.1
  have hin1 : ∀ w ∈ wsX10, w ∈ wsX1_keep := by decide +kernel
  subst hsz
  have hD := hD0.self (sz := s.heap.size)
  obtain ⟨A, hAe⟩ : ∃ A, A = va_A (wX cI cS a na nc N L u0) s.heap.size := ⟨_, rfl⟩
  rw [← hAe] at hD
  have hA : ∀ q : Nat, s.heap.size ≤ q → A q := fun q h => by rw [hAe]; exact Or.inr h
  have hS : va_S A s.heap s.heap [] := va_S.rf
  have hl := lv_entry ([.ref (a 9), .int x0, .int x1]) (n := 3) (Nat.le_of_ble_eq_true rfl)
  rw [lg_entry_eq]
  generalize (lg_sl ([.ref (a 9), .int x0, .int x1]) ++ List.replicate (3 - (lg_sl ([.ref (a 9), .int x0, .int x1])).length) Slot.unset).toArray = ls at hl ⊢
  have hl : lv_has ls 3 [(0, .ref (a 9)), (1, .int x0), (2, .int x1)] := hl
  obtain ⟨u, hu9⟩ : ∃ u : SU, u = u0 := ⟨_, rfl⟩
  rw [← hu9] at hP hD
  refine lv_iload_n hx hb dX1_keep_0 rfl (lv_at hl 1 rfl) ?_
  refine lv_if_lt (tgt := 31) hx hb dX1_keep_1 (by decide) (fun c21980 => ?_) (fun c21980 => ?_)
  · have g21981 : Rg (-2147483648) (-1) x0 := rg_ltl (rg_any x0) (by decide : Rg 0 0 (0 : Int32)) c21980 (by decide)
    subst hAe
    exact W.vret hx hb hr (fun t ht hW => ⟨⟨u, rfl, trivial, by rw [ht]; exact hP, hD⟩, hS.F ht⟩) hS.2.2 dX1_keep_31
  · have g21982 : Rg 0 2147483647 x0 := rg_ler (by decide : Rg 0 0 (0 : Int32)) (rg_any x0) (rg_nlt c21980) (by decide)
    refine lv_iload_n hx hb dX1_keep_4 rfl (lv_at hl 1 rfl) ?_
    refine lv_aload_n hx hb dX1_keep_5 rfl (lv_at hl 0 rfl) ?_
    refine va_get (D := D) (ci := 1) (v := .ref (a 10)) (C := RX1) (T := TX1) (N := 2) hx hb hts hin1 hown hK hP 9 rfl rfl 0 (by decide) (hts (.fieldLink RX1 21 "MissedPoints$Memo" "cells" "[I") (by decide +kernel)) (fun _ h9 => h9) rfl dX1_keep_6 ?_
    refine va_alen hx hb hK hP 10 0 rfl rfl (v := 4096) (by decide) dX1_keep_9 ?_
    refine lv_icmp_ge (tgt := 31) hx hb dX1_keep_10 (by decide) (fun c21983 => ?_) (fun c21983 => ?_)
    · have g21984 : Rg 4096 2147483647 x0 := rg_ler (by decide : Rg 4096 4096 (4096 : Int32)) g21982 c21983 (by decide)
      subst hAe
      exact W.vret hx hb hr (fun t ht hW => ⟨⟨u, rfl, trivial, by rw [ht]; exact hP, hD⟩, hS.F ht⟩) hS.2.2 dX1_keep_31
    · have g21985 : Rg 0 4095 x0 := rg_ltl g21982 (by decide : Rg 4096 4096 (4096 : Int32)) (rg_nle c21983) (by decide)
      refine lv_aload_n hx hb dX1_keep_13 rfl (lv_at hl 0 rfl) ?_
      refine va_get (D := D) (ci := 1) (v := .ref (a 10)) (C := RX1) (T := TX1) (N := 2) hx hb hts hin1 hown hK hP 9 rfl rfl 0 (by decide) (hts (.fieldLink RX1 21 "MissedPoints$Memo" "cells" "[I") (by decide +kernel)) (fun _ h9 => h9) rfl dX1_keep_14 ?_
      refine lv_iload_n hx hb dX1_keep_17 rfl (lv_at hl 1 rfl) ?_
      refine lv_aload_n hx hb dX1_keep_18 rfl (lv_at hl 0 rfl) ?_
      refine va_get (D := D) (ci := 1) (v := .int (u 9 1)) (C := RX1) (T := TX1) (N := 2) hx hb hts hin1 hown hK hP 9 rfl rfl 1 (by decide) (hts (.fieldLink RX1 9 "MissedPoints$Memo" "age" "I") (by decide +kernel)) (fun _ h9 => h9) rfl dX1_keep_19 ?_
      refine wk_any (fun r21986 => ?_)
      refine lv_bipush (v := 16) hx hb dX1_keep_22 (by decide) ?_
      refine lv_ishl hx hb dX1_keep_24 ?_
      refine wk_topP (P := fun r => r = r21986 <<< ((16 : Int32) &&& 31)) rfl (fun r21987 qr21987 => ?_)
      refine lv_iload_n hx hb dX1_keep_25 rfl (lv_at hl 2 rfl) ?_
      refine lv_ldc hx hb hown (hts (.constant RX1 25 (65535)) (by decide +kernel)) dX1_keep_26 ?_
      refine wk_iandr hx hb dX1_keep_28 (by decide : Rg 65535 65535 (65535 : Int32)) (by decide) (fun r21988 hr21988 qr21988 => ?_)
      refine lv_ior hx hb dX1_keep_29 ?_
      refine wk_topP (P := fun r => r = r21987 ||| r21988) rfl (fun r21989 qr21989 => ?_)
      refine ks_ast hx hb hK hP hD hS rfl (k := 10) rfl sx_10 (rg_in g21985 (by decide) (by decide)) dX1_keep_30 (fun u H locs hP hD hS => ?_)
      subst hAe
      exact W.vret hx hb hr (fun t ht hW => ⟨⟨u, rfl, trivial, by rw [ht]; exact hP, hD⟩, hS.F ht⟩) hS.2.2 dX1_keep_31
theorem dX1_forget_10 : decode cX1_forget 10 = .ok (.iconst 0, 1) := by decide +kernel
theorem dX1_forget_11 : decode cX1_forget 11 = .ok (.istore_n 1, 1) := by decide +kernel
theorem dX1_forget_12 : decode cX1_forget 12 = .ok (.iload_n 1, 1) := by decide +kernel
theorem dX1_forget_13 : decode cX1_forget 13 = .ok (.aload_n 0, 1) := by decide +kernel
theorem dX1_forget_14 : decode cX1_forget 14 = .ok (.getfield 21, 3) := by decide +kernel
theorem dX1_forget_17 : decode cX1_forget 17 = .ok (.arraylength, 1) := by decide +kernel
theorem dX1_forget_18 : decode cX1_forget 18 = .ok (.if_icmp .ge 16, 3) := by decide +kernel
theorem dX1_forget_21 : decode cX1_forget 21 = .ok (.aload_n 0, 1) := by decide +kernel
theorem dX1_forget_22 : decode cX1_forget 22 = .ok (.getfield 21, 3) := by decide +kernel
theorem dX1_forget_25 : decode cX1_forget 25 = .ok (.iload_n 1, 1) := by decide +kernel
theorem dX1_forget_26 : decode cX1_forget 26 = .ok (.iconst 0, 1) := by decide +kernel
theorem dX1_forget_27 : decode cX1_forget 27 = .ok (.iastore, 1) := by decide +kernel
theorem dX1_forget_28 : decode cX1_forget 28 = .ok (.iinc 1 1, 3) := by decide +kernel
theorem dX1_forget_31 : decode cX1_forget 31 = .ok (.goto (-19), 3) := by decide +kernel
theorem dX1_forget_34 : decode cX1_forget 34 = .ok (.aload_n 0, 1) := by decide +kernel
theorem dX1_forget_35 : decode cX1_forget 35 = .ok (.iconst 0, 1) := by decide +kernel
theorem dX1_forget_36 : decode cX1_forget 36 = .ok (.putfield 9, 3) := by decide +kernel
set_option maxHeartbeats 4000000 in
set_option maxRecDepth 100000 in
theorem k_X1_forget (l : Launch) (D : va_G) (cI cS : ClassId) (sz : Nat) (a : Nat → Nat) (na nc N : Nat) (L u0 : SU) (hL : TyX L) (hN : N = 0 ∨ N = 24576) : Met l yX1_forget wsX1_forget ({ frames := 0, cells := 0, slots := 0, locals := 0 }) (PQ D cI cS (wX cI cS a na nc N L u0) sz [.ref (a 9)]) (QE (S := SU) D (wX cI cS a na nc N L u0) (wX cI cS a na nc N L) sz (fun _ => True)) 0 0 (va_A (wX cI cS a na nc N L u0) sz) := by
  refine Met.ofW (cc := cX1_forget) (maxL := 2) (ret := none) (by decide) rfl ?_
  intro p e s m args below meth c s₁ B hml hv
  obtain ⟨rfl, hsz, hP, hKK, hD0⟩ := hv
  have hx := B.exec
  have hb := B.bytes
  have hr := B.returns
  have hts := atoms_spec (ws := wsX1_forget) B.pre
  have hown : s.vm.findClass RX1 = some m.cls := findClass_of_methodNamed B.named
  have hlocks := B.notSynchronized
  have hK := hKK.1
  have hin1 : ∀ w ∈ wsX10, w ∈ wsX1_forget := by decide +kernel
  subst hsz
  have hD := hD0.self (sz := s.heap.size)
  obtain ⟨A, hAe⟩ : ∃ A, A = va_A (wX cI cS a na nc N L u0) s.heap.size := ⟨_, rfl⟩
  rw [← hAe] at hD
  have hA : ∀ q : Nat, s.heap.size ≤ q → A q := fun q h => by rw [hAe]; exact Or.inr h
  have hS : va_S A s.heap s.heap [] := va_S.rf
  have hl := lv_entry ([.ref (a 9)]) (n := 2) (Nat.le_of_ble_eq_true rfl)
  rw [lg_entry_eq]
  generalize (lg_sl ([.ref (a 9)]) ++ List.replicate (2 - (lg_sl ([.ref (a 9)])).length) Slot.unset).toArray = ls at hl ⊢
  have hl : lv_has ls 2 [(0, .ref (a 9))] := hl
  obtain ⟨u, hu9⟩ : ∃ u : SU, u = u0 := ⟨_, rfl⟩
  rw [← hu9] at hP hD
  have lp12 : ∀ (n12 : Nat) (y12_l1 : Int32) (u : SU) (H : Heap) (locs : List Loc) (ls : Array Slot), Rg 0 4096 y12_l1 → va_P D cls (wX cI cS a na nc N L u) H → va_D A (wX cI cS a na nc N L u) → va_S A s.heap H locs → lv_has ls 2 [(0, .ref (a 9)), (1, .int y12_l1)] → 4096 - y12_l1.toInt < (n12 : Int) → W p l e (headSpec wsX1_forget ({ frames := 0, cells := 0, slots := 0, locals := 0 })).room s m ([.ref (a 9)]).toArray below meth c H locs 0 0 (MQ below (QE (S := SU) D (wX cI cS a na nc N L u0) (wX cI cS a na nc N L) s.heap.size (fun _ => True)) ([.ref (a 9)]).toArray s 0 0 (va_A (wX cI cS a na nc N L u0) s.heap.size)) (F0 m 12 ls []) := by
    intro n12
    induction n12 with
    | zero =>
      intro y12_l1 u H locs ls g12_l1 hP hD hS hl hm12
      exact absurd rfl (me_z g12_l1 hm12)
    | succ n12 ih12 =>
      intro y12_l1 u H locs ls g12_l1 hP hD hS hl hm12
      refine lv_iload_n hx hb dX1_forget_12 rfl (lv_at hl 1 rfl) ?_
      refine lv_aload_n hx hb dX1_forget_13 rfl (lv_at hl 0 rfl) ?_
      refine va_get (D := D) (ci := 1) (v := .ref (a 10)) (C := RX1) (T := TX1) (N := 2) hx hb hts hin1 hown hK hP 9 rfl rfl 0 (by decide) (hts (.fieldLink RX1 21 "MissedPoints$Memo" "cells" "[I") (by decide +kernel)) (fun _ h9 => h9) rfl dX1_forget_14 ?_
      refine va_alen hx hb hK hP 10 0 rfl rfl (v := 4096) (by decide) dX1_forget_17 ?_
      refine lv_icmp_ge (tgt := 34) hx hb dX1_forget_18 (by decide) (fun c22148 => ?_) (fun c22148 => ?_)
      · have g22149 : Rg 4096 4096 y12_l1 := rg_ler (by decide : Rg 4096 4096 (4096 : Int32)) g12_l1 c22148 (by decide)
        refine lv_aload_n hx hb dX1_forget_34 rfl (lv_at hl 0 rfl) ?_
        refine lv_iconst (v := 0) hx hb dX1_forget_35 (by decide) ?_
        refine va_put (D := D) (ci := 1) (v := .int 0) (ty := .int) (C := RX1) (T := TX1) (N := 2) hx hb hts hin1 tyX1 tyX1_ok nmX1 hown hK hP hD hS 9 rfl rfl 1 (by decide) (hts (.fieldLink RX1 9 "MissedPoints$Memo" "age" "I") (by decide +kernel)) (fun _ h9 => h9) rfl (by decide +kernel) rfl rfl (Nat.le_of_ble_eq_true rfl) dX1_forget_36 (fun H locs hP hD hS => ?_)
        rw [sxf_9_1] at hP hD
        generalize sU u 9 _ = u at hP hD
        refine lv_aload_n hx hb dX1_forget_39 rfl (lv_at hl 0 rfl) ?_
        refine lv_dup hx hb dX1_forget_40 rfl ?_
        refine va_get (D := D) (ci := 1) (v := .int (u 9 1)) (C := RX1) (T := TX1) (N := 2) hx hb hts hin1 hown hK hP 9 rfl rfl 1 (by decide) (hts (.fieldLink RX1 9 "MissedPoints$Memo" "age" "I") (by decide +kernel)) (fun _ h9 => h9) rfl dX1_forget_41 ?_
        refine wk_any (fun r22150 => ?_)
        refine lv_iconst (v := 1) hx hb dX1_forget_44 (by decide) ?_
        refine lv_iadd hx hb dX1_forget_45 ?_
        refine wk_topP (P := fun r => r = r22150 + (1 : Int32)) rfl (fun r22151 qr22151 => ?_)
        refine va_put (D := D) (ci := 1) (v := .int r22151) (ty := .int) (C := RX1) (T := TX1) (N := 2) hx hb hts hin1 tyX1 tyX1_ok nmX1 hown hK hP hD hS 9 rfl rfl 1 (by decide) (hts (.fieldLink RX1 9 "MissedPoints$Memo" "age" "I") (by decide +kernel)) (fun _ h9 => h9) rfl (by decide +kernel) rfl rfl (Nat.le_of_ble_eq_true rfl) dX1_forget_46 (fun H locs hP hD hS => ?_)
        rw [sxf_9_1] at hP hD
        generalize sU u 9 _ = u at hP hD
        subst hAe
        exact W.vret hx hb hr (fun t ht hW => ⟨⟨u, rfl, trivial, by rw [ht]; exact hP, hD⟩, hS.F ht⟩) hS.2.2 dX1_forget_49
      · have g22152 : Rg 0 4095 y12_l1 := rg_ltl g12_l1 (by decide : Rg 4096 4096 (4096 : Int32)) (rg_nle c22148) (by decide)
        refine lv_aload_n hx hb dX1_forget_21 rfl (lv_at hl 0 rfl) ?_
        refine va_get (D := D) (ci := 1) (v := .ref (a 10)) (C := RX1) (T := TX1) (N := 2) hx hb hts hin1 hown hK hP 9 rfl rfl 0 (by decide) (hts (.fieldLink RX1 21 "MissedPoints$Memo" "cells" "[I") (by decide +kernel)) (fun _ h9 => h9) rfl dX1_forget_22 ?_
        refine lv_iload_n hx hb dX1_forget_25 rfl (lv_at hl 1 rfl) ?_
        refine lv_iconst (v := 0) hx hb dX1_forget_26 (by decide) ?_
        refine ks_ast hx hb hK hP hD hS rfl (k := 10) rfl sx_10 (rg_in g22152 (by decide) (by decide)) dX1_forget_27 (fun u H locs hP hD hS => ?_)
        refine wk_iinc (lv' := fun r => [(1, .int r), (0, .ref (a 9))]) (e1 := 1) (f := 4096) hx hb dX1_forget_28 hl (k := 1) rfl (by decide) g22152 (by decide) (fun _ => rfl) (fun r22153 ls hr22153 er22153 hl => ?_)
        refine lv_goto (tgt := 12) hx hb dX1_forget_31 (by decide) ?_
        exact ih12 r22153 u _ _ ls (show Rg 0 4096 r22153 from rg_w hr22153 (by decide) (by decide)) hP hD hS (lv_sub (l' := [(0, .ref (a 9)), (1, .int r22153)]) hl [1, 0] rfl) (me_up hm12 er22153 (by decide))
  refine lv_aload_n hx hb dX1_forget_0 rfl (lv_at hl 0 rfl) ?_
  refine va_get (D := D) (ci := 1) (v := .int (u 9 1)) (C := RX1) (T := TX1) (N := 2) hx hb hts hin1 hown hK hP 9 rfl rfl 1 (by decide) (hts (.fieldLink RX1 9 "MissedPoints$Memo" "age" "I") (by decide +kernel)) (fun _ h9 => h9) rfl dX1_forget_1 ?_
  refine wk_any (fun r22154 => ?_)
  refine lv_sipush (v := 32767) hx hb dX1_forget_4 (by decide) ?_
  refine lv_icmp_ne (tgt := 39) hx hb dX1_forget_7 (by decide) (fun c22155 => ?_) (fun c22155 => ?_)
  · refine lv_aload_n hx hb dX1_forget_39 rfl (lv_at hl 0 rfl) ?_
    refine lv_dup hx hb dX1_forget_40 rfl ?_
    refine va_get (D := D) (ci := 1) (v := .int (u 9 1)) (C := RX1) (T := TX1) (N := 2) hx hb hts hin1 hown hK hP 9 rfl rfl 1 (by decide) (hts (.fieldLink RX1 9 "MissedPoints$Memo" "age" "I") (by decide +kernel)) (fun _ h9 => h9) rfl dX1_forget_41 ?_
    refine wk_any (fun r22156 => ?_)
    refine lv_iconst (v := 1) hx hb dX1_forget_44 (by decide) ?_
    refine lv_iadd hx hb dX1_forget_45 ?_
    refine wk_topP (P := fun r => r = r22156 + (1 : Int32)) rfl (fun r22157 qr22157 => ?_)
    refine va_put (D := D) (ci := 1) (v := .int r22157) (ty := .int) (C := RX1) (T := TX1) (N := 2) hx hb hts hin1 tyX1 tyX1_ok nmX1 hown hK hP hD hS 9 rfl rfl 1 (by decide) (hts (.fieldLink RX1 9 "MissedPoints$Memo" "age" "I") (by decide +kernel)) (fun _ h9 => h9) rfl (by decide +kernel) rfl rfl (Nat.le_of_ble_eq_true rfl) dX1_forget_46 (fun H locs hP hD hS => ?_)
    rw [sxf_9_1] at hP hD
    generalize sU u 9 _ = u at hP hD
    subst hAe
    exact W.vret hx hb hr (fun t ht hW => ⟨⟨u, rfl, trivial, by rw [ht]; exact hP, hD⟩, hS.F ht⟩) hS.2.2 dX1_forget_49
  · have g22158 : Rg 32767 32767 r22154 := wk_eql (rg_any r22154) (by decide : Rg 32767 32767 (32767 : Int32)) c22155 (by decide)
    refine lv_iconst (v := 0) hx hb dX1_forget_10 (by decide) ?_
    refine lv_istore_n (lv' := [(1, .int 0), (0, .ref (a 9))]) hx hb dX1_forget_11 rfl hl (by decide) rfl (fun ls hl => ?_)
    exact lp12 4097 (0 : Int32) u _ _ ls (by decide : Rg 0 4096 (0 : Int32)) hP hD hS (lv_sub (l' := [(0, .ref (a 9)), (1, .int 0)]) hl [1, 0] rfl) (me_i (by decide : Rg 0 4096 (0 : Int32)) (by decide))
theorem dX1_isBlank_12 : decode cX1_isBlank 12 = .ok (.iconst 0, 1) := by decide +kernel
set_option maxHeartbeats 4000000 in
set_option maxRecDepth 100000 in
theorem k_X1_isBlank_13 (l : Launch) (D : va_G) (cI cS : ClassId) (a : Nat → Nat) (na nc N : Nat) (L u : SU) (hL : TyX L) (hN : N = 0 ∨ N = 24576) : Met l yX1_isBlank wsX1_isBlank ({ frames := 0, cells := 0, slots := 0, locals := 0 }) (PS D cI cS (wX cI cS a na nc N L u) [.ref na]) (vp_Si (fun r => Rg 0 1 r ∧ True)) 0 0 (fun _ => False) := by
  refine Met.ofW (cc := cX1_isBlank) (maxL := 1) (ret := (some .boolean)) (by decide) rfl ?_
  intro p e s m args below meth c s₁ B hml hv
  obtain ⟨rfl, hP, hKK⟩ := hv
  have hx := B.exec
  have hb := B.bytes
  have hr := B.returns
  have hts := atoms_spec (ws := wsX1_isBlank) B.pre
  have hown : s.vm.findClass RX1 = some m.cls := findClass_of_methodNamed B.named
  have hlocks := B.notSynchronized
  have hK := hKK.1
  have hin1 : ∀ w ∈ wsX10, w ∈ wsX1_isBlank := by decide +kernel
  have hl := lv_entry ([.ref na]) (n := 1) (Nat.le_of_ble_eq_true rfl)
  rw [lg_entry_eq]
  generalize (lg_sl ([.ref na]) ++ List.replicate (1 - (lg_sl ([.ref na])).length) Slot.unset).toArray = ls at hl ⊢
  have hl : lv_has ls 1 [(0, .ref na)] := hl
  refine lv_aload_n hx hb dX1_isBlank_0 rfl (lv_at hl 0 rfl) ?_
  refine va_get (D := D) (ci := 1) (v := .ref nc) (C := RX1) (T := TX1) (N := 2) hx hb hts hin1 hown hK hP 13 rfl rfl 0 (by decide) (hts (.fieldLink RX1 21 "MissedPoints$Memo" "cells" "[I") (by decide +kernel)) (fun _ h9 => h9) rfl dX1_isBlank_1 ?_
  refine va_alen hx hb hK hP 14 0 rfl rfl (v := nI N) rfl dX1_isBlank_4 ?_
  refine lv_if_ne (tgt := 12) hx hb dX1_isBlank_5 (by decide) (fun c22162 => ?_) (fun c22162 => ?_)
  · have g22163 : Rg 1 24576 (nI N) := rg_ne_lo (k := 0) (wk_N hN) (by decide) c22162 (by decide)
    refine lv_iconst (v := 0) hx hb dX1_isBlank_12 (by decide) ?_
    exact W.zret (v := 0) hx hb hr (by decide) (fun t ht hW => ⟨_, rfl, ⟨(by decide : Rg 0 1 (0 : Int32)), trivial⟩, ht⟩) (fun q hq => absurd hq List.not_mem_nil) dX1_isBlank_13
  · have g22164 : Rg 0 0 (nI N) := wk_eql (wk_N hN) (by decide : Rg 0 0 (0 : Int32)) c22162 (by decide)
    refine lv_iconst (v := 1) hx hb dX1_isBlank_8 (by decide) ?_
    refine lv_goto (tgt := 13) hx hb dX1_isBlank_9 (by decide) ?_
    exact W.zret (v := 1) hx hb hr (by decide) (fun t ht hW => ⟨_, rfl, ⟨(by decide : Rg 0 1 (1 : Int32)), trivial⟩, ht⟩) (fun q hq => absurd hq List.not_mem_nil) dX1_isBlank_13
set_option maxHeartbeats 4000000 in
set_option maxRecDepth 100000 in
theorem k_X1_recall_13 (l : Launch) (D : va_G) (cI cS : ClassId) (a : Nat → Nat) (na nc N : Nat) (L u : SU) (hL : TyX L) (hN : N = 0 ∨ N = 24576) (x0 : Int32) : Met l yX1_recall wsX1_recall ({ frames := 0, cells := 0, slots := 0, locals := 0 }) (PS D cI cS (wX cI cS a na nc N L u) [.ref na, .int x0]) (vp_Si (fun r => Rg (-1) 65535 r ∧ True)) 0 0 (fun _ => False) := by
  refine Met.ofW (cc := cX1_recall) (maxL := 2) (ret := (some .int)) (by decide) rfl ?_
  intro p e s m args below meth c s₁ B hml hv
  obtain ⟨rfl, hP, hKK⟩ := hv
  have hx := B.exec
  have hb := B.bytes
  have hr := B.returns
  have hts := atoms_spec (ws := wsX1_recall) B.pre
  have hown : s.vm.findClass RX1 = some m.cls := findClass_of_methodNamed B.named
  have hlocks := B.notSynchronized
  have hK := hKK.1
  have hin1 : ∀ w ∈ wsX10, w ∈ wsX1_recall := by decide +kernel
  have hl := lv_entry ([.ref na, .int x0]) (n := 2) (Nat.le_of_ble_eq_true rfl)
  rw [lg_entry_eq]
  generalize (lg_sl ([.ref na, .int x0]) ++ List.replicate (2 - (lg_sl ([.ref na, .int x0])).length) Slot.unset).toArray = ls at hl ⊢
  have hl : lv_has ls 2 [(0, .ref na), (1, .int x0)] := hl
  refine lv_iload_n hx hb dX1_recall_0 rfl (lv_at hl 1 rfl) ?_
  refine lv_if_lt (tgt := 29) hx hb dX1_recall_1 (by decide) (fun c22177 => ?_) (fun c22177 => ?_)
  · have g22178 : Rg (-2147483648) (-1) x0 := rg_ltl (rg_any x0) (by decide : Rg 0 0 (0 : Int32)) c22177 (by decide)
    refine lv_iconst (v := (-1)) hx hb dX1_recall_29 (by decide) ?_
    exact W.iret (v := (-1)) hx hb hr (fun t ht hW => ⟨_, rfl, ⟨(by decide : Rg (-1) 65535 ((-1) : Int32)), trivial⟩, ht⟩) (fun q hq => absurd hq List.not_mem_nil) dX1_recall_30
  · have g22179 : Rg 0 2147483647 x0 := rg_ler (by decide : Rg 0 0 (0 : Int32)) (rg_any x0) (rg_nlt c22177) (by decide)
    refine lv_iload_n hx hb dX1_recall_4 rfl (lv_at hl 1 rfl) ?_
    refine lv_aload_n hx hb dX1_recall_5 rfl (lv_at hl 0 rfl) ?_
    refine va_get (D := D) (ci := 1) (v := .ref nc) (C := RX1) (T := TX1) (N := 2) hx hb hts hin1 hown hK hP 13 rfl rfl 0 (by decide) (hts (.fieldLink RX1 21 "MissedPoints$Memo" "cells" "[I") (by decide +kernel)) (fun _ h9 => h9) rfl dX1_recall_6 ?_
    refine va_alen hx hb hK hP 14 0 rfl rfl (v := nI N) rfl dX1_recall_9 ?_
    refine lv_icmp_ge (tgt := 29) hx hb dX1_recall_10 (by decide) (fun c22180 => ?_) (fun c22180 => ?_)
    · refine lv_iconst (v := (-1)) hx hb dX1_recall_29 (by decide) ?_
      exact W.iret (v := (-1)) hx hb hr (fun t ht hW => ⟨_, rfl, ⟨(by decide : Rg (-1) 65535 ((-1) : Int32)), trivial⟩, ht⟩) (fun q hq => absurd hq List.not_mem_nil) dX1_recall_30
    · have g22181 : Rg 1 24576 (nI N) := rg_ltr g22179 (wk_N hN) (rg_nle c22180) (by decide)
      have g22182 : Rg 0 24575 x0 := rg_ltl g22179 (wk_N hN) (rg_nle c22180) (by decide)
      refine lv_aload_n hx hb dX1_recall_13 rfl (lv_at hl 0 rfl) ?_
      refine va_get (D := D) (ci := 1) (v := .ref nc) (C := RX1) (T := TX1) (N := 2) hx hb hts hin1 hown hK hP 13 rfl rfl 0 (by decide) (hts (.fieldLink RX1 21 "MissedPoints$Memo" "cells" "[I") (by decide +kernel)) (fun _ h9 => h9) rfl dX1_recall_14 ?_
      refine lv_iload_n hx hb dX1_recall_17 rfl (lv_at hl 1 rfl) ?_
      refine wk_aldA hx hb hK hP 14 0 rfl rfl (wk_inN hN g22182.1 (rg_nle c22180)) dX1_recall_18 (fun r22183 => ?_)
      refine lv_bipush (v := 16) hx hb dX1_recall_19 (by decide) ?_
      refine lv_iushr hx hb dX1_recall_21 rfl ?_
      refine wk_any (fun r22184 => ?_)
      refine lv_aload_n hx hb dX1_recall_22 rfl (lv_at hl 0 rfl) ?_
      refine va_get (D := D) (ci := 1) (v := .int (u 13 1)) (C := RX1) (T := TX1) (N := 2) hx hb hts hin1 hown hK hP 13 rfl rfl 1 (by decide) (hts (.fieldLink RX1 9 "MissedPoints$Memo" "age" "I") (by decide +kernel)) (fun _ h9 => h9) rfl dX1_recall_23 ?_
      refine wk_any (fun r22185 => ?_)
      refine lv_icmp_eq (tgt := 31) hx hb dX1_recall_26 (by decide) (fun c22186 => ?_) (fun c22186 => ?_)
      · refine lv_aload_n hx hb dX1_recall_31 rfl (lv_at hl 0 rfl) ?_
        refine va_get (D := D) (ci := 1) (v := .ref nc) (C := RX1) (T := TX1) (N := 2) hx hb hts hin1 hown hK hP 13 rfl rfl 0 (by decide) (hts (.fieldLink RX1 21 "MissedPoints$Memo" "cells" "[I") (by decide +kernel)) (fun _ h9 => h9) rfl dX1_recall_32 ?_
        refine lv_iload_n hx hb dX1_recall_35 rfl (lv_at hl 1 rfl) ?_
        refine wk_aldA hx hb hK hP 14 0 rfl rfl (wk_inN hN g22182.1 (rg_nle c22180)) dX1_recall_36 (fun r22187 => ?_)
        refine lv_ldc hx hb hown (hts (.constant RX1 25 (65535)) (by decide +kernel)) dX1_recall_37 ?_
        refine wk_iandr hx hb dX1_recall_39 (by decide : Rg 65535 65535 (65535 : Int32)) (by decide) (fun r22188 hr22188 qr22188 => ?_)
        exact W.iret (v := r22188) hx hb hr (fun t ht hW => ⟨_, rfl, ⟨(show Rg (-1) 65535 r22188 from rg_w hr22188 (by decide) (by decide)), trivial⟩, ht⟩) (fun q hq => absurd hq List.not_mem_nil) dX1_recall_40
      · refine lv_iconst (v := (-1)) hx hb dX1_recall_29 (by decide) ?_
        exact W.iret (v := (-1)) hx hb hr (fun t ht hW => ⟨_, rfl, ⟨(by decide : Rg (-1) 65535 ((-1) : Int32)), trivial⟩, ht⟩) (fun q hq => absurd hq List.not_mem_nil) dX1_recall_30
set_option maxHeartbeats 4000000 in
set_option maxRecDepth 100000 in
theorem k_X1_keep_13 (l : Launch) (D : va_G) (cI cS : ClassId) (sz : Nat) (a : Nat → Nat) (na nc N : Nat) (L u0 : SU) (hL : TyX L) (hN : N = 0 ∨ N = 24576) (x0 x1 : Int32) : Met l yX1_keep wsX1_keep ({ frames := 0, cells := 0, slots := 0, locals := 0 }) (PQ D cI cS (wX cI cS a na nc N L u0) sz [.ref na, .int x0, .int x1]) (QE (S := SU) D (wX cI cS a na nc N L u0) (wX cI cS a na nc N L) sz (fun _ => True)) 0 0 (va_A (wX cI cS a na nc N L u0) sz) := by
  refine Met.ofW (cc := cX1_keep) (maxL := 3) (ret := none) (by decide) rfl ?_
  intro p e s m args below meth c s₁ B hml hv
  obtain ⟨rfl, hsz, hP, hKK, hD0⟩ := hv
  have hx := B.exec
  have hb := B.bytes
  have hr := B.returns
  have hts := atoms_spec (ws := wsX1_keep) B.pre
  have hown : s.vm.findClass RX1 = some m.cls := findClass_of_methodNamed B.named
  have hlocks := B.notSynchronized
  have hK := hKK.1
  have hin1 : ∀ w ∈ wsX10, w ∈ wsX1_keep := by decide +kernel
  subst hsz
  have hD := hD0.self (sz := s.heap.size)
  obtain ⟨A, hAe⟩ : ∃ A, A = va_A (wX cI cS a na nc N L u0) s.heap.size := ⟨_, rfl⟩
  rw [← hAe] at hD
  have hA : ∀ q : Nat, s.heap.size ≤ q → A q := fun q h => by rw [hAe]; exact Or.inr h
  have hS : va_S A s.heap s.heap [] := va_S.rf
  have hl := lv_entry ([.ref na, .int x0, .int x1]) (n := 3) (Nat.le_of_ble_eq_true rfl)
  rw [lg_entry_eq]
  generalize (lg_sl ([.ref na, .int x0, .int x1]) ++ List.replicate (3 - (lg_sl ([.ref na, .int x0, .int x1])).length) Slot.unset).toArray = ls at hl ⊢
  have hl : lv_has ls 3 [(0, .ref na), (1, .int x0), (2, .int x1)] := hl
  obtain ⟨u, hu9⟩ : ∃ u : SU, u = u0 := ⟨_, rfl⟩
  rw [← hu9] at hP hD
  refine lv_iload_n hx hb dX1_keep_0 rfl (lv_at hl 1 rfl) ?_
  refine lv_if_lt (tgt := 31) hx hb dX1_keep_1 (by decide) (fun c22199 => ?_) (fun c22199 => ?_)
  · have g22200 : Rg (-2147483648) (-1) x0 := rg_ltl (rg_any x0) (by decide : Rg 0 0 (0 : Int32)) c22199 (by decide)
    subst hAe
    exact W.vret hx hb hr (fun t ht hW => ⟨⟨u, rfl, trivial, by rw [ht]; exact hP, hD⟩, hS.F ht⟩) hS.2.2 dX1_keep_31
  · have g22201 : Rg 0 2147483647 x0 := rg_ler (by decide : Rg 0 0 (0 : Int32)) (rg_any x0) (rg_nlt c22199) (by decide)
    refine lv_iload_n hx hb dX1_keep_4 rfl (lv_at hl 1 rfl) ?_
    refine lv_aload_n hx hb dX1_keep_5 rfl (lv_at hl 0 rfl) ?_
    refine va_get (D := D) (ci := 1) (v := .ref nc) (C := RX1) (T := TX1) (N := 2) hx hb hts hin1 hown hK hP 13 rfl rfl 0 (by decide) (hts (.fieldLink RX1 21 "MissedPoints$Memo" "cells" "[I") (by decide +kernel)) (fun _ h9 => h9) rfl dX1_keep_6 ?_
    refine va_alen hx hb hK hP 14 0 rfl rfl (v := nI N) rfl dX1_keep_9 ?_
    refine lv_icmp_ge (tgt := 31) hx hb dX1_keep_10 (by decide) (fun c22202 => ?_) (fun c22202 => ?_)
    · subst hAe
      exact W.vret hx hb hr (fun t ht hW => ⟨⟨u, rfl, trivial, by rw [ht]; exact hP, hD⟩, hS.F ht⟩) hS.2.2 dX1_keep_31
    · have g22203 : Rg 1 24576 (nI N) := rg_ltr g22201 (wk_N hN) (rg_nle c22202) (by decide)
      have g22204 : Rg 0 24575 x0 := rg_ltl g22201 (wk_N hN) (rg_nle c22202) (by decide)
      refine lv_aload_n hx hb dX1_keep_13 rfl (lv_at hl 0 rfl) ?_
      refine va_get (D := D) (ci := 1) (v := .ref nc) (C := RX1) (T := TX1) (N := 2) hx hb hts hin1 hown hK hP 13 rfl rfl 0 (by decide) (hts (.fieldLink RX1 21 "MissedPoints$Memo" "cells" "[I") (by decide +kernel)) (fun _ h9 => h9) rfl dX1_keep_14 ?_
      refine lv_iload_n hx hb dX1_keep_17 rfl (lv_at hl 1 rfl) ?_
      refine lv_aload_n hx hb dX1_keep_18 rfl (lv_at hl 0 rfl) ?_
      refine va_get (D := D) (ci := 1) (v := .int (u 13 1)) (C := RX1) (T := TX1) (N := 2) hx hb hts hin1 hown hK hP 13 rfl rfl 1 (by decide) (hts (.fieldLink RX1 9 "MissedPoints$Memo" "age" "I") (by decide +kernel)) (fun _ h9 => h9) rfl dX1_keep_19 ?_
      refine wk_any (fun r22205 => ?_)
      refine lv_bipush (v := 16) hx hb dX1_keep_22 (by decide) ?_
      refine lv_ishl hx hb dX1_keep_24 ?_
      refine wk_topP (P := fun r => r = r22205 <<< ((16 : Int32) &&& 31)) rfl (fun r22206 qr22206 => ?_)
      refine lv_iload_n hx hb dX1_keep_25 rfl (lv_at hl 2 rfl) ?_
      refine lv_ldc hx hb hown (hts (.constant RX1 25 (65535)) (by decide +kernel)) dX1_keep_26 ?_
      refine wk_iandr hx hb dX1_keep_28 (by decide : Rg 65535 65535 (65535 : Int32)) (by decide) (fun r22207 hr22207 qr22207 => ?_)
      refine lv_ior hx hb dX1_keep_29 ?_
      refine wk_topP (P := fun r => r = r22206 ||| r22207) rfl (fun r22208 qr22208 => ?_)
      refine ks_ast hx hb hK hP hD hS rfl (k := 14) rfl sx_14 (wk_inN hN g22204.1 (rg_nle c22202)) dX1_keep_30 (fun u H locs hP hD hS => ?_)
      subst hAe
      exact W.vret hx hb hr (fun t ht hW => ⟨⟨u, rfl, trivial, by rw [ht]; exact hP, hD⟩, hS.F ht⟩) hS.2.2 dX1_keep_31
set_option maxHeartbeats 4000000 in
set_option maxRecDepth 100000 in
theorem k_X1_forget_13 (l : Launch) (D : va_G) (cI cS : ClassId) (sz : Nat) (a : Nat → Nat) (na nc N : Nat) (L u0 : SU) (hL : TyX L) (hN : N = 0 ∨ N = 24576) : Met l yX1_forget wsX1_forget ({ frames := 0, cells := 0, slots := 0, locals := 0 }) (PQ D cI cS (wX cI cS a na nc N L u0) sz [.ref na]) (QE (S := SU) D (wX cI cS a na nc N L u0) (wX cI cS a na nc N L) sz (fun _ => True)) 0 0 (va_A (wX cI cS a na nc N L u0) sz) := by
  refine Met.ofW (cc := cX1_forget) (maxL := 2) (ret := none) (by decide) rfl ?_
  intro p e s m args below meth c s₁ B hml hv
  obtain ⟨rfl, hsz, hP, hKK, hD0⟩ := hv
  have hx := B.exec
  have hb := B.bytes
  have hr := B.returns
  have hts := atoms_spec (ws := wsX1_forget) B.pre
  have hown : s.vm.findClass RX1 = some m.cls := findClass_of_methodNamed B.named
  have hlocks := B.notSynchronized
  have hK := hKK.1
  have hin1 : ∀ w ∈ wsX10, w ∈ wsX1_forget := by decide +kernel
  subst hsz
  have hD := hD0.self (sz := s.heap.size)
  obtain ⟨A, hAe⟩ : ∃ A, A = va_A (wX cI cS a na nc N L u0) s.heap.size := ⟨_, rfl⟩
  rw [← hAe] at hD
  have hA : ∀ q : Nat, s.heap.size ≤ q → A q := fun q h => by rw [hAe]; exact Or.inr h
  have hS : va_S A s.heap s.heap [] := va_S.rf
  have hl := lv_entry ([.ref na]) (n := 2) (Nat.le_of_ble_eq_true rfl)
  rw [lg_entry_eq]
  generalize (lg_sl ([.ref na]) ++ List.replicate (2 - (lg_sl ([.ref na])).length) Slot.unset).toArray = ls at hl ⊢
  have hl : lv_has ls 2 [(0, .ref na)] := hl
  obtain ⟨u, hu9⟩ : ∃ u : SU, u = u0 := ⟨_, rfl⟩
  rw [← hu9] at hP hD
  have lp12 : ∀ (n12 : Nat) (y12_l1 : Int32) (u : SU) (H : Heap) (locs : List Loc) (ls : Array Slot), Rg 0 28671 y12_l1 → va_P D cls (wX cI cS a na nc N L u) H → va_D A (wX cI cS a na nc N L u) → va_S A s.heap H locs → lv_has ls 2 [(0, .ref na), (1, .int y12_l1)] → 28671 - y12_l1.toInt < (n12 : Int) → W p l e (headSpec wsX1_forget ({ frames := 0, cells := 0, slots := 0, locals := 0 })).room s m ([.ref na]).toArray below meth c H locs 0 0 (MQ below (QE (S := SU) D (wX cI cS a na nc N L u0) (wX cI cS a na nc N L) s.heap.size (fun _ => True)) ([.ref na]).toArray s 0 0 (va_A (wX cI cS a na nc N L u0) s.heap.size)) (F0 m 12 ls []) := by
    intro n12
    induction n12 with
    | zero =>
      intro y12_l1 u H locs ls g12_l1 hP hD hS hl hm12
      exact absurd rfl (me_z g12_l1 hm12)
    | succ n12 ih12 =>
      intro y12_l1 u H locs ls g12_l1 hP hD hS hl hm12
      refine lv_iload_n hx hb dX1_forget_12 rfl (lv_at hl 1 rfl) ?_
      refine lv_aload_n hx hb dX1_forget_13 rfl (lv_at hl 0 rfl) ?_
      refine va_get (D := D) (ci := 1) (v := .ref nc) (C := RX1) (T := TX1) (N := 2) hx hb hts hin1 hown hK hP 13 rfl rfl 0 (by decide) (hts (.fieldLink RX1 21 "MissedPoints$Memo" "cells" "[I") (by decide +kernel)) (fun _ h9 => h9) rfl dX1_forget_14 ?_
      refine va_alen hx hb hK hP 14 0 rfl rfl (v := nI N) rfl dX1_forget_17 ?_
      refine lv_icmp_ge (tgt := 34) hx hb dX1_forget_18 (by decide) (fun c22462 => ?_) (fun c22462 => ?_)
      · refine lv_aload_n hx hb dX1_forget_34 rfl (lv_at hl 0 rfl) ?_
        refine lv_iconst (v := 0) hx hb dX1_forget_35 (by decide) ?_
        refine va_put (D := D) (ci := 1) (v := .int 0) (ty := .int) (C := RX1) (T := TX1) (N := 2) hx hb hts hin1 tyX1 tyX1_ok nmX1 hown hK hP hD hS 13 rfl rfl 1 (by decide) (hts (.fieldLink RX1 9 "MissedPoints$Memo" "age" "I") (by decide +kernel)) (fun _ h9 => h9) rfl (by decide +kernel) rfl rfl (Nat.le_of_ble_eq_true rfl) dX1_forget_36 (fun H locs hP hD hS => ?_)
        rw [sxf_13_1] at hP hD
        generalize sU u 13 _ = u at hP hD
        refine lv_aload_n hx hb dX1_forget_39 rfl (lv_at hl 0 rfl) ?_
        refine lv_dup hx hb dX1_forget_40 rfl ?_
        refine va_get (D := D) (ci := 1) (v := .int (u 13 1)) (C := RX1) (T := TX1) (N := 2) hx hb hts hin1 hown hK hP 13 rfl rfl 1 (by decide) (hts (.fieldLink RX1 9 "MissedPoints$Memo" "age" "I") (by decide +kernel)) (fun _ h9 => h9) rfl dX1_forget_41 ?_
        refine wk_any (fun r22463 => ?_)
        refine lv_iconst (v := 1) hx hb dX1_forget_44 (by decide) ?_
        refine lv_iadd hx hb dX1_forget_45 ?_
        refine wk_topP (P := fun r => r = r22463 + (1 : Int32)) rfl (fun r22464 qr22464 => ?_)
        refine va_put (D := D) (ci := 1) (v := .int r22464) (ty := .int) (C := RX1) (T := TX1) (N := 2) hx hb hts hin1 tyX1 tyX1_ok nmX1 hown hK hP hD hS 13 rfl rfl 1 (by decide) (hts (.fieldLink RX1 9 "MissedPoints$Memo" "age" "I") (by decide +kernel)) (fun _ h9 => h9) rfl (by decide +kernel) rfl rfl (Nat.le_of_ble_eq_true rfl) dX1_forget_46 (fun H locs hP hD hS => ?_)
        rw [sxf_13_1] at hP hD
        generalize sU u 13 _ = u at hP hD
        subst hAe
        exact W.vret hx hb hr (fun t ht hW => ⟨⟨u, rfl, trivial, by rw [ht]; exact hP, hD⟩, hS.F ht⟩) hS.2.2 dX1_forget_49
      · have g22465 : Rg 1 24576 (nI N) := rg_ltr g12_l1 (wk_N hN) (rg_nle c22462) (by decide)
        have g22466 : Rg 0 24575 y12_l1 := rg_ltl g12_l1 (wk_N hN) (rg_nle c22462) (by decide)
        refine lv_aload_n hx hb dX1_forget_21 rfl (lv_at hl 0 rfl) ?_
        refine va_get (D := D) (ci := 1) (v := .ref nc) (C := RX1) (T := TX1) (N := 2) hx hb hts hin1 hown hK hP 13 rfl rfl 0 (by decide) (hts (.fieldLink RX1 21 "MissedPoints$Memo" "cells" "[I") (by decide +kernel)) (fun _ h9 => h9) rfl dX1_forget_22 ?_
        refine lv_iload_n hx hb dX1_forget_25 rfl (lv_at hl 1 rfl) ?_
        refine lv_iconst (v := 0) hx hb dX1_forget_26 (by decide) ?_
        refine ks_ast hx hb hK hP hD hS rfl (k := 14) rfl sx_14 (wk_inN hN g22466.1 (rg_nle c22462)) dX1_forget_27 (fun u H locs hP hD hS => ?_)
        refine wk_iinc (lv' := fun r => [(1, .int r), (0, .ref na)]) (e1 := 1) (f := 24576) hx hb dX1_forget_28 hl (k := 1) rfl (by decide) g22466 (by decide) (fun _ => rfl) (fun r22467 ls hr22467 er22467 hl => ?_)
        refine lv_goto (tgt := 12) hx hb dX1_forget_31 (by decide) ?_
        exact ih12 r22467 u _ _ ls (show Rg 0 28671 r22467 from rg_w hr22467 (by decide) (by decide)) hP hD hS (lv_sub (l' := [(0, .ref na), (1, .int r22467)]) hl [1, 0] rfl) (me_up hm12 er22467 (by decide))
  refine lv_aload_n hx hb dX1_forget_0 rfl (lv_at hl 0 rfl) ?_
  refine va_get (D := D) (ci := 1) (v := .int (u 13 1)) (C := RX1) (T := TX1) (N := 2) hx hb hts hin1 hown hK hP 13 rfl rfl 1 (by decide) (hts (.fieldLink RX1 9 "MissedPoints$Memo" "age" "I") (by decide +kernel)) (fun _ h9 => h9) rfl dX1_forget_1 ?_
  refine wk_any (fun r22468 => ?_)
  refine lv_sipush (v := 32767) hx hb dX1_forget_4 (by decide) ?_
  refine lv_icmp_ne (tgt := 39) hx hb dX1_forget_7 (by decide) (fun c22469 => ?_) (fun c22469 => ?_)
  · refine lv_aload_n hx hb dX1_forget_39 rfl (lv_at hl 0 rfl) ?_
    refine lv_dup hx hb dX1_forget_40 rfl ?_
    refine va_get (D := D) (ci := 1) (v := .int (u 13 1)) (C := RX1) (T := TX1) (N := 2) hx hb hts hin1 hown hK hP 13 rfl rfl 1 (by decide) (hts (.fieldLink RX1 9 "MissedPoints$Memo" "age" "I") (by decide +kernel)) (fun _ h9 => h9) rfl dX1_forget_41 ?_
    refine wk_any (fun r22470 => ?_)
    refine lv_iconst (v := 1) hx hb dX1_forget_44 (by decide) ?_
    refine lv_iadd hx hb dX1_forget_45 ?_
    refine wk_topP (P := fun r => r = r22470 + (1 : Int32)) rfl (fun r22471 qr22471 => ?_)
    refine va_put (D := D) (ci := 1) (v := .int r22471) (ty := .int) (C := RX1) (T := TX1) (N := 2) hx hb hts hin1 tyX1 tyX1_ok nmX1 hown hK hP hD hS 13 rfl rfl 1 (by decide) (hts (.fieldLink RX1 9 "MissedPoints$Memo" "age" "I") (by decide +kernel)) (fun _ h9 => h9) rfl (by decide +kernel) rfl rfl (Nat.le_of_ble_eq_true rfl) dX1_forget_46 (fun H locs hP hD hS => ?_)
    rw [sxf_13_1] at hP hD
    generalize sU u 13 _ = u at hP hD
    subst hAe
    exact W.vret hx hb hr (fun t ht hW => ⟨⟨u, rfl, trivial, by rw [ht]; exact hP, hD⟩, hS.F ht⟩) hS.2.2 dX1_forget_49
  · have g22472 : Rg 32767 32767 r22468 := wk_eql (rg_any r22468) (by decide : Rg 32767 32767 (32767 : Int32)) c22469 (by decide)
    refine lv_iconst (v := 0) hx hb dX1_forget_10 (by decide) ?_
    refine lv_istore_n (lv' := [(1, .int 0), (0, .ref na)]) hx hb dX1_forget_11 rfl hl (by decide) rfl (fun ls hl => ?_)
    exact lp12 28672 (0 : Int32) u _ _ ls (by decide : Rg 0 28671 (0 : Int32)) hP hD hS (lv_sub (l' := [(0, .ref na), (1, .int 0)]) hl [1, 0] rfl) (me_i (by decide : Rg 0 28671 (0 : Int32)) (by decide))
set_option maxHeartbeats 4000000 in
set_option maxRecDepth 100000 in
theorem k_X3_notice (l : Launch) (D : va_G) (cI cS : ClassId) (sz : Nat) (a : Nat → Nat) (na nc N : Nat) (L u0 : SU) (hL : TyX L) (hN : N = 0 ∨ N = 24576) : Met l yX3_notice wsX3_notice ({ frames := 1, cells := 0, slots := 0, locals := 40 }) (PQ D cI cS (wX cI cS a na nc N L u0) sz [.ref (a 7)]) (QE (S := SU) D (wX cI cS a na nc N L u0) (wX cI cS a na nc N L) sz (fun _ => True)) 0 0 (va_A (wX cI cS a na nc N L u0) sz) := by
  refine Met.ofW (cc := cX3_notice) (maxL := 1) (ret := none) (by decide) rfl ?_
  intro p e s m args below meth c s₁ B hml hv
  obtain ⟨rfl, hsz, hP, hKK, hD0⟩ := hv
  have hx := B.exec
  have hb := B.bytes
  have hr := B.returns
  have hts := atoms_spec (ws := wsX3_notice) B.pre
  have hown : s.vm.findClass RX3 = some m.cls := findClass_of_methodNamed B.named
  have hlocks := B.notSynchronized
  have hK := hKK.1
  have hin2 : ∀ w ∈ wsX20, w ∈ wsX3_notice := by decide +kernel
  have hin3 : ∀ w ∈ wsX30, w ∈ wsX3_notice := by decide +kernel
  subst hsz
  have hD := hD0.self (sz := s.heap.size)
  obtain ⟨A, hAe⟩ : ∃ A, A = va_A (wX cI cS a na nc N L u0) s.heap.size := ⟨_, rfl⟩
  rw [← hAe] at hD
  have hA : ∀ q : Nat, s.heap.size ≤ q → A q := fun q h => by rw [hAe]; exact Or.inr h
  have hS : va_S A s.heap s.heap [] := va_S.rf
  have hl := lv_entry ([.ref (a 7)]) (n := 1) (Nat.le_of_ble_eq_true rfl)
  rw [lg_entry_eq]
  generalize (lg_sl ([.ref (a 7)]) ++ List.replicate (1 - (lg_sl ([.ref (a 7)])).length) Slot.unset).toArray = ls at hl ⊢
  have hl : lv_has ls 1 [(0, .ref (a 7))] := hl
  obtain ⟨u, hu9⟩ : ∃ u : SU, u = u0 := ⟨_, rfl⟩
  rw [← hu9] at hP hD
  refine lv_aload_n hx hb dX3_notice_0 rfl (lv_at hl 0 rfl) ?_
  refine va_get (D := D) (ci := 3) (v := .int (u 7 3)) (C := RX3) (T := TX3) (N := 4) hx hb hts hin3 hown hK hP 7 rfl rfl 3 (by decide) (hts (.fieldLink RX3 27 "MissedPoints$Pairs" "changesSeen" "I") (by decide +kernel)) (fun _ h9 => h9) rfl dX3_notice_1 ?_
  refine wk_any (fun r22479 => ?_)
  refine lv_aload_n hx hb dX3_notice_4 rfl (lv_at hl 0 rfl) ?_
  refine va_get (D := D) (ci := 3) (v := .ref (a 1)) (C := RX3) (T := TX3) (N := 4) hx hb hts hin3 hown hK hP 7 rfl rfl 0 (by decide) (hts (.fieldLink RX3 23 "MissedPoints$Pairs" "net" "LMissedPoints$Net;") (by decide +kernel)) (fun _ h9 => h9) rfl dX3_notice_5 ?_
  refine va_getN (D := D) (ci := 2) (v := .int (u 1 2)) (C := RX2) (T := TX2) (N := 3) hx hb hts hin2 hown hK hP 1 rfl rfl 2 (by decide) (va_Nw.use rfl hKK.2.2.2.2.2.2.2.2.2.2.2.1) (fun _ h9 => h9) rfl dX3_notice_8 ?_
  refine wk_any (fun r22480 => ?_)
  refine lv_icmp_eq (tgt := 39) hx hb dX3_notice_11 (by decide) (fun c22481 => ?_) (fun c22481 => ?_)
  · subst hAe
    exact W.vret hx hb hr (fun t ht hW => ⟨⟨u, rfl, trivial, by rw [ht]; exact hP, hD⟩, hS.F ht⟩) hS.2.2 dX3_notice_39
  · refine lv_aload_n hx hb dX3_notice_14 rfl (lv_at hl 0 rfl) ?_
    refine lv_aload_n hx hb dX3_notice_15 rfl (lv_at hl 0 rfl) ?_
    refine va_get (D := D) (ci := 3) (v := .ref (a 1)) (C := RX3) (T := TX3) (N := 4) hx hb hts hin3 hown hK hP 7 rfl rfl 0 (by decide) (hts (.fieldLink RX3 23 "MissedPoints$Pairs" "net" "LMissedPoints$Net;") (by decide +kernel)) (fun _ h9 => h9) rfl dX3_notice_16 ?_
    refine va_getN (D := D) (ci := 2) (v := .int (u 1 2)) (C := RX2) (T := TX2) (N := 3) hx hb hts hin2 hown hK hP 1 rfl rfl 2 (by decide) (va_Nw.use rfl hKK.2.2.2.2.2.2.2.2.2.2.2.1) (fun _ h9 => h9) rfl dX3_notice_19 ?_
    refine wk_any (fun r22482 => ?_)
    refine va_put (D := D) (ci := 3) (v := .int r22482) (ty := .int) (C := RX3) (T := TX3) (N := 4) hx hb hts hin3 tyX3 tyX3_ok nmX3 hown hK hP hD hS 7 rfl rfl 3 (by decide) (hts (.fieldLink RX3 27 "MissedPoints$Pairs" "changesSeen" "I") (by decide +kernel)) (fun _ h9 => h9) rfl (by decide +kernel) rfl rfl (Nat.le_of_ble_eq_true rfl) dX3_notice_22 (fun H locs hP hD hS => ?_)
    rw [sxf_7_3] at hP hD
    generalize sU u 7 _ = u at hP hD
    refine lv_aload_n hx hb dX3_notice_25 rfl (lv_at hl 0 rfl) ?_
    refine va_get (D := D) (ci := 3) (v := .ref (a 9)) (C := RX3) (T := TX3) (N := 4) hx hb hts hin3 hown hK hP 7 rfl rfl 1 (by decide) (hts (.fieldLink RX3 14 "MissedPoints$Pairs" "mosts" "LMissedPoints$Memo;") (by decide +kernel)) (fun _ h9 => h9) rfl dX3_notice_26 ?_
    refine wk_qv (wX cI cS a na nc N L) u (As := []) (rest := []) ⟨hx, hb, hml, hown, hts⟩ (k_X1_forget l D cI cS _ a na nc N L u hL hN) hKK hP hD hS hA 9 (ci := 1) rfl rfl (cwV 0 hts gX3_notice_X1_forget rfl rfl rfl (by decide +kernel) ⟨Nat.le_of_ble_eq_true rfl, Nat.le_of_ble_eq_true rfl⟩) rfl hl.1 rfl (Nat.le_of_ble_eq_true rfl) dX3_notice_29 ⟨Nat.le_of_ble_eq_true rfl, Nat.le_of_ble_eq_true rfl⟩ (fun u H locs hr22483 hP hD hS => ?_)
    refine lv_aload_n hx hb dX3_notice_32 rfl (lv_at hl 0 rfl) ?_
    refine va_get (D := D) (ci := 3) (v := .ref na) (C := RX3) (T := TX3) (N := 4) hx hb hts hin3 hown hK hP 7 rfl rfl 2 (by decide) (hts (.fieldLink RX3 20 "MissedPoints$Pairs" "numbers" "LMissedPoints$Memo;") (by decide +kernel)) (fun _ h9 => h9) rfl dX3_notice_33 ?_
    refine wk_qv (wX cI cS a na nc N L) u (As := []) (rest := []) ⟨hx, hb, hml, hown, hts⟩ (k_X1_forget_13 l D cI cS _ a na nc N L u hL hN) hKK hP hD hS hA 13 (ci := 1) rfl rfl (cwV 0 hts gX3_notice_X1_forget rfl rfl rfl (by decide +kernel) ⟨Nat.le_of_ble_eq_true rfl, Nat.le_of_ble_eq_true rfl⟩) rfl hl.1 rfl (Nat.le_of_ble_eq_true rfl) dX3_notice_36 ⟨Nat.le_of_ble_eq_true rfl, Nat.le_of_ble_eq_true rfl⟩ (fun u H locs hr22484 hP hD hS => ?_)
    subst hAe
    exact W.vret hx hb hr (fun t ht hW => ⟨⟨u, rfl, trivial, by rw [ht]; exact hP, hD⟩, hS.F ht⟩) hS.2.2 dX3_notice_39
set_option maxHeartbeats 8000000 in
set_option maxRecDepth 100000 in
theorem k_X3_bestOf_r (l : Launch) (D : va_G) (cI cS : ClassId) (a : Nat → Nat) (na nc N : Nat) (L : SU) (hL : TyX L) (hN : N = 0 ∨ N = 24576) : ∀ (n sz : Nat) (u0 : SU) (x0 x1 : Int32), Rg 0 13 x1 → 13 - x1.toInt ≤ (n : Int) → Met l yX3_bestOf wsX3_bestOf ({ frames := n + 1, cells := 0, slots := 0, locals := 40 * (n + 1) }) (PQ D cI cS (wX cI cS a na nc N L u0) sz [.ref (a 7), .int x0, .int x1]) (QF (S := SU) D (wX cI cS a na nc N L u0) (wX cI cS a na nc N L) sz (fun r _ => Rg 0 65549 r ∧ r.toInt ≤ 65549 - x1.toInt)) 0 0 (va_A (wX cI cS a na nc N L u0) sz) := by
  intro n
  induction n with
  | zero =>
    intro sz u0 x0 x1 px1 hrk
    have px1 : Rg 13 13 x1 := ⟨by omega, px1.2⟩
    refine Met.ofW (cc := cX3_bestOf) (maxL := 11) (ret := (some .int)) (by decide) rfl ?_
    intro p e s m args below meth c s₁ B hml hv
    obtain ⟨rfl, hsz, hP, hKK, hD0⟩ := hv
    have hx := B.exec
    have hb := B.bytes
    have hr := B.returns
    have hts := atoms_spec (ws := wsX3_bestOf) B.pre
    have hown : s.vm.findClass RX3 = some m.cls := findClass_of_methodNamed B.named
    have hlocks := B.notSynchronized
    have hK := hKK.1
    subst hsz
    have hD := hD0.self (sz := s.heap.size)
    obtain ⟨A, hAe⟩ : ∃ A, A = va_A (wX cI cS a na nc N L u0) s.heap.size := ⟨_, rfl⟩
    rw [← hAe] at hD
    have hA : ∀ q : Nat, s.heap.size ≤ q → A q := fun q h => by rw [hAe]; exact Or.inr h
    have hS : va_S A s.heap s.heap [] := va_S.rf
    have hl := lv_entry ([.ref (a 7), .int x0, .int x1]) (n := 11) (Nat.le_of_ble_eq_true rfl)
    rw [lg_entry_eq]
    generalize (lg_sl ([.ref (a 7), .int x0, .int x1]) ++ List.replicate (11 - (lg_sl ([.ref (a 7), .int x0, .int x1])).length) Slot.unset).toArray = ls at hl ⊢
    have hl : lv_has ls 11 [(0, .ref (a 7)), (1, .int x0), (2, .int x1)] := hl
    obtain ⟨u, hu9⟩ : ∃ u : SU, u = u0 := ⟨_, rfl⟩
    rw [← hu9] at hP hD
    refine lv_bipush (v := 31) hx hb dX3_bestOf_0 (by decide) ?_
    refine lv_iload_n hx hb dX3_bestOf_2 rfl (lv_at hl 1 rfl) ?_
    refine lz_ss (As := [.int x0]) (rest := [.int 31]) ⟨hx, hb, hml, hown, hts⟩ (k_J6_numberOfLeadingZeros_0f7a4 l D cI cS x0) hKK (hP.sub (ws' := []) [] rfl) (va_cwS 1 hts gX3_bestOf_J6_numberOfLeadingZeros_0f7a4 rfl rfl rfl (by decide +kernel) ⟨by show 0 + 1 ≤ 0 + 1; omega, by show 8 + (2 + 11) + 0 ≤ 40 * (0 + 1); omega⟩) rfl hl.1 rfl (Nat.le_of_ble_eq_true rfl) dX3_bestOf_3 ⟨Nat.le_of_ble_eq_true rfl, Nat.le_of_ble_eq_true rfl⟩ (fun r22494 hr22494 => ?_)
    refine wk_isub (e1 := (-1)) (f := 31) hx hb dX3_bestOf_6 (by decide : Rg 31 31 (31 : Int32)) hr22494.1 (by decide) (fun r22495 hr22495 er22495 qr22495 => ?_)
    refine lv_istore_n (lv' := [(3, .int r22495), (0, .ref (a 7)), (1, .int x0), (2, .int x1)]) hx hb dX3_bestOf_7 rfl hl (by decide) rfl (fun ls hl => ?_)
    refine lv_iload_n hx hb dX3_bestOf_8 rfl (lv_at hl 0 rfl) ?_
    refine lv_iconst (v := 1) hx hb dX3_bestOf_9 (by decide) ?_
    refine lv_icmp_lt (tgt := 25) hx hb dX3_bestOf_10 (by decide) (fun c22496 => ?_) (fun c22496 => ?_)
    · have g22497 : Rg (-1) 0 r22495 := rg_ltl hr22495 (by decide : Rg 1 1 (1 : Int32)) c22496 (by decide)
      refine lv_iconst (v := 0) hx hb dX3_bestOf_25 (by decide) ?_
      subst hAe
      exact W.iret (v := 0) hx hb hr (fun t ht hW => ⟨⟨_, u, rfl, ⟨(by decide : Rg 0 65549 (0 : Int32)), (by have z1 := px1; have z2 : (0 : Int32).toInt = 0 := (by decide); omega)⟩, by rw [ht]; exact hP, hD⟩, hS.F ht⟩) hS.2.2 dX3_bestOf_26
    · have g22498 : Rg 1 31 r22495 := rg_ler (by decide : Rg 1 1 (1 : Int32)) hr22495 (rg_nlt c22496) (by decide)
      refine lv_iload_n hx hb dX3_bestOf_13 rfl (lv_at hl 0 rfl) ?_
      refine lv_bipush (v := 12) hx hb dX3_bestOf_14 (by decide) ?_
      refine lv_icmp_ge (tgt := 25) hx hb dX3_bestOf_16 (by decide) (fun c22499 => ?_) (fun c22499 => ?_)
      · have g22500 : Rg 12 31 r22495 := rg_ler (by decide : Rg 12 12 (12 : Int32)) g22498 c22499 (by decide)
        refine lv_iconst (v := 0) hx hb dX3_bestOf_25 (by decide) ?_
        subst hAe
        exact W.iret (v := 0) hx hb hr (fun t ht hW => ⟨⟨_, u, rfl, ⟨(by decide : Rg 0 65549 (0 : Int32)), (by have z1 := px1; have z2 : (0 : Int32).toInt = 0 := (by decide); omega)⟩, by rw [ht]; exact hP, hD⟩, hS.F ht⟩) hS.2.2 dX3_bestOf_26
      · have g22501 : Rg 1 11 r22495 := rg_ltl g22498 (by decide : Rg 12 12 (12 : Int32)) (rg_nle c22499) (by decide)
        refine lv_iload_n hx hb dX3_bestOf_19 rfl (lv_at hl 3 rfl) ?_
        refine lv_bipush (v := 12) hx hb dX3_bestOf_20 (by decide) ?_
        refine lv_icmp_le (tgt := 27) hx hb dX3_bestOf_22 (by decide) (fun c22502 => ?_) (fun c22502 => ?_)
        · exact absurd c22502 (wk_nle px1 (by decide : Rg 12 12 (12 : Int32)) (by decide))
        · refine lv_iconst (v := 0) hx hb dX3_bestOf_25 (by decide) ?_
          subst hAe
          exact W.iret (v := 0) hx hb hr (fun t ht hW => ⟨⟨_, u, rfl, ⟨(by decide : Rg 0 65549 (0 : Int32)), (by have z1 := px1; have z2 : (0 : Int32).toInt = 0 := (by decide); omega)⟩, by rw [ht]; exact hP, hD⟩, hS.F ht⟩) hS.2.2 dX3_bestOf_26
  | succ n ih =>
    intro sz u0 x0 x1 px1 hrk
    refine Met.ofW (cc := cX3_bestOf) (maxL := 11) (ret := (some .int)) (by decide) rfl ?_
    intro p e s m args below meth c s₁ B hml hv
    obtain ⟨rfl, hsz, hP, hKK, hD0⟩ := hv
    have hx := B.exec
    have hb := B.bytes
    have hr := B.returns
    have hts := atoms_spec (ws := wsX3_bestOf) B.pre
    have hown : s.vm.findClass RX3 = some m.cls := findClass_of_methodNamed B.named
    have hlocks := B.notSynchronized
    have hK := hKK.1
    have hin2 : ∀ w ∈ wsX20, w ∈ wsX3_bestOf := by decide +kernel
    have hin3 : ∀ w ∈ wsX30, w ∈ wsX3_bestOf := by decide +kernel
    subst hsz
    have hD := hD0.self (sz := s.heap.size)
    obtain ⟨A, hAe⟩ : ∃ A, A = va_A (wX cI cS a na nc N L u0) s.heap.size := ⟨_, rfl⟩
    rw [← hAe] at hD
    have hA : ∀ q : Nat, s.heap.size ≤ q → A q := fun q h => by rw [hAe]; exact Or.inr h
    have hS : va_S A s.heap s.heap [] := va_S.rf
    have hl := lv_entry ([.ref (a 7), .int x0, .int x1]) (n := 11) (Nat.le_of_ble_eq_true rfl)
    rw [lg_entry_eq]
    generalize (lg_sl ([.ref (a 7), .int x0, .int x1]) ++ List.replicate (11 - (lg_sl ([.ref (a 7), .int x0, .int x1])).length) Slot.unset).toArray = ls at hl ⊢
    have hl : lv_has ls 11 [(0, .ref (a 7)), (1, .int x0), (2, .int x1)] := hl
    obtain ⟨u, hu9⟩ : ∃ u : SU, u = u0 := ⟨_, rfl⟩
    rw [← hu9] at hP hD
    have lp106 : ∀ (n106 : Nat) (y106_l3 y106_l5 y106_l6 y106_l7 y106_l8 y106_l9 y106_l10 : Int32) (u : SU) (H : Heap) (locs : List Loc) (ls : Array Slot), Rg 0 12 x1 → Rg 1 11 y106_l3 → Rg 0 65548 y106_l7 → Rg 0 65549 y106_l8 → Rg 0 1 y106_l9 → Rg 0 11 y106_l10 → (y106_l8.toInt ≤ 65549 - x1.toInt ∧ y106_l7.toInt ≤ 65548 - x1.toInt) → va_P D cls (wX cI cS a na nc N L u) H → va_D A (wX cI cS a na nc N L u) → va_S A s.heap H locs → lv_has ls 11 [(0, .ref (a 7)), (1, .int x0), (2, .int x1), (3, .int y106_l3), (5, .int y106_l5), (6, .int y106_l6), (7, .int y106_l7), (8, .int y106_l8), (9, .int y106_l9), (10, .int y106_l10)] → 11 - y106_l10.toInt < (n106 : Int) → W p l e (headSpec wsX3_bestOf ({ frames := n + 1 + 1, cells := 0, slots := 0, locals := 40 * (n + 1 + 1) })).room s m ([.ref (a 7), .int x0, .int x1]).toArray below meth c H locs 0 0 (MQ below (QF (S := SU) D (wX cI cS a na nc N L u0) (wX cI cS a na nc N L) s.heap.size (fun r _ => Rg 0 65549 r ∧ r.toInt ≤ 65549 - x1.toInt)) ([.ref (a 7), .int x0, .int x1]).toArray s 0 0 (va_A (wX cI cS a na nc N L u0) s.heap.size)) (F0 m 106 ls []) := by
      intro n106
      induction n106 with
      | zero =>
        intro y106_l3 y106_l5 y106_l6 y106_l7 y106_l8 y106_l9 y106_l10 u H locs ls g106_l2 g106_l3 g106_l7 g106_l8 g106_l9 g106_l10 x106_0 hP hD hS hl hm106
        exact absurd rfl (me_z g106_l10 hm106)
      | succ n106 ih106 =>
        intro y106_l3 y106_l5 y106_l6 y106_l7 y106_l8 y106_l9 y106_l10 u H locs ls g106_l2 g106_l3 g106_l7 g106_l8 g106_l9 g106_l10 x106_0 hP hD hS hl hm106
        refine lv_iload hx hb dX3_bestOf_106 (lv_at hl 9 rfl) ?_
        refine lv_iload_n hx hb dX3_bestOf_108 rfl (lv_at hl 3 rfl) ?_
        refine lv_icmp_ge (tgt := 164) hx hb dX3_bestOf_109 (by decide) (fun c22962 => ?_) (fun c22962 => ?_)
        · have g22963 : Rg 1 11 y106_l10 := rg_ler g106_l3 g106_l10 c22962 (by decide)
          refine lv_aload_n hx hb dX3_bestOf_164 rfl (lv_at hl 0 rfl) ?_
          refine va_get (D := D) (ci := 3) (v := .ref (a 9)) (C := RX3) (T := TX3) (N := 4) hx hb hts hin3 hown hK hP 7 rfl rfl 1 (by decide) (hts (.fieldLink RX3 14 "MissedPoints$Pairs" "mosts" "LMissedPoints$Memo;") (by decide +kernel)) (fun _ h9 => h9) rfl dX3_bestOf_165 ?_
          refine lv_iload_n hx hb dX3_bestOf_168 rfl (lv_at hl 1 rfl) ?_
          refine lv_iload hx hb dX3_bestOf_169 (lv_at hl 7 rfl) ?_
          refine wk_qv (wX cI cS a na nc N L) u (As := [.int x0, .int y106_l8]) (rest := []) ⟨hx, hb, hml, hown, hts⟩ (k_X1_keep l D cI cS _ a na nc N L u hL hN x0 y106_l8) hKK hP hD hS hA 9 (ci := 1) rfl rfl (cwV 2 hts gX3_bestOf_X1_keep rfl rfl rfl (by decide +kernel) ⟨by show 0 + 1 ≤ (n + 1) + 1; omega, by show 8 + (3 + 11) + 0 ≤ 40 * ((n + 1) + 1); omega⟩) rfl hl.1 rfl (Nat.le_of_ble_eq_true rfl) dX3_bestOf_171 ⟨Nat.le_of_ble_eq_true rfl, Nat.le_of_ble_eq_true rfl⟩ (fun u H locs hr22964 hP hD hS => ?_)
          refine lv_iload hx hb dX3_bestOf_174 (lv_at hl 7 rfl) ?_
          subst hAe
          exact W.iret (v := y106_l8) hx hb hr (fun t ht hW => ⟨⟨_, u, rfl, ⟨g106_l8, x106_0.1⟩, by rw [ht]; exact hP, hD⟩, hS.F ht⟩) hS.2.2 dX3_bestOf_176
        · have g22965 : Rg 0 10 y106_l10 := rg_ltl g106_l10 g106_l3 (rg_nle c22962) (by decide)
          refine lv_iload hx hb dX3_bestOf_112 (lv_at hl 8 rfl) ?_
          refine lv_if_eq (tgt := 164) hx hb dX3_bestOf_114 (by decide) (fun c22966 => ?_) (fun c22966 => ?_)
          · have g22967 : Rg 0 0 y106_l9 := wk_eql g106_l9 (by decide : Rg 0 0 (0 : Int32)) c22966 (by decide)
            refine lv_aload_n hx hb dX3_bestOf_164 rfl (lv_at hl 0 rfl) ?_
            refine va_get (D := D) (ci := 3) (v := .ref (a 9)) (C := RX3) (T := TX3) (N := 4) hx hb hts hin3 hown hK hP 7 rfl rfl 1 (by decide) (hts (.fieldLink RX3 14 "MissedPoints$Pairs" "mosts" "LMissedPoints$Memo;") (by decide +kernel)) (fun _ h9 => h9) rfl dX3_bestOf_165 ?_
            refine lv_iload_n hx hb dX3_bestOf_168 rfl (lv_at hl 1 rfl) ?_
            refine lv_iload hx hb dX3_bestOf_169 (lv_at hl 7 rfl) ?_
            refine wk_qv (wX cI cS a na nc N L) u (As := [.int x0, .int y106_l8]) (rest := []) ⟨hx, hb, hml, hown, hts⟩ (k_X1_keep l D cI cS _ a na nc N L u hL hN x0 y106_l8) hKK hP hD hS hA 9 (ci := 1) rfl rfl (cwV 2 hts gX3_bestOf_X1_keep rfl rfl rfl (by decide +kernel) ⟨by show 0 + 1 ≤ (n + 1) + 1; omega, by show 8 + (3 + 11) + 0 ≤ 40 * ((n + 1) + 1); omega⟩) rfl hl.1 rfl (Nat.le_of_ble_eq_true rfl) dX3_bestOf_171 ⟨Nat.le_of_ble_eq_true rfl, Nat.le_of_ble_eq_true rfl⟩ (fun u H locs hr22968 hP hD hS => ?_)
            refine lv_iload hx hb dX3_bestOf_174 (lv_at hl 7 rfl) ?_
            subst hAe
            exact W.iret (v := y106_l8) hx hb hr (fun t ht hW => ⟨⟨_, u, rfl, ⟨g106_l8, x106_0.1⟩, by rw [ht]; exact hP, hD⟩, hS.F ht⟩) hS.2.2 dX3_bestOf_176
          · have g22969 : Rg 1 1 y106_l9 := rg_ne_lo (k := 0) g106_l9 (by decide) c22966 (by decide)
            refine lv_iload hx hb dX3_bestOf_117 (lv_at hl 7 rfl) ?_
            refine lv_iload hx hb dX3_bestOf_119 (lv_at hl 6 rfl) ?_
            refine lv_icmp_ne (tgt := 164) hx hb dX3_bestOf_121 (by decide) (fun c22970 => ?_) (fun c22970 => ?_)
            · refine lv_aload_n hx hb dX3_bestOf_164 rfl (lv_at hl 0 rfl) ?_
              refine va_get (D := D) (ci := 3) (v := .ref (a 9)) (C := RX3) (T := TX3) (N := 4) hx hb hts hin3 hown hK hP 7 rfl rfl 1 (by decide) (hts (.fieldLink RX3 14 "MissedPoints$Pairs" "mosts" "LMissedPoints$Memo;") (by decide +kernel)) (fun _ h9 => h9) rfl dX3_bestOf_165 ?_
              refine lv_iload_n hx hb dX3_bestOf_168 rfl (lv_at hl 1 rfl) ?_
              refine lv_iload hx hb dX3_bestOf_169 (lv_at hl 7 rfl) ?_
              refine wk_qv (wX cI cS a na nc N L) u (As := [.int x0, .int y106_l8]) (rest := []) ⟨hx, hb, hml, hown, hts⟩ (k_X1_keep l D cI cS _ a na nc N L u hL hN x0 y106_l8) hKK hP hD hS hA 9 (ci := 1) rfl rfl (cwV 2 hts gX3_bestOf_X1_keep rfl rfl rfl (by decide +kernel) ⟨by show 0 + 1 ≤ (n + 1) + 1; omega, by show 8 + (3 + 11) + 0 ≤ 40 * ((n + 1) + 1); omega⟩) rfl hl.1 rfl (Nat.le_of_ble_eq_true rfl) dX3_bestOf_171 ⟨Nat.le_of_ble_eq_true rfl, Nat.le_of_ble_eq_true rfl⟩ (fun u H locs hr22971 hP hD hS => ?_)
              refine lv_iload hx hb dX3_bestOf_174 (lv_at hl 7 rfl) ?_
              subst hAe
              exact W.iret (v := y106_l8) hx hb hr (fun t ht hW => ⟨⟨_, u, rfl, ⟨g106_l8, x106_0.1⟩, by rw [ht]; exact hP, hD⟩, hS.F ht⟩) hS.2.2 dX3_bestOf_176
            · have g22972 : Rg 0 65548 y106_l8 := wk_eql g106_l8 g106_l7 c22970 (by decide)
              refine lv_iload hx hb dX3_bestOf_124 (lv_at hl 5 rfl) ?_
              refine lv_iload hx hb dX3_bestOf_126 (lv_at hl 9 rfl) ?_
              refine lv_ishr hx hb dX3_bestOf_128 ?_
              refine wk_topP (P := fun r => r = y106_l6 >>> (y106_l10 &&& 31)) rfl (fun r22973 qr22973 => ?_)
              refine lv_iconst (v := 1) hx hb dX3_bestOf_129 (by decide) ?_
              refine wk_iandr hx hb dX3_bestOf_130 (by decide : Rg 1 1 (1 : Int32)) (by decide) (fun r22974 hr22974 qr22974 => ?_)
              refine lv_if_eq (tgt := 158) hx hb dX3_bestOf_131 (by decide) (fun c22975 => ?_) (fun c22975 => ?_)
              · have g22976 : Rg 0 0 r22974 := wk_eql hr22974 (by decide : Rg 0 0 (0 : Int32)) c22975 (by decide)
                refine wk_iinc (lv' := fun r => [(10, .int r), (0, .ref (a 7)), (1, .int x0), (2, .int x1), (3, .int y106_l3), (5, .int y106_l5), (6, .int y106_l6), (7, .int y106_l7), (8, .int y106_l8), (9, .int y106_l9)]) (e1 := 1) (f := 11) hx hb dX3_bestOf_158 hl (k := 9) rfl (by decide) g22965 (by decide) (fun _ => rfl) (fun r22977 ls hr22977 er22977 hl => ?_)
                refine lv_goto (tgt := 106) hx hb dX3_bestOf_161 (by decide) ?_
                exact ih106 y106_l3 y106_l5 y106_l6 y106_l7 y106_l8 y106_l9 r22977 u _ _ ls g106_l2 g106_l3 g106_l7 (show Rg 0 65549 y106_l8 from rg_w g22972 (by decide) (by decide)) (show Rg 0 1 y106_l9 from rg_w g22969 (by decide) (by decide)) (show Rg 0 11 r22977 from rg_w hr22977 (by decide) (by decide)) (by exact x106_0) hP hD hS (lv_sub (l' := [(0, .ref (a 7)), (1, .int x0), (2, .int x1), (3, .int y106_l3), (5, .int y106_l5), (6, .int y106_l6), (7, .int y106_l7), (8, .int y106_l8), (9, .int y106_l9), (10, .int r22977)]) hl [1, 2, 3, 4, 5, 6, 7, 8, 9, 0] rfl) (me_up hm106 er22977 (by decide))
              · have g22978 : Rg 1 1 r22974 := rg_ne_lo (k := 0) hr22974 (by decide) c22975 (by decide)
                refine lv_aload_n hx hb dX3_bestOf_134 rfl (lv_at hl 0 rfl) ?_
                refine lv_iload hx hb dX3_bestOf_135 (lv_at hl 4 rfl) ?_
                refine lv_iconst (v := 1) hx hb dX3_bestOf_137 (by decide) ?_
                refine lv_iload hx hb dX3_bestOf_138 (lv_at hl 9 rfl) ?_
                refine wk_ishl1 (f := 1024) hx hb dX3_bestOf_140 g22965 (by decide) (fun r22979 hr22979 qr22979 => ?_)
                refine lv_iconst (v := (-1)) hx hb dX3_bestOf_141 (by decide) ?_
                refine lv_ixor hx hb dX3_bestOf_142 ?_
                refine wk_topP (P := fun r => r = r22979 ^^^ ((-1) : Int32)) rfl (fun r22980 qr22980 => ?_)
                refine lv_iand hx hb dX3_bestOf_143 ?_
                refine wk_topP (P := fun r => r = y106_l5 &&& r22980) rfl (fun r22981 qr22981 => ?_)
                refine lv_iload_n hx hb dX3_bestOf_144 rfl (lv_at hl 2 rfl) ?_
                refine lv_iconst (v := 1) hx hb dX3_bestOf_145 (by decide) ?_
                refine wk_iadd (e1 := 1) (f := 13) hx hb dX3_bestOf_146 g106_l2 (by decide : Rg 1 1 (1 : Int32)) (by decide) (fun r22982 hr22982 er22982 qr22982 => ?_)
                refine wk_qi (wX cI cS a na nc N L) u (As := [.int r22981, .int r22982]) (rest := []) ⟨hx, hb, hml, hown, hts⟩ (ih _ u r22981 r22982 ((show Rg 0 13 r22982 from rg_w hr22982 (by decide) (by decide))) (by have z1 := er22982; have z9 : (1 : Int32).toInt = 1 := (by decide); omega)) hKK hP hD hS hA 7 (ci := 3) rfl rfl (cwV 2 hts gX3_bestOf_X3_bestOf rfl rfl rfl (by decide +kernel) ⟨by show n + 1 + 1 ≤ (n + 1) + 1; omega, by show 8 + (11 + 11) + 40 * (n + 1) ≤ 40 * ((n + 1) + 1); omega⟩) rfl hl.1 rfl (Nat.le_of_ble_eq_true rfl) dX3_bestOf_147 ⟨Nat.le_of_ble_eq_true rfl, Nat.le_of_ble_eq_true rfl⟩ (fun r22983 u H locs hr22983 hP hD hS => ?_)
                have g22984 : Rg 0 65548 r22983 := ⟨hr22983.1.1, by have z1 := hr22983.2; have z2 := er22982; have z3 := px1; have z9 : (1 : Int32).toInt = 1 := (by decide); omega⟩
                refine lv_iload hx hb dX3_bestOf_150 (lv_at hl 6 rfl) ?_
                refine lv_icmp_ne (tgt := 158) hx hb dX3_bestOf_152 (by decide) (fun c22985 => ?_) (fun c22985 => ?_)
                · refine wk_iinc (lv' := fun r => [(10, .int r), (0, .ref (a 7)), (1, .int x0), (2, .int x1), (3, .int y106_l3), (5, .int y106_l5), (6, .int y106_l6), (7, .int y106_l7), (8, .int y106_l8), (9, .int y106_l9)]) (e1 := 1) (f := 11) hx hb dX3_bestOf_158 hl (k := 9) rfl (by decide) g22965 (by decide) (fun _ => rfl) (fun r22986 ls hr22986 er22986 hl => ?_)
                  refine lv_goto (tgt := 106) hx hb dX3_bestOf_161 (by decide) ?_
                  exact ih106 y106_l3 y106_l5 y106_l6 y106_l7 y106_l8 y106_l9 r22986 u _ _ ls g106_l2 g106_l3 g106_l7 (show Rg 0 65549 y106_l8 from rg_w g22972 (by decide) (by decide)) (show Rg 0 1 y106_l9 from rg_w g22969 (by decide) (by decide)) (show Rg 0 11 r22986 from rg_w hr22986 (by decide) (by decide)) (by exact x106_0) hP hD hS (lv_sub (l' := [(0, .ref (a 7)), (1, .int x0), (2, .int x1), (3, .int y106_l3), (5, .int y106_l5), (6, .int y106_l6), (7, .int y106_l7), (8, .int y106_l8), (9, .int y106_l9), (10, .int r22986)]) hl [1, 2, 3, 4, 5, 6, 7, 8, 9, 0] rfl) (me_up hm106 er22986 (by decide))
                · refine wk_iinc (lv' := fun r => [(8, .int r), (0, .ref (a 7)), (1, .int x0), (2, .int x1), (3, .int y106_l3), (5, .int y106_l5), (6, .int y106_l6), (7, .int y106_l7), (9, .int y106_l9), (10, .int y106_l10)]) (e1 := 1) (f := 65549) hx hb dX3_bestOf_155 hl (k := 7) rfl (by decide) g22972 (by decide) (fun _ => rfl) (fun r22987 ls hr22987 er22987 hl => ?_)
                  refine wk_iinc (lv' := fun r => [(10, .int r), (8, .int r22987), (0, .ref (a 7)), (1, .int x0), (2, .int x1), (3, .int y106_l3), (5, .int y106_l5), (6, .int y106_l6), (7, .int y106_l7), (9, .int y106_l9)]) (e1 := 1) (f := 11) hx hb dX3_bestOf_158 hl (k := 9) rfl (by decide) g22965 (by decide) (fun _ => rfl) (fun r22988 ls hr22988 er22988 hl => ?_)
                  refine lv_goto (tgt := 106) hx hb dX3_bestOf_161 (by decide) ?_
                  exact ih106 y106_l3 y106_l5 y106_l6 y106_l7 r22987 y106_l9 r22988 u _ _ ls g106_l2 g106_l3 g106_l7 (show Rg 0 65549 r22987 from rg_w hr22987 (by decide) (by decide)) (show Rg 0 1 y106_l9 from rg_w g22969 (by decide) (by decide)) (show Rg 0 11 r22988 from rg_w hr22988 (by decide) (by decide)) (by have z1 := x106_0; have z2 := er22987; have z3 := congrArg Int32.toInt c22970; exact ⟨by omega, z1.2⟩) hP hD hS (lv_sub (l' := [(0, .ref (a 7)), (1, .int x0), (2, .int x1), (3, .int y106_l3), (5, .int y106_l5), (6, .int y106_l6), (7, .int y106_l7), (8, .int r22987), (9, .int y106_l9), (10, .int r22988)]) hl [2, 3, 4, 5, 6, 7, 8, 1, 9, 0] rfl) (me_up hm106 er22988 (by decide))
    refine lv_bipush (v := 31) hx hb dX3_bestOf_0 (by decide) ?_
    refine lv_iload_n hx hb dX3_bestOf_2 rfl (lv_at hl 1 rfl) ?_
    refine lz_ss (As := [.int x0]) (rest := [.int 31]) ⟨hx, hb, hml, hown, hts⟩ (k_J6_numberOfLeadingZeros_0f7a4 l D cI cS x0) hKK (hP.sub (ws' := []) [] rfl) (va_cwS 1 hts gX3_bestOf_J6_numberOfLeadingZeros_0f7a4 rfl rfl rfl (by decide +kernel) ⟨by show 0 + 1 ≤ (n + 1) + 1; omega, by show 8 + (2 + 11) + 0 ≤ 40 * ((n + 1) + 1); omega⟩) rfl hl.1 rfl (Nat.le_of_ble_eq_true rfl) dX3_bestOf_3 ⟨Nat.le_of_ble_eq_true rfl, Nat.le_of_ble_eq_true rfl⟩ (fun r22989 hr22989 => ?_)
    refine wk_isub (e1 := (-1)) (f := 31) hx hb dX3_bestOf_6 (by decide : Rg 31 31 (31 : Int32)) hr22989.1 (by decide) (fun r22990 hr22990 er22990 qr22990 => ?_)
    refine lv_istore_n (lv' := [(3, .int r22990), (0, .ref (a 7)), (1, .int x0), (2, .int x1)]) hx hb dX3_bestOf_7 rfl hl (by decide) rfl (fun ls hl => ?_)
    refine lv_iload_n hx hb dX3_bestOf_8 rfl (lv_at hl 0 rfl) ?_
    refine lv_iconst (v := 1) hx hb dX3_bestOf_9 (by decide) ?_
    refine lv_icmp_lt (tgt := 25) hx hb dX3_bestOf_10 (by decide) (fun c22991 => ?_) (fun c22991 => ?_)
    · have g22992 : Rg (-1) 0 r22990 := rg_ltl hr22990 (by decide : Rg 1 1 (1 : Int32)) c22991 (by decide)
      refine lv_iconst (v := 0) hx hb dX3_bestOf_25 (by decide) ?_
      subst hAe
      exact W.iret (v := 0) hx hb hr (fun t ht hW => ⟨⟨_, u, rfl, ⟨(by decide : Rg 0 65549 (0 : Int32)), (by have z1 := px1; have z2 : (0 : Int32).toInt = 0 := (by decide); omega)⟩, by rw [ht]; exact hP, hD⟩, hS.F ht⟩) hS.2.2 dX3_bestOf_26
    · have g22993 : Rg 1 31 r22990 := rg_ler (by decide : Rg 1 1 (1 : Int32)) hr22990 (rg_nlt c22991) (by decide)
      refine lv_iload_n hx hb dX3_bestOf_13 rfl (lv_at hl 0 rfl) ?_
      refine lv_bipush (v := 12) hx hb dX3_bestOf_14 (by decide) ?_
      refine lv_icmp_ge (tgt := 25) hx hb dX3_bestOf_16 (by decide) (fun c22994 => ?_) (fun c22994 => ?_)
      · have g22995 : Rg 12 31 r22990 := rg_ler (by decide : Rg 12 12 (12 : Int32)) g22993 c22994 (by decide)
        refine lv_iconst (v := 0) hx hb dX3_bestOf_25 (by decide) ?_
        subst hAe
        exact W.iret (v := 0) hx hb hr (fun t ht hW => ⟨⟨_, u, rfl, ⟨(by decide : Rg 0 65549 (0 : Int32)), (by have z1 := px1; have z2 : (0 : Int32).toInt = 0 := (by decide); omega)⟩, by rw [ht]; exact hP, hD⟩, hS.F ht⟩) hS.2.2 dX3_bestOf_26
      · have g22996 : Rg 1 11 r22990 := rg_ltl g22993 (by decide : Rg 12 12 (12 : Int32)) (rg_nle c22994) (by decide)
        refine lv_iload_n hx hb dX3_bestOf_19 rfl (lv_at hl 3 rfl) ?_
        refine lv_bipush (v := 12) hx hb dX3_bestOf_20 (by decide) ?_
        refine lv_icmp_le (tgt := 27) hx hb dX3_bestOf_22 (by decide) (fun c22997 => ?_) (fun c22997 => ?_)
        · have g22998 : Rg 0 12 x1 := rg_lel px1 (by decide : Rg 12 12 (12 : Int32)) c22997 (by decide)
          refine lv_aload_n hx hb dX3_bestOf_27 rfl (lv_at hl 1 rfl) ?_
          refine va_get (D := D) (ci := 3) (v := .ref (a 9)) (C := RX3) (T := TX3) (N := 4) hx hb hts hin3 hown hK hP 7 rfl rfl 1 (by decide) (hts (.fieldLink RX3 14 "MissedPoints$Pairs" "mosts" "LMissedPoints$Memo;") (by decide +kernel)) (fun _ h9 => h9) rfl dX3_bestOf_28 ?_
          refine lv_iload_n hx hb dX3_bestOf_31 rfl (lv_at hl 2 rfl) ?_
          refine wk_sv 9 (As := [.int x0]) (rest := []) ⟨hx, hb, hml, hown, hts⟩ (k_X1_recall l D cI cS a na nc N L u hL hN x0) hKK hP (ci := 1) rfl rfl (cwV 1 hts gX3_bestOf_X1_recall rfl rfl rfl (by decide +kernel) ⟨by show 0 + 1 ≤ (n + 1) + 1; omega, by show 8 + (2 + 11) + 0 ≤ 40 * ((n + 1) + 1); omega⟩) rfl hl.1 rfl (Nat.le_of_ble_eq_true rfl) dX3_bestOf_32 ⟨Nat.le_of_ble_eq_true rfl, Nat.le_of_ble_eq_true rfl⟩ (fun r22999 hr22999 => ?_)
          refine lv_istore (lv' := [(4, .int r22999), (3, .int r22990), (0, .ref (a 7)), (1, .int x0), (2, .int x1)]) hx hb dX3_bestOf_35 hl (by decide) rfl (fun ls hl => ?_)
          refine lv_iload hx hb dX3_bestOf_37 (lv_at hl 0 rfl) ?_
          refine lv_if_lt (tgt := 45) hx hb dX3_bestOf_39 (by decide) (fun c23000 => ?_) (fun c23000 => ?_)
          · have g23001 : Rg (-1) (-1) r22999 := rg_ltl hr22999.1 (by decide : Rg 0 0 (0 : Int32)) c23000 (by decide)
            refine lv_iload_n hx hb dX3_bestOf_45 rfl (lv_at hl 3 rfl) ?_
            refine lv_iconst (v := 1) hx hb dX3_bestOf_46 (by decide) ?_
            refine lv_iload_n hx hb dX3_bestOf_47 rfl (lv_at hl 1 rfl) ?_
            refine wk_ishl1 (f := 2048) hx hb dX3_bestOf_48 (show Rg 0 11 r22990 from rg_w g22996 (by decide) (by decide)) (by decide) (fun r23002 hr23002 qr23002 => ?_)
            refine lv_iconst (v := (-1)) hx hb dX3_bestOf_49 (by decide) ?_
            refine lv_ixor hx hb dX3_bestOf_50 ?_
            refine wk_topP (P := fun r => r = r23002 ^^^ ((-1) : Int32)) rfl (fun r23003 qr23003 => ?_)
            refine lv_iand hx hb dX3_bestOf_51 ?_
            refine wk_topP (P := fun r => r = x0 &&& r23003) rfl (fun r23004 qr23004 => ?_)
            refine lv_istore (lv' := [(5, .int r23004), (4, .int r22999), (3, .int r22990), (0, .ref (a 7)), (1, .int x0), (2, .int x1)]) hx hb dX3_bestOf_52 hl (by decide) rfl (fun ls hl => ?_)
            refine lv_aload_n hx hb dX3_bestOf_54 rfl (lv_at hl 3 rfl) ?_
            refine va_get (D := D) (ci := 3) (v := .ref (a 1)) (C := RX3) (T := TX3) (N := 4) hx hb hts hin3 hown hK hP 7 rfl rfl 0 (by decide) (hts (.fieldLink RX3 23 "MissedPoints$Pairs" "net" "LMissedPoints$Net;") (by decide +kernel)) (fun _ h9 => h9) rfl dX3_bestOf_55 ?_
            refine va_getN (D := D) (ci := 2) (v := .ref (a 2)) (C := RX2) (T := TX2) (N := 3) hx hb hts hin2 hown hK hP 1 rfl rfl 0 (by decide) (va_Nw.use rfl hKK.2.2.2.2.2.2.2.2.2.2.2.2.1) (fun _ h9 => h9) rfl dX3_bestOf_58 ?_
            refine lv_iload_n hx hb dX3_bestOf_61 rfl (lv_at hl 2 rfl) ?_
            refine wk_aldA hx hb hK hP 2 0 rfl rfl (rg_in g22996 (by decide) (by decide)) dX3_bestOf_62 (fun r23005 => ?_)
            refine lv_iload hx hb dX3_bestOf_63 (lv_at hl 0 rfl) ?_
            refine lv_iand hx hb dX3_bestOf_65 ?_
            refine wk_topP (P := fun r => r = r23005 &&& r23004) rfl (fun r23006 qr23006 => ?_)
            refine lv_istore (lv' := [(6, .int r23006), (5, .int r23004), (4, .int r22999), (3, .int r22990), (0, .ref (a 7)), (1, .int x0), (2, .int x1)]) hx hb dX3_bestOf_66 hl (by decide) rfl (fun ls hl => ?_)
            refine lv_aload_n hx hb dX3_bestOf_68 rfl (lv_at hl 4 rfl) ?_
            refine lv_iload hx hb dX3_bestOf_69 (lv_at hl 1 rfl) ?_
            refine lv_iload_n hx hb dX3_bestOf_71 rfl (lv_at hl 6 rfl) ?_
            refine lv_iconst (v := 1) hx hb dX3_bestOf_72 (by decide) ?_
            refine wk_iadd (e1 := 1) (f := 13) hx hb dX3_bestOf_73 g22998 (by decide : Rg 1 1 (1 : Int32)) (by decide) (fun r23007 hr23007 er23007 qr23007 => ?_)
            refine wk_qi (wX cI cS a na nc N L) u (As := [.int r23004, .int r23007]) (rest := []) ⟨hx, hb, hml, hown, hts⟩ (ih _ u r23004 r23007 ((show Rg 0 13 r23007 from rg_w hr23007 (by decide) (by decide))) (by have z1 := er23007; have z9 : (1 : Int32).toInt = 1 := (by decide); omega)) hKK hP hD hS hA 7 (ci := 3) rfl rfl (cwV 2 hts gX3_bestOf_X3_bestOf rfl rfl rfl (by decide +kernel) ⟨by show n + 1 + 1 ≤ (n + 1) + 1; omega, by show 8 + (11 + 11) + 40 * (n + 1) ≤ 40 * ((n + 1) + 1); omega⟩) rfl hl.1 rfl (Nat.le_of_ble_eq_true rfl) dX3_bestOf_74 ⟨Nat.le_of_ble_eq_true rfl, Nat.le_of_ble_eq_true rfl⟩ (fun r23008 u H locs hr23008 hP hD hS => ?_)
            have g23009 : Rg 0 65548 r23008 := ⟨hr23008.1.1, by have z1 := hr23008.2; have z2 := er23007; have z3 := px1; have z9 : (1 : Int32).toInt = 1 := (by decide); omega⟩
            refine lv_istore (lv' := [(7, .int r23008), (6, .int r23006), (5, .int r23004), (4, .int r22999), (3, .int r22990), (0, .ref (a 7)), (1, .int x0), (2, .int x1)]) hx hb dX3_bestOf_77 hl (by decide) rfl (fun ls hl => ?_)
            refine lv_iload hx hb dX3_bestOf_79 (lv_at hl 0 rfl) ?_
            refine lv_istore (lv' := [(8, .int r23008), (7, .int r23008), (6, .int r23006), (5, .int r23004), (4, .int r22999), (3, .int r22990), (0, .ref (a 7)), (1, .int x0), (2, .int x1)]) hx hb dX3_bestOf_81 hl (by decide) rfl (fun ls hl => ?_)
            refine lv_iconst (v := 2) hx hb dX3_bestOf_83 (by decide) ?_
            refine lv_iload hx hb dX3_bestOf_84 (lv_at hl 1 rfl) ?_
            refine wk_imul (f := 131096) hx hb dX3_bestOf_86 (by decide : Rg 0 2 (2 : Int32)) g23009 (by decide) (fun r23010 hr23010 er23010 qr23010 => ?_)
            refine lv_iconst (v := 2) hx hb dX3_bestOf_87 (by decide) ?_
            refine wk_iadd (e1 := 2) (f := 131098) hx hb dX3_bestOf_88 hr23010 (by decide : Rg 2 2 (2 : Int32)) (by decide) (fun r23011 hr23011 er23011 qr23011 => ?_)
            refine lv_iload_n hx hb dX3_bestOf_89 rfl (lv_at hl 7 rfl) ?_
            refine lz_ss (As := [.int x0]) (rest := [.int r23011]) ⟨hx, hb, hml, hown, hts⟩ (k_J6_bitCount_0f7a4 l D cI cS x0) hKK (hP.sub (ws' := []) [] rfl) (va_cwS 1 hts gX3_bestOf_J6_bitCount_0f7a4 rfl rfl rfl (by decide +kernel) ⟨by show 0 + 1 ≤ (n + 1) + 1; omega, by show 8 + (1 + 11) + 0 ≤ 40 * ((n + 1) + 1); omega⟩) rfl hl.1 rfl (Nat.le_of_ble_eq_true rfl) dX3_bestOf_90 ⟨Nat.le_of_ble_eq_true rfl, Nat.le_of_ble_eq_true rfl⟩ (fun r23012 hr23012 => ?_)
            refine lv_icmp_gt (tgt := 100) hx hb dX3_bestOf_93 (by decide) (fun c23013 => ?_) (fun c23013 => ?_)
            · have g23014 : Rg (-2147483648) 131097 r23012 := rg_ltl hr23012.1 hr23011 c23013 (by decide)
              refine lv_iconst (v := 0) hx hb dX3_bestOf_100 (by decide) ?_
              refine lv_istore (lv' := [(9, .int 0), (8, .int r23008), (7, .int r23008), (6, .int r23006), (5, .int r23004), (4, .int r22999), (3, .int r22990), (0, .ref (a 7)), (1, .int x0), (2, .int x1)]) hx hb dX3_bestOf_101 hl (by decide) rfl (fun ls hl => ?_)
              refine lv_iconst (v := 0) hx hb dX3_bestOf_103 (by decide) ?_
              refine lv_istore (lv' := [(10, .int 0), (9, .int 0), (8, .int r23008), (7, .int r23008), (6, .int r23006), (5, .int r23004), (4, .int r22999), (3, .int r22990), (0, .ref (a 7)), (1, .int x0), (2, .int x1)]) hx hb dX3_bestOf_104 hl (by decide) rfl (fun ls hl => ?_)
              exact lp106 12 r22990 r23004 r23006 r23008 r23008 (0 : Int32) (0 : Int32) u _ _ ls g22998 g22996 g23009 (show Rg 0 65549 r23008 from rg_w g23009 (by decide) (by decide)) (by decide : Rg 0 1 (0 : Int32)) (by decide : Rg 0 11 (0 : Int32)) (by have z1 := hr23008.2; have z2 := er23007; have z9 : (1 : Int32).toInt = 1 := (by decide); exact ⟨by omega, by omega⟩) hP hD hS (lv_sub (l' := [(0, .ref (a 7)), (1, .int x0), (2, .int x1), (3, .int r22990), (5, .int r23004), (6, .int r23006), (7, .int r23008), (8, .int r23008), (9, .int 0), (10, .int 0)]) hl [8, 9, 10, 7, 5, 4, 3, 2, 1, 0] rfl) (me_i (by decide : Rg 0 11 (0 : Int32)) (by decide))
            · have g23015 : Rg 2 2147483647 r23012 := rg_ler hr23011 hr23012.1 (rg_nlt c23013) (by decide)
              refine lv_iconst (v := 1) hx hb dX3_bestOf_96 (by decide) ?_
              refine lv_goto (tgt := 101) hx hb dX3_bestOf_97 (by decide) ?_
              refine lv_istore (lv' := [(9, .int 1), (8, .int r23008), (7, .int r23008), (6, .int r23006), (5, .int r23004), (4, .int r22999), (3, .int r22990), (0, .ref (a 7)), (1, .int x0), (2, .int x1)]) hx hb dX3_bestOf_101 hl (by decide) rfl (fun ls hl => ?_)
              refine lv_iconst (v := 0) hx hb dX3_bestOf_103 (by decide) ?_
              refine lv_istore (lv' := [(10, .int 0), (9, .int 1), (8, .int r23008), (7, .int r23008), (6, .int r23006), (5, .int r23004), (4, .int r22999), (3, .int r22990), (0, .ref (a 7)), (1, .int x0), (2, .int x1)]) hx hb dX3_bestOf_104 hl (by decide) rfl (fun ls hl => ?_)
              exact lp106 12 r22990 r23004 r23006 r23008 r23008 (1 : Int32) (0 : Int32) u _ _ ls g22998 g22996 g23009 (show Rg 0 65549 r23008 from rg_w g23009 (by decide) (by decide)) (by decide : Rg 0 1 (1 : Int32)) (by decide : Rg 0 11 (0 : Int32)) (by have z1 := hr23008.2; have z2 := er23007; have z9 : (1 : Int32).toInt = 1 := (by decide); exact ⟨by omega, by omega⟩) hP hD hS (lv_sub (l' := [(0, .ref (a 7)), (1, .int x0), (2, .int x1), (3, .int r22990), (5, .int r23004), (6, .int r23006), (7, .int r23008), (8, .int r23008), (9, .int 1), (10, .int 0)]) hl [8, 9, 10, 7, 5, 4, 3, 2, 1, 0] rfl) (me_i (by decide : Rg 0 11 (0 : Int32)) (by decide))
          · have g23016 : Rg 0 65535 r22999 := rg_ler (by decide : Rg 0 0 (0 : Int32)) hr22999.1 (rg_nlt c23000) (by decide)
            refine lv_iload hx hb dX3_bestOf_42 (lv_at hl 0 rfl) ?_
            subst hAe
            exact W.iret (v := r22999) hx hb hr (fun t ht hW => ⟨⟨_, u, rfl, ⟨(show Rg 0 65549 r22999 from rg_w g23016 (by decide) (by decide)), (by have z1 := px1; have z2 := g23016; omega)⟩, by rw [ht]; exact hP, hD⟩, hS.F ht⟩) hS.2.2 dX3_bestOf_44
        · have g23017 : Rg 13 13 x1 := rg_ltr (by decide : Rg 12 12 (12 : Int32)) px1 (rg_nle c22997) (by decide)
          refine lv_iconst (v := 0) hx hb dX3_bestOf_25 (by decide) ?_
          subst hAe
          exact W.iret (v := 0) hx hb hr (fun t ht hW => ⟨⟨_, u, rfl, ⟨(by decide : Rg 0 65549 (0 : Int32)), (by have z1 := px1; have z2 : (0 : Int32).toInt = 0 := (by decide); omega)⟩, by rw [ht]; exact hP, hD⟩, hS.F ht⟩) hS.2.2 dX3_bestOf_26
theorem k_X3_bestOf (l : Launch) (D : va_G) (cI cS : ClassId) (sz : Nat) (a : Nat → Nat) (na nc N : Nat) (L u0 : SU) (hL : TyX L) (hN : N = 0 ∨ N = 24576) (x0 x1 : Int32) (px1 : Rg 0 0 x1) : Met l yX3_bestOf wsX3_bestOf ({ frames := 13 + 1, cells := 0, slots := 0, locals := 40 * (13 + 1) }) (PQ D cI cS (wX cI cS a na nc N L u0) sz [.ref (a 7), .int x0, .int x1]) (QF (S := SU) D (wX cI cS a na nc N L u0) (wX cI cS a na nc N L) sz (fun r _ => Rg 0 65549 r ∧ r.toInt ≤ 65549 - x1.toInt)) 0 0 (va_A (wX cI cS a na nc N L u0) sz) := k_X3_bestOf_r l D cI cS a na nc N L hL hN 13 sz u0 x0 x1 (rg_w px1 (by decide) (by decide)) (by have z1 := px1; omega)
