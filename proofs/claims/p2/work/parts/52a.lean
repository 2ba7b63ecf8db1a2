theorem k_J6_bitCount_0f7a4 (l : Launch) (D : va_G) (cI cS : ClassId) (x0 : Int32) : Met l yJ6_bitCount_0f7a4 wsJ6_bitCount_0f7a4 ({ frames := 0, cells := 0, slots := 0, locals := 0 }) (PS D cI cS [] [.int x0]) (vp_Si (fun r => Rg (-2147483648) 2147483647 r ∧ (x0 = 0 → r = 0))) 0 0 (fun _ => False) :=
  met_si (c_J6_bitCount_0f7a4_1 l D cI cS x0) (fun r hr => ⟨rg_any r, fun h => by rw [hr, h]; decide⟩)
theorem dJ6_lowestOneBit_0f7a4_0 : decode cJ6_lowestOneBit_0f7a4 0 = .ok (.iload_n 0, 1) := by decide +kernel
theorem dJ6_lowestOneBit_0f7a4_1 : decode cJ6_lowestOneBit_0f7a4 1 = .ok (.iload_n 0, 1) := by decide +kernel
theorem dJ6_lowestOneBit_0f7a4_2 : decode cJ6_lowestOneBit_0f7a4 2 = .ok (.ineg, 1) := by decide +kernel
theorem dJ6_lowestOneBit_0f7a4_3 : decode cJ6_lowestOneBit_0f7a4 3 = .ok (.iand, 1) := by decide +kernel
theorem dJ6_lowestOneBit_0f7a4_4 : decode cJ6_lowestOneBit_0f7a4 4 = .ok (.ireturn, 1) := by decide +kernel
set_option maxHeartbeats 4000000 in
set_option maxRecDepth 100000 in
theorem k_J6_lowestOneBit_0f7a4 (l : Launch) (D : va_G) (cI cS : ClassId) (x0 : Int32) : Met l yJ6_lowestOneBit_0f7a4 wsJ6_lowestOneBit_0f7a4 ({ frames := 0, cells := 0, slots := 0, locals := 0 }) (PS D cI cS [] [.int x0]) (vp_Si (fun r => Rg (-2147483648) 2147483647 r ∧ True)) 0 0 (fun _ => False) := by
  refine Met.ofW (cc := cJ6_lowestOneBit_0f7a4) (maxL := 1) (ret := (some .int)) (by decide) rfl ?_
  intro p e s m args below meth c s₁ B hml hv
  obtain ⟨rfl, hP, hKK⟩ := hv
  have hx := B.exec
  have hb := B.bytes
  have hr := B.returns
  have hts := atoms_spec (ws := wsJ6_lowestOneBit_0f7a4) B.pre
  have hown : s.vm.findClass RJ6 = some m.cls := findClass_of_methodNamed B.named
  have hlocks := B.notSynchronized
  have hK := hKK.1
  have hl := lv_entry ([.int x0]) (n := 1) (Nat.le_of_ble_eq_true rfl)
  rw [lg_entry_eq]
  generalize (lg_sl ([.int x0]) ++ List.replicate (1 - (lg_sl ([.int x0])).length) Slot.unset).toArray = ls at hl ⊢
  have hl : lv_has ls 1 [(0, .int x0)] := hl
  refine lv_iload_n hx hb dJ6_lowestOneBit_0f7a4_0 rfl (lv_at hl 0 rfl) ?_
  refine lv_iload_n hx hb dJ6_lowestOneBit_0f7a4_1 rfl (lv_at hl 0 rfl) ?_
  refine lv_ineg hx hb dJ6_lowestOneBit_0f7a4_2 ?_
  refine wk_topP (P := fun r => r = -x0) rfl (fun r3 qr3 => ?_)
  refine lv_iand hx hb dJ6_lowestOneBit_0f7a4_3 ?_
  refine wk_topP (P := fun r => r = x0 &&& r3) rfl (fun r4 qr4 => ?_)
  exact W.iret (v := r4) hx hb hr (fun t ht hW => ⟨_, rfl, ⟨(rg_any r4), trivial⟩, ht⟩) (fun q hq => absurd hq List.not_mem_nil) dJ6_lowestOneBit_0f7a4_4
theorem dJ6_numberOfTrailingZeros_0f7a4_0 : decode cJ6_numberOfTrailingZeros_0f7a4 0 = .ok (.iload_n 0, 1) := by decide +kernel
theorem dJ6_numberOfTrailingZeros_0f7a4_1 : decode cJ6_numberOfTrailingZeros_0f7a4 1 = .ok (.iconst (-1), 1) := by decide +kernel
theorem dJ6_numberOfTrailingZeros_0f7a4_12 : decode cJ6_numberOfTrailingZeros_0f7a4 12 = .ok (.iload_n 0, 1) := by decide +kernel
theorem dJ6_numberOfTrailingZeros_0f7a4_13 : decode cJ6_numberOfTrailingZeros_0f7a4 13 = .ok (.bipush 32, 2) := by decide +kernel
theorem dJ6_numberOfTrailingZeros_0f7a4_15 : decode cJ6_numberOfTrailingZeros_0f7a4 15 = .ok (.iand, 1) := by decide +kernel
theorem dJ6_numberOfTrailingZeros_0f7a4_16 : decode cJ6_numberOfTrailingZeros_0f7a4 16 = .ok (.ireturn, 1) := by decide +kernel
theorem dJ6_numberOfTrailingZeros_0f7a4_17 : decode cJ6_numberOfTrailingZeros_0f7a4 17 = .ok (.iconst 1, 1) := by decide +kernel
theorem dJ6_numberOfTrailingZeros_0f7a4_18 : decode cJ6_numberOfTrailingZeros_0f7a4 18 = .ok (.istore_n 1, 1) := by decide +kernel
theorem dJ6_numberOfTrailingZeros_0f7a4_19 : decode cJ6_numberOfTrailingZeros_0f7a4 19 = .ok (.iload_n 0, 1) := by decide +kernel
theorem dJ6_numberOfTrailingZeros_0f7a4_2 : decode cJ6_numberOfTrailingZeros_0f7a4 2 = .ok (.ixor, 1) := by decide +kernel
theorem dJ6_numberOfTrailingZeros_0f7a4_20 : decode cJ6_numberOfTrailingZeros_0f7a4 20 = .ok (.ldc_w 264, 3) := by decide +kernel
theorem dJ6_numberOfTrailingZeros_0f7a4_23 : decode cJ6_numberOfTrailingZeros_0f7a4 23 = .ok (.if_icmp .le 11, 3) := by decide +kernel
theorem dJ6_numberOfTrailingZeros_0f7a4_26 : decode cJ6_numberOfTrailingZeros_0f7a4 26 = .ok (.iinc 1 16, 3) := by decide +kernel
theorem dJ6_numberOfTrailingZeros_0f7a4_29 : decode cJ6_numberOfTrailingZeros_0f7a4 29 = .ok (.iload_n 0, 1) := by decide +kernel
theorem dJ6_numberOfTrailingZeros_0f7a4_3 : decode cJ6_numberOfTrailingZeros_0f7a4 3 = .ok (.iload_n 0, 1) := by decide +kernel
theorem dJ6_numberOfTrailingZeros_0f7a4_30 : decode cJ6_numberOfTrailingZeros_0f7a4 30 = .ok (.bipush 16, 2) := by decide +kernel
theorem dJ6_numberOfTrailingZeros_0f7a4_32 : decode cJ6_numberOfTrailingZeros_0f7a4 32 = .ok (.iushr, 1) := by decide +kernel
theorem dJ6_numberOfTrailingZeros_0f7a4_33 : decode cJ6_numberOfTrailingZeros_0f7a4 33 = .ok (.istore_n 0, 1) := by decide +kernel
theorem dJ6_numberOfTrailingZeros_0f7a4_34 : decode cJ6_numberOfTrailingZeros_0f7a4 34 = .ok (.iload_n 0, 1) := by decide +kernel
theorem dJ6_numberOfTrailingZeros_0f7a4_35 : decode cJ6_numberOfTrailingZeros_0f7a4 35 = .ok (.sipush 256, 3) := by decide +kernel
theorem dJ6_numberOfTrailingZeros_0f7a4_38 : decode cJ6_numberOfTrailingZeros_0f7a4 38 = .ok (.if_icmp .le 11, 3) := by decide +kernel
theorem dJ6_numberOfTrailingZeros_0f7a4_4 : decode cJ6_numberOfTrailingZeros_0f7a4 4 = .ok (.iconst 1, 1) := by decide +kernel
theorem dJ6_numberOfTrailingZeros_0f7a4_41 : decode cJ6_numberOfTrailingZeros_0f7a4 41 = .ok (.iinc 1 8, 3) := by decide +kernel
theorem dJ6_numberOfTrailingZeros_0f7a4_44 : decode cJ6_numberOfTrailingZeros_0f7a4 44 = .ok (.iload_n 0, 1) := by decide +kernel
theorem dJ6_numberOfTrailingZeros_0f7a4_45 : decode cJ6_numberOfTrailingZeros_0f7a4 45 = .ok (.bipush 8, 2) := by decide +kernel
theorem dJ6_numberOfTrailingZeros_0f7a4_47 : decode cJ6_numberOfTrailingZeros_0f7a4 47 = .ok (.iushr, 1) := by decide +kernel
theorem dJ6_numberOfTrailingZeros_0f7a4_48 : decode cJ6_numberOfTrailingZeros_0f7a4 48 = .ok (.istore_n 0, 1) := by decide +kernel
theorem dJ6_numberOfTrailingZeros_0f7a4_49 : decode cJ6_numberOfTrailingZeros_0f7a4 49 = .ok (.iload_n 0, 1) := by decide +kernel
theorem dJ6_numberOfTrailingZeros_0f7a4_5 : decode cJ6_numberOfTrailingZeros_0f7a4 5 = .ok (.isub, 1) := by decide +kernel
theorem dJ6_numberOfTrailingZeros_0f7a4_50 : decode cJ6_numberOfTrailingZeros_0f7a4 50 = .ok (.bipush 16, 2) := by decide +kernel
theorem dJ6_numberOfTrailingZeros_0f7a4_52 : decode cJ6_numberOfTrailingZeros_0f7a4 52 = .ok (.if_icmp .le 10, 3) := by decide +kernel
theorem dJ6_numberOfTrailingZeros_0f7a4_55 : decode cJ6_numberOfTrailingZeros_0f7a4 55 = .ok (.iinc 1 4, 3) := by decide +kernel
theorem dJ6_numberOfTrailingZeros_0f7a4_58 : decode cJ6_numberOfTrailingZeros_0f7a4 58 = .ok (.iload_n 0, 1) := by decide +kernel
theorem dJ6_numberOfTrailingZeros_0f7a4_59 : decode cJ6_numberOfTrailingZeros_0f7a4 59 = .ok (.iconst 4, 1) := by decide +kernel
theorem dJ6_numberOfTrailingZeros_0f7a4_6 : decode cJ6_numberOfTrailingZeros_0f7a4 6 = .ok (.iand, 1) := by decide +kernel
theorem dJ6_numberOfTrailingZeros_0f7a4_60 : decode cJ6_numberOfTrailingZeros_0f7a4 60 = .ok (.iushr, 1) := by decide +kernel
theorem dJ6_numberOfTrailingZeros_0f7a4_61 : decode cJ6_numberOfTrailingZeros_0f7a4 61 = .ok (.istore_n 0, 1) := by decide +kernel
theorem dJ6_numberOfTrailingZeros_0f7a4_62 : decode cJ6_numberOfTrailingZeros_0f7a4 62 = .ok (.iload_n 0, 1) := by decide +kernel
theorem dJ6_numberOfTrailingZeros_0f7a4_63 : decode cJ6_numberOfTrailingZeros_0f7a4 63 = .ok (.iconst 4, 1) := by decide +kernel
theorem dJ6_numberOfTrailingZeros_0f7a4_64 : decode cJ6_numberOfTrailingZeros_0f7a4 64 = .ok (.if_icmp .le 10, 3) := by decide +kernel
theorem dJ6_numberOfTrailingZeros_0f7a4_67 : decode cJ6_numberOfTrailingZeros_0f7a4 67 = .ok (.iinc 1 2, 3) := by decide +kernel
theorem dJ6_numberOfTrailingZeros_0f7a4_7 : decode cJ6_numberOfTrailingZeros_0f7a4 7 = .ok (.istore_n 0, 1) := by decide +kernel
theorem dJ6_numberOfTrailingZeros_0f7a4_70 : decode cJ6_numberOfTrailingZeros_0f7a4 70 = .ok (.iload_n 0, 1) := by decide +kernel
theorem dJ6_numberOfTrailingZeros_0f7a4_71 : decode cJ6_numberOfTrailingZeros_0f7a4 71 = .ok (.iconst 2, 1) := by decide +kernel
theorem dJ6_numberOfTrailingZeros_0f7a4_72 : decode cJ6_numberOfTrailingZeros_0f7a4 72 = .ok (.iushr, 1) := by decide +kernel
theorem dJ6_numberOfTrailingZeros_0f7a4_73 : decode cJ6_numberOfTrailingZeros_0f7a4 73 = .ok (.istore_n 0, 1) := by decide +kernel
theorem dJ6_numberOfTrailingZeros_0f7a4_74 : decode cJ6_numberOfTrailingZeros_0f7a4 74 = .ok (.iload_n 1, 1) := by decide +kernel
theorem dJ6_numberOfTrailingZeros_0f7a4_75 : decode cJ6_numberOfTrailingZeros_0f7a4 75 = .ok (.iload_n 0, 1) := by decide +kernel
theorem dJ6_numberOfTrailingZeros_0f7a4_76 : decode cJ6_numberOfTrailingZeros_0f7a4 76 = .ok (.iconst 1, 1) := by decide +kernel
theorem dJ6_numberOfTrailingZeros_0f7a4_77 : decode cJ6_numberOfTrailingZeros_0f7a4 77 = .ok (.iushr, 1) := by decide +kernel
theorem dJ6_numberOfTrailingZeros_0f7a4_78 : decode cJ6_numberOfTrailingZeros_0f7a4 78 = .ok (.iadd, 1) := by decide +kernel
theorem dJ6_numberOfTrailingZeros_0f7a4_79 : decode cJ6_numberOfTrailingZeros_0f7a4 79 = .ok (.ireturn, 1) := by decide +kernel
theorem dJ6_numberOfTrailingZeros_0f7a4_8 : decode cJ6_numberOfTrailingZeros_0f7a4 8 = .ok (.iload_n 0, 1) := by decide +kernel
theorem dJ6_numberOfTrailingZeros_0f7a4_9 : decode cJ6_numberOfTrailingZeros_0f7a4 9 = .ok (.ifCond .gt 8, 3) := by decide +kernel
set_option maxHeartbeats 4000000 in
set_option maxRecDepth 100000 in
theorem k_J6_numberOfTrailingZeros_0f7a4 (l : Launch) (D : va_G) (cI cS : ClassId) (x0 : Int32) : Met l yJ6_numberOfTrailingZeros_0f7a4 wsJ6_numberOfTrailingZeros_0f7a4 ({ frames := 0, cells := 0, slots := 0, locals := 0 }) (PS D cI cS [] [.int x0]) (vp_Si (fun r => Rg 0 33 r ∧ True)) 0 0 (fun _ => False) := by
  refine Met.ofW (cc := cJ6_numberOfTrailingZeros_0f7a4) (maxL := 2) (ret := (some .int)) (by decide) rfl ?_
  intro p e s m args below meth c s₁ B hml hv
  obtain ⟨rfl, hP, hKK⟩ := hv
  have hx := B.exec
  have hb := B.bytes
  have hr := B.returns
  have hts := atoms_spec (ws := wsJ6_numberOfTrailingZeros_0f7a4) B.pre
  have hown : s.vm.findClass RJ6 = some m.cls := findClass_of_methodNamed B.named
  have hlocks := B.notSynchronized
  have hK := hKK.1
  have hl := lv_entry ([.int x0]) (n := 2) (Nat.le_of_ble_eq_true rfl)
  rw [lg_entry_eq]
  generalize (lg_sl ([.int x0]) ++ List.replicate (2 - (lg_sl ([.int x0])).length) Slot.unset).toArray = ls at hl ⊢
  have hl : lv_has ls 2 [(0, .int x0)] := hl
  have ct62 : ∀ (y62_l0 : Int32) (y62_l1 : Int32) (ls : Array Slot), Rg 1 16 y62_l0 → Rg 1 29 y62_l1 → lv_has ls 2 [(0, .int y62_l0), (1, .int y62_l1)] → W p l e (headSpec wsJ6_numberOfTrailingZeros_0f7a4 ({ frames := 0, cells := 0, slots := 0, locals := 0 })).room s m ([.int x0]).toArray below meth c s.heap [] 0 0 (MQ below (vp_Si (fun r => Rg 0 33 r ∧ True)) ([.int x0]).toArray s 0 0 (fun _ => False)) (F0 m 62 ls []) := by
    intro y62_l0 y62_l1 ls g62_l0 g62_l1 hl
    refine lv_iload_n hx hb dJ6_numberOfTrailingZeros_0f7a4_62 rfl (lv_at hl 0 rfl) ?_
    refine lv_iconst (v := 4) hx hb dJ6_numberOfTrailingZeros_0f7a4_63 (by decide) ?_
    refine lv_icmp_le (tgt := 74) hx hb dJ6_numberOfTrailingZeros_0f7a4_64 (by decide) (fun c68 => ?_) (fun c68 => ?_)
    · have g69 : Rg 1 4 y62_l0 := rg_lel g62_l0 (by decide : Rg 4 4 (4 : Int32)) c68 (by decide)
      refine lv_iload_n hx hb dJ6_numberOfTrailingZeros_0f7a4_74 rfl (lv_at hl 1 rfl) ?_
      refine lv_iload_n hx hb dJ6_numberOfTrailingZeros_0f7a4_75 rfl (lv_at hl 0 rfl) ?_
      refine lv_iconst (v := 1) hx hb dJ6_numberOfTrailingZeros_0f7a4_76 (by decide) ?_
      refine wk_iushr 1 (e1 := 0) (f := 2) hx hb dJ6_numberOfTrailingZeros_0f7a4_77 g69 (by decide) (by decide) (fun r70 hr70 => ?_)
      refine wk_iadd (e1 := 1) (f := 31) hx hb dJ6_numberOfTrailingZeros_0f7a4_78 g62_l1 hr70 (by decide) (fun r71 hr71 er71 qr71 => ?_)
      exact W.iret (v := r71) hx hb hr (fun t ht hW => ⟨_, rfl, ⟨(show Rg 0 33 r71 from rg_w hr71 (by decide) (by decide)), trivial⟩, ht⟩) (fun q hq => absurd hq List.not_mem_nil) dJ6_numberOfTrailingZeros_0f7a4_79
    · have g72 : Rg 5 16 y62_l0 := rg_ltr (by decide : Rg 4 4 (4 : Int32)) g62_l0 (rg_nle c68) (by decide)
      refine wk_iinc (lv' := fun r => [(1, .int r), (0, .int y62_l0)]) (e1 := 3) (f := 31) hx hb dJ6_numberOfTrailingZeros_0f7a4_67 hl (k := 1) rfl (by decide) g62_l1 (by decide) (fun _ => rfl) (fun r73 ls hr73 er73 hl => ?_)
      refine lv_iload_n hx hb dJ6_numberOfTrailingZeros_0f7a4_70 rfl (lv_at hl 1 rfl) ?_
      refine lv_iconst (v := 2) hx hb dJ6_numberOfTrailingZeros_0f7a4_71 (by decide) ?_
      refine wk_iushr 2 (e1 := 1) (f := 4) hx hb dJ6_numberOfTrailingZeros_0f7a4_72 g72 (by decide) (by decide) (fun r74 hr74 => ?_)
      refine lv_istore_n (lv' := [(0, .int r74), (1, .int r73)]) hx hb dJ6_numberOfTrailingZeros_0f7a4_73 rfl hl (by decide) rfl (fun ls hl => ?_)
      refine lv_iload_n hx hb dJ6_numberOfTrailingZeros_0f7a4_74 rfl (lv_at hl 1 rfl) ?_
      refine lv_iload_n hx hb dJ6_numberOfTrailingZeros_0f7a4_75 rfl (lv_at hl 0 rfl) ?_
      refine lv_iconst (v := 1) hx hb dJ6_numberOfTrailingZeros_0f7a4_76 (by decide) ?_
      refine wk_iushr 1 (e1 := 0) (f := 2) hx hb dJ6_numberOfTrailingZeros_0f7a4_77 hr74 (by decide) (by decide) (fun r75 hr75 => ?_)
      refine wk_iadd (e1 := 3) (f := 33) hx hb dJ6_numberOfTrailingZeros_0f7a4_78 hr73 hr75 (by decide) (fun r76 hr76 er76 qr76 => ?_)
      exact W.iret (v := r76) hx hb hr (fun t ht hW => ⟨_, rfl, ⟨(show Rg 0 33 r76 from rg_w hr76 (by decide) (by decide)), trivial⟩, ht⟩) (fun q hq => absurd hq List.not_mem_nil) dJ6_numberOfTrailingZeros_0f7a4_79
  have ct34 : ∀ (y34_l0 : Int32) (y34_l1 : Int32) (ls : Array Slot), Rg 1 65536 y34_l0 → Rg 1 17 y34_l1 → lv_has ls 2 [(0, .int y34_l0), (1, .int y34_l1)] → W p l e (headSpec wsJ6_numberOfTrailingZeros_0f7a4 ({ frames := 0, cells := 0, slots := 0, locals := 0 })).room s m ([.int x0]).toArray below meth c s.heap [] 0 0 (MQ below (vp_Si (fun r => Rg 0 33 r ∧ True)) ([.int x0]).toArray s 0 0 (fun _ => False)) (F0 m 34 ls []) := by
    intro y34_l0 y34_l1 ls g34_l0 g34_l1 hl
    refine lv_iload_n hx hb dJ6_numberOfTrailingZeros_0f7a4_34 rfl (lv_at hl 0 rfl) ?_
    refine lv_sipush (v := 256) hx hb dJ6_numberOfTrailingZeros_0f7a4_35 (by decide) ?_
    refine lv_icmp_le (tgt := 49) hx hb dJ6_numberOfTrailingZeros_0f7a4_38 (by decide) (fun c77 => ?_) (fun c77 => ?_)
    · have g78 : Rg 1 256 y34_l0 := rg_lel g34_l0 (by decide : Rg 256 256 (256 : Int32)) c77 (by decide)
      refine lv_iload_n hx hb dJ6_numberOfTrailingZeros_0f7a4_49 rfl (lv_at hl 0 rfl) ?_
      refine lv_bipush (v := 16) hx hb dJ6_numberOfTrailingZeros_0f7a4_50 (by decide) ?_
      refine lv_icmp_le (tgt := 62) hx hb dJ6_numberOfTrailingZeros_0f7a4_52 (by decide) (fun c79 => ?_) (fun c79 => ?_)
      · have g80 : Rg 1 16 y34_l0 := rg_lel g78 (by decide : Rg 16 16 (16 : Int32)) c79 (by decide)
        exact ct62 y34_l0 y34_l1 ls g80 (show Rg 1 29 y34_l1 from rg_w g34_l1 (by decide) (by decide)) (lv_sub (l' := [(0, .int y34_l0), (1, .int y34_l1)]) hl [0, 1] rfl)
      · have g81 : Rg 17 256 y34_l0 := rg_ltr (by decide : Rg 16 16 (16 : Int32)) g78 (rg_nle c79) (by decide)
        refine wk_iinc (lv' := fun r => [(1, .int r), (0, .int y34_l0)]) (e1 := 5) (f := 21) hx hb dJ6_numberOfTrailingZeros_0f7a4_55 hl (k := 1) rfl (by decide) g34_l1 (by decide) (fun _ => rfl) (fun r82 ls hr82 er82 hl => ?_)
        refine lv_iload_n hx hb dJ6_numberOfTrailingZeros_0f7a4_58 rfl (lv_at hl 1 rfl) ?_
        refine lv_iconst (v := 4) hx hb dJ6_numberOfTrailingZeros_0f7a4_59 (by decide) ?_
        refine wk_iushr 4 (e1 := 1) (f := 16) hx hb dJ6_numberOfTrailingZeros_0f7a4_60 g81 (by decide) (by decide) (fun r83 hr83 => ?_)
        refine lv_istore_n (lv' := [(0, .int r83), (1, .int r82)]) hx hb dJ6_numberOfTrailingZeros_0f7a4_61 rfl hl (by decide) rfl (fun ls hl => ?_)
        exact ct62 r83 r82 ls hr83 (show Rg 1 29 r82 from rg_w hr82 (by decide) (by decide)) (lv_sub (l' := [(0, .int r83), (1, .int r82)]) hl [0, 1] rfl)
    · have g84 : Rg 257 65536 y34_l0 := rg_ltr (by decide : Rg 256 256 (256 : Int32)) g34_l0 (rg_nle c77) (by decide)
      refine wk_iinc (lv' := fun r => [(1, .int r), (0, .int y34_l0)]) (e1 := 9) (f := 25) hx hb dJ6_numberOfTrailingZeros_0f7a4_41 hl (k := 1) rfl (by decide) g34_l1 (by decide) (fun _ => rfl) (fun r85 ls hr85 er85 hl => ?_)
      refine lv_iload_n hx hb dJ6_numberOfTrailingZeros_0f7a4_44 rfl (lv_at hl 1 rfl) ?_
      refine lv_bipush (v := 8) hx hb dJ6_numberOfTrailingZeros_0f7a4_45 (by decide) ?_
      refine wk_iushr 8 (e1 := 1) (f := 256) hx hb dJ6_numberOfTrailingZeros_0f7a4_47 g84 (by decide) (by decide) (fun r86 hr86 => ?_)
      refine lv_istore_n (lv' := [(0, .int r86), (1, .int r85)]) hx hb dJ6_numberOfTrailingZeros_0f7a4_48 rfl hl (by decide) rfl (fun ls hl => ?_)
      refine lv_iload_n hx hb dJ6_numberOfTrailingZeros_0f7a4_49 rfl (lv_at hl 0 rfl) ?_
      refine lv_bipush (v := 16) hx hb dJ6_numberOfTrailingZeros_0f7a4_50 (by decide) ?_
      refine lv_icmp_le (tgt := 62) hx hb dJ6_numberOfTrailingZeros_0f7a4_52 (by decide) (fun c87 => ?_) (fun c87 => ?_)
      · have g88 : Rg 1 16 r86 := rg_lel hr86 (by decide : Rg 16 16 (16 : Int32)) c87 (by decide)
        exact ct62 r86 r85 ls g88 (show Rg 1 29 r85 from rg_w hr85 (by decide) (by decide)) (lv_sub (l' := [(0, .int r86), (1, .int r85)]) hl [0, 1] rfl)
      · have g89 : Rg 17 256 r86 := rg_ltr (by decide : Rg 16 16 (16 : Int32)) hr86 (rg_nle c87) (by decide)
        refine wk_iinc (lv' := fun r => [(1, .int r), (0, .int r86)]) (e1 := 13) (f := 29) hx hb dJ6_numberOfTrailingZeros_0f7a4_55 hl (k := 1) rfl (by decide) hr85 (by decide) (fun _ => rfl) (fun r90 ls hr90 er90 hl => ?_)
        refine lv_iload_n hx hb dJ6_numberOfTrailingZeros_0f7a4_58 rfl (lv_at hl 1 rfl) ?_
        refine lv_iconst (v := 4) hx hb dJ6_numberOfTrailingZeros_0f7a4_59 (by decide) ?_
        refine wk_iushr 4 (e1 := 1) (f := 16) hx hb dJ6_numberOfTrailingZeros_0f7a4_60 g89 (by decide) (by decide) (fun r91 hr91 => ?_)
        refine lv_istore_n (lv' := [(0, .int r91), (1, .int r90)]) hx hb dJ6_numberOfTrailingZeros_0f7a4_61 rfl hl (by decide) rfl (fun ls hl => ?_)
        exact ct62 r91 r90 ls hr91 (show Rg 1 29 r90 from rg_w hr90 (by decide) (by decide)) (lv_sub (l' := [(0, .int r91), (1, .int r90)]) hl [0, 1] rfl)
  refine lv_iload_n hx hb dJ6_numberOfTrailingZeros_0f7a4_0 rfl (lv_at hl 0 rfl) ?_
  refine lv_iconst (v := (-1)) hx hb dJ6_numberOfTrailingZeros_0f7a4_1 (by decide) ?_
  refine lv_ixor hx hb dJ6_numberOfTrailingZeros_0f7a4_2 ?_
  refine wk_topP (P := fun r => r = x0 ^^^ ((-1) : Int32)) rfl (fun r92 qr92 => ?_)
  refine lv_iload_n hx hb dJ6_numberOfTrailingZeros_0f7a4_3 rfl (lv_at hl 0 rfl) ?_
  refine lv_iconst (v := 1) hx hb dJ6_numberOfTrailingZeros_0f7a4_4 (by decide) ?_
  refine lv_isub hx hb dJ6_numberOfTrailingZeros_0f7a4_5 ?_
  refine wk_topP (P := fun r => r = x0 - (1 : Int32)) rfl (fun r93 qr93 => ?_)
  refine lv_iand hx hb dJ6_numberOfTrailingZeros_0f7a4_6 ?_
  refine wk_topP (P := fun r => r = r92 &&& r93) rfl (fun r94 qr94 => ?_)
  refine lv_istore_n (lv' := [(0, .int r94)]) hx hb dJ6_numberOfTrailingZeros_0f7a4_7 rfl hl (by decide) rfl (fun ls hl => ?_)
  refine lv_iload_n hx hb dJ6_numberOfTrailingZeros_0f7a4_8 rfl (lv_at hl 0 rfl) ?_
  refine lv_if_gt (tgt := 17) hx hb dJ6_numberOfTrailingZeros_0f7a4_9 (by decide) (fun c95 => ?_) (fun c95 => ?_)
  · have g96 : Rg 1 2147483647 r94 := rg_ltr (by decide : Rg 0 0 (0 : Int32)) (rg_any r94) c95 (by decide)
    refine lv_iconst (v := 1) hx hb dJ6_numberOfTrailingZeros_0f7a4_17 (by decide) ?_
    refine lv_istore_n (lv' := [(1, .int 1), (0, .int r94)]) hx hb dJ6_numberOfTrailingZeros_0f7a4_18 rfl hl (by decide) rfl (fun ls hl => ?_)
    refine lv_iload_n hx hb dJ6_numberOfTrailingZeros_0f7a4_19 rfl (lv_at hl 1 rfl) ?_
    refine lv_ldcw hx hb hown (hts (.constant RJ6 264 (65536)) (by decide +kernel)) dJ6_numberOfTrailingZeros_0f7a4_20 ?_
    refine lv_icmp_le (tgt := 34) hx hb dJ6_numberOfTrailingZeros_0f7a4_23 (by decide) (fun c97 => ?_) (fun c97 => ?_)
    · have g98 : Rg 1 65536 r94 := rg_lel g96 (by decide : Rg 65536 65536 (65536 : Int32)) c97 (by decide)
      exact ct34 r94 (1 : Int32) ls g98 (by decide : Rg 1 17 (1 : Int32)) (lv_sub (l' := [(0, .int r94), (1, .int 1)]) hl [1, 0] rfl)
    · have g99 : Rg 65537 2147483647 r94 := rg_ltr (by decide : Rg 65536 65536 (65536 : Int32)) g96 (rg_nle c97) (by decide)
      refine wk_iinc (lv' := fun r => [(1, .int r), (0, .int r94)]) (e1 := 17) (f := 17) hx hb dJ6_numberOfTrailingZeros_0f7a4_26 hl (k := 0) rfl (by decide) (by decide : Rg 1 1 (1 : Int32)) (by decide) (fun _ => rfl) (fun r100 ls hr100 er100 hl => ?_)
      refine lv_iload_n hx hb dJ6_numberOfTrailingZeros_0f7a4_29 rfl (lv_at hl 1 rfl) ?_
      refine lv_bipush (v := 16) hx hb dJ6_numberOfTrailingZeros_0f7a4_30 (by decide) ?_
      refine wk_iushr 16 (e1 := 1) (f := 32767) hx hb dJ6_numberOfTrailingZeros_0f7a4_32 g99 (by decide) (by decide) (fun r101 hr101 => ?_)
      refine lv_istore_n (lv' := [(0, .int r101), (1, .int r100)]) hx hb dJ6_numberOfTrailingZeros_0f7a4_33 rfl hl (by decide) rfl (fun ls hl => ?_)
      exact ct34 r101 r100 ls (show Rg 1 65536 r101 from rg_w hr101 (by decide) (by decide)) (show Rg 1 17 r100 from rg_w hr100 (by decide) (by decide)) (lv_sub (l' := [(0, .int r101), (1, .int r100)]) hl [0, 1] rfl)
  · have g102 : Rg (-2147483648) 0 r94 := rg_lel (rg_any r94) (by decide : Rg 0 0 (0 : Int32)) (rg_nlt c95) (by decide)
    refine lv_iload_n hx hb dJ6_numberOfTrailingZeros_0f7a4_12 rfl (lv_at hl 0 rfl) ?_
    refine lv_bipush (v := 32) hx hb dJ6_numberOfTrailingZeros_0f7a4_13 (by decide) ?_
    refine wk_iandr hx hb dJ6_numberOfTrailingZeros_0f7a4_15 (by decide : Rg 32 32 (32 : Int32)) (by decide) (fun r103 hr103 qr103 => ?_)
    exact W.iret (v := r103) hx hb hr (fun t ht hW => ⟨_, rfl, ⟨(show Rg 0 33 r103 from rg_w hr103 (by decide) (by decide)), trivial⟩, ht⟩) (fun q hq => absurd hq List.not_mem_nil) dJ6_numberOfTrailingZeros_0f7a4_16
set_option maxHeartbeats 4000000 in
set_option maxRecDepth 100000 in
theorem k_J6_numberOfLeadingZeros_0f7a4 (l : Launch) (D : va_G) (cI cS : ClassId) (x0 : Int32) : Met l yJ6_numberOfLeadingZeros_0f7a4 wsJ6_numberOfLeadingZeros_0f7a4 ({ frames := 0, cells := 0, slots := 0, locals := 0 }) (PS D cI cS [] [.int x0]) (vp_Si (fun r => Rg 0 32 r ∧ (¬ x0 = 0 → Rg 0 31 r))) 0 0 (fun _ => False) := by
  refine Met.ofW (cc := cJ6_numberOfLeadingZeros_0f7a4) (maxL := 2) (ret := (some .int)) (by decide) rfl ?_
  intro p e s m args below meth c s₁ B hml hv
  obtain ⟨rfl, hP, hKK⟩ := hv
  have hx := B.exec
  have hb := B.bytes
  have hr := B.returns
  have hts := atoms_spec (ws := wsJ6_numberOfLeadingZeros_0f7a4) B.pre
  have hown : s.vm.findClass RJ6 = some m.cls := findClass_of_methodNamed B.named
  have hlocks := B.notSynchronized
  have hK := hKK.1
  have hl := lv_entry ([.int x0]) (n := 2) (Nat.le_of_ble_eq_true rfl)
  rw [lg_entry_eq]
  generalize (lg_sl ([.int x0]) ++ List.replicate (2 - (lg_sl ([.int x0])).length) Slot.unset).toArray = ls at hl ⊢
  have hl : lv_has ls 2 [(0, .int x0)] := hl
  have ct61 : ∀ (y61_l0 : Int32) (y61_l1 : Int32) (ls : Array Slot), Rg 1 15 y61_l0 → Rg 3 31 y61_l1 → lv_has ls 2 [(0, .int y61_l0), (1, .int y61_l1)] → W p l e (headSpec wsJ6_numberOfLeadingZeros_0f7a4 ({ frames := 0, cells := 0, slots := 0, locals := 0 })).room s m ([.int x0]).toArray below meth c s.heap [] 0 0 (MQ below (vp_Si (fun r => Rg 0 32 r ∧ (¬ x0 = 0 → Rg 0 31 r))) ([.int x0]).toArray s 0 0 (fun _ => False)) (F0 m 61 ls []) := by
    intro y61_l0 y61_l1 ls g61_l0 g61_l1 hl
    refine lv_iload_n hx hb dJ6_numberOfLeadingZeros_0f7a4_61 rfl (lv_at hl 0 rfl) ?_
    refine lv_iconst (v := 4) hx hb dJ6_numberOfLeadingZeros_0f7a4_62 (by decide) ?_
    refine lv_icmp_lt (tgt := 73) hx hb dJ6_numberOfLeadingZeros_0f7a4_63 (by decide) (fun c165 => ?_) (fun c165 => ?_)
    · have g166 : Rg 1 3 y61_l0 := rg_ltl g61_l0 (by decide : Rg 4 4 (4 : Int32)) c165 (by decide)
      refine lv_iload_n hx hb dJ6_numberOfLeadingZeros_0f7a4_73 rfl (lv_at hl 1 rfl) ?_
      refine lv_iload_n hx hb dJ6_numberOfLeadingZeros_0f7a4_74 rfl (lv_at hl 0 rfl) ?_
      refine lv_iconst (v := 1) hx hb dJ6_numberOfLeadingZeros_0f7a4_75 (by decide) ?_
      refine wk_iushr 1 (e1 := 0) (f := 1) hx hb dJ6_numberOfLeadingZeros_0f7a4_76 g166 (by decide) (by decide) (fun r167 hr167 => ?_)
      refine wk_isub (e1 := 2) (f := 31) hx hb dJ6_numberOfLeadingZeros_0f7a4_77 g61_l1 hr167 (by decide) (fun r168 hr168 er168 qr168 => ?_)
      exact W.iret (v := r168) hx hb hr (fun t ht hW => ⟨_, rfl, ⟨(show Rg 0 32 r168 from rg_w hr168 (by decide) (by decide)), fun _ => (show Rg 0 31 r168 from rg_w hr168 (by decide) (by decide))⟩, ht⟩) (fun q hq => absurd hq List.not_mem_nil) dJ6_numberOfLeadingZeros_0f7a4_78
    · have g169 : Rg 4 15 y61_l0 := rg_ler (by decide : Rg 4 4 (4 : Int32)) g61_l0 (rg_nlt c165) (by decide)
      refine wk_iinc (lv' := fun r => [(1, .int r), (0, .int y61_l0)]) (e1 := 1) (f := 29) hx hb dJ6_numberOfLeadingZeros_0f7a4_66 hl (k := 1) rfl (by decide) g61_l1 (by decide) (fun _ => rfl) (fun r170 ls hr170 er170 hl => ?_)
      refine lv_iload_n hx hb dJ6_numberOfLeadingZeros_0f7a4_69 rfl (lv_at hl 1 rfl) ?_
      refine lv_iconst (v := 2) hx hb dJ6_numberOfLeadingZeros_0f7a4_70 (by decide) ?_
      refine wk_iushr 2 (e1 := 1) (f := 3) hx hb dJ6_numberOfLeadingZeros_0f7a4_71 g169 (by decide) (by decide) (fun r171 hr171 => ?_)
      refine lv_istore_n (lv' := [(0, .int r171), (1, .int r170)]) hx hb dJ6_numberOfLeadingZeros_0f7a4_72 rfl hl (by decide) rfl (fun ls hl => ?_)
      refine lv_iload_n hx hb dJ6_numberOfLeadingZeros_0f7a4_73 rfl (lv_at hl 1 rfl) ?_
      refine lv_iload_n hx hb dJ6_numberOfLeadingZeros_0f7a4_74 rfl (lv_at hl 0 rfl) ?_
      refine lv_iconst (v := 1) hx hb dJ6_numberOfLeadingZeros_0f7a4_75 (by decide) ?_
      refine wk_iushr 1 (e1 := 0) (f := 1) hx hb dJ6_numberOfLeadingZeros_0f7a4_76 hr171 (by decide) (by decide) (fun r172 hr172 => ?_)
      refine wk_isub (e1 := 0) (f := 29) hx hb dJ6_numberOfLeadingZeros_0f7a4_77 hr170 hr172 (by decide) (fun r173 hr173 er173 qr173 => ?_)
      exact W.iret (v := r173) hx hb hr (fun t ht hW => ⟨_, rfl, ⟨(show Rg 0 32 r173 from rg_w hr173 (by decide) (by decide)), fun _ => (show Rg 0 31 r173 from rg_w hr173 (by decide) (by decide))⟩, ht⟩) (fun q hq => absurd hq List.not_mem_nil) dJ6_numberOfLeadingZeros_0f7a4_78
  have ct33 : ∀ (y33_l0 : Int32) (y33_l1 : Int32) (ls : Array Slot), Rg 1 65535 y33_l0 → Rg 15 31 y33_l1 → lv_has ls 2 [(0, .int y33_l0), (1, .int y33_l1)] → W p l e (headSpec wsJ6_numberOfLeadingZeros_0f7a4 ({ frames := 0, cells := 0, slots := 0, locals := 0 })).room s m ([.int x0]).toArray below meth c s.heap [] 0 0 (MQ below (vp_Si (fun r => Rg 0 32 r ∧ (¬ x0 = 0 → Rg 0 31 r))) ([.int x0]).toArray s 0 0 (fun _ => False)) (F0 m 33 ls []) := by
    intro y33_l0 y33_l1 ls g33_l0 g33_l1 hl
    refine lv_iload_n hx hb dJ6_numberOfLeadingZeros_0f7a4_33 rfl (lv_at hl 0 rfl) ?_
    refine lv_sipush (v := 256) hx hb dJ6_numberOfLeadingZeros_0f7a4_34 (by decide) ?_
    refine lv_icmp_lt (tgt := 48) hx hb dJ6_numberOfLeadingZeros_0f7a4_37 (by decide) (fun c174 => ?_) (fun c174 => ?_)
    · have g175 : Rg 1 255 y33_l0 := rg_ltl g33_l0 (by decide : Rg 256 256 (256 : Int32)) c174 (by decide)
      refine lv_iload_n hx hb dJ6_numberOfLeadingZeros_0f7a4_48 rfl (lv_at hl 0 rfl) ?_
      refine lv_bipush (v := 16) hx hb dJ6_numberOfLeadingZeros_0f7a4_49 (by decide) ?_
      refine lv_icmp_lt (tgt := 61) hx hb dJ6_numberOfLeadingZeros_0f7a4_51 (by decide) (fun c176 => ?_) (fun c176 => ?_)
      · have g177 : Rg 1 15 y33_l0 := rg_ltl g175 (by decide : Rg 16 16 (16 : Int32)) c176 (by decide)
        exact ct61 y33_l0 y33_l1 ls g177 (show Rg 3 31 y33_l1 from rg_w g33_l1 (by decide) (by decide)) (lv_sub (l' := [(0, .int y33_l0), (1, .int y33_l1)]) hl [0, 1] rfl)
      · have g178 : Rg 16 255 y33_l0 := rg_ler (by decide : Rg 16 16 (16 : Int32)) g175 (rg_nlt c176) (by decide)
        refine wk_iinc (lv' := fun r => [(1, .int r), (0, .int y33_l0)]) (e1 := 11) (f := 27) hx hb dJ6_numberOfLeadingZeros_0f7a4_54 hl (k := 1) rfl (by decide) g33_l1 (by decide) (fun _ => rfl) (fun r179 ls hr179 er179 hl => ?_)
        refine lv_iload_n hx hb dJ6_numberOfLeadingZeros_0f7a4_57 rfl (lv_at hl 1 rfl) ?_
        refine lv_iconst (v := 4) hx hb dJ6_numberOfLeadingZeros_0f7a4_58 (by decide) ?_
        refine wk_iushr 4 (e1 := 1) (f := 15) hx hb dJ6_numberOfLeadingZeros_0f7a4_59 g178 (by decide) (by decide) (fun r180 hr180 => ?_)
        refine lv_istore_n (lv' := [(0, .int r180), (1, .int r179)]) hx hb dJ6_numberOfLeadingZeros_0f7a4_60 rfl hl (by decide) rfl (fun ls hl => ?_)
        exact ct61 r180 r179 ls hr180 (show Rg 3 31 r179 from rg_w hr179 (by decide) (by decide)) (lv_sub (l' := [(0, .int r180), (1, .int r179)]) hl [0, 1] rfl)
    · have g181 : Rg 256 65535 y33_l0 := rg_ler (by decide : Rg 256 256 (256 : Int32)) g33_l0 (rg_nlt c174) (by decide)
      refine wk_iinc (lv' := fun r => [(1, .int r), (0, .int y33_l0)]) (e1 := 7) (f := 23) hx hb dJ6_numberOfLeadingZeros_0f7a4_40 hl (k := 1) rfl (by decide) g33_l1 (by decide) (fun _ => rfl) (fun r182 ls hr182 er182 hl => ?_)
      refine lv_iload_n hx hb dJ6_numberOfLeadingZeros_0f7a4_43 rfl (lv_at hl 1 rfl) ?_
      refine lv_bipush (v := 8) hx hb dJ6_numberOfLeadingZeros_0f7a4_44 (by decide) ?_
      refine wk_iushr 8 (e1 := 1) (f := 255) hx hb dJ6_numberOfLeadingZeros_0f7a4_46 g181 (by decide) (by decide) (fun r183 hr183 => ?_)
      refine lv_istore_n (lv' := [(0, .int r183), (1, .int r182)]) hx hb dJ6_numberOfLeadingZeros_0f7a4_47 rfl hl (by decide) rfl (fun ls hl => ?_)
      refine lv_iload_n hx hb dJ6_numberOfLeadingZeros_0f7a4_48 rfl (lv_at hl 0 rfl) ?_
      refine lv_bipush (v := 16) hx hb dJ6_numberOfLeadingZeros_0f7a4_49 (by decide) ?_
      refine lv_icmp_lt (tgt := 61) hx hb dJ6_numberOfLeadingZeros_0f7a4_51 (by decide) (fun c184 => ?_) (fun c184 => ?_)
      · have g185 : Rg 1 15 r183 := rg_ltl hr183 (by decide : Rg 16 16 (16 : Int32)) c184 (by decide)
        exact ct61 r183 r182 ls g185 (show Rg 3 31 r182 from rg_w hr182 (by decide) (by decide)) (lv_sub (l' := [(0, .int r183), (1, .int r182)]) hl [0, 1] rfl)
      · have g186 : Rg 16 255 r183 := rg_ler (by decide : Rg 16 16 (16 : Int32)) hr183 (rg_nlt c184) (by decide)
        refine wk_iinc (lv' := fun r => [(1, .int r), (0, .int r183)]) (e1 := 3) (f := 19) hx hb dJ6_numberOfLeadingZeros_0f7a4_54 hl (k := 1) rfl (by decide) hr182 (by decide) (fun _ => rfl) (fun r187 ls hr187 er187 hl => ?_)
        refine lv_iload_n hx hb dJ6_numberOfLeadingZeros_0f7a4_57 rfl (lv_at hl 1 rfl) ?_
        refine lv_iconst (v := 4) hx hb dJ6_numberOfLeadingZeros_0f7a4_58 (by decide) ?_
        refine wk_iushr 4 (e1 := 1) (f := 15) hx hb dJ6_numberOfLeadingZeros_0f7a4_59 g186 (by decide) (by decide) (fun r188 hr188 => ?_)
        refine lv_istore_n (lv' := [(0, .int r188), (1, .int r187)]) hx hb dJ6_numberOfLeadingZeros_0f7a4_60 rfl hl (by decide) rfl (fun ls hl => ?_)
        exact ct61 r188 r187 ls hr188 (show Rg 3 31 r187 from rg_w hr187 (by decide) (by decide)) (lv_sub (l' := [(0, .int r188), (1, .int r187)]) hl [0, 1] rfl)
  refine lv_iload_n hx hb dJ6_numberOfLeadingZeros_0f7a4_0 rfl (lv_at hl 0 rfl) ?_
  refine lv_if_gt (tgt := 15) hx hb dJ6_numberOfLeadingZeros_0f7a4_1 (by decide) (fun c189 => ?_) (fun c189 => ?_)
  · have g190 : Rg 1 2147483647 x0 := rg_ltr (by decide : Rg 0 0 (0 : Int32)) (rg_any x0) c189 (by decide)
    refine lv_bipush (v := 31) hx hb dJ6_numberOfLeadingZeros_0f7a4_15 (by decide) ?_
    refine lv_istore_n (lv' := [(1, .int 31), (0, .int x0)]) hx hb dJ6_numberOfLeadingZeros_0f7a4_17 rfl hl (by decide) rfl (fun ls hl => ?_)
    refine lv_iload_n hx hb dJ6_numberOfLeadingZeros_0f7a4_18 rfl (lv_at hl 1 rfl) ?_
    refine lv_ldcw hx hb hown (hts (.constant RJ6 264 (65536)) (by decide +kernel)) dJ6_numberOfLeadingZeros_0f7a4_19 ?_
    refine lv_icmp_lt (tgt := 33) hx hb dJ6_numberOfLeadingZeros_0f7a4_22 (by decide) (fun c191 => ?_) (fun c191 => ?_)
    · have g192 : Rg 1 65535 x0 := rg_ltl g190 (by decide : Rg 65536 65536 (65536 : Int32)) c191 (by decide)
      exact ct33 x0 (31 : Int32) ls g192 (by decide : Rg 15 31 (31 : Int32)) (lv_sub (l' := [(0, .int x0), (1, .int 31)]) hl [1, 0] rfl)
    · have g193 : Rg 65536 2147483647 x0 := rg_ler (by decide : Rg 65536 65536 (65536 : Int32)) g190 (rg_nlt c191) (by decide)
      refine wk_iinc (lv' := fun r => [(1, .int r), (0, .int x0)]) (e1 := 15) (f := 15) hx hb dJ6_numberOfLeadingZeros_0f7a4_25 hl (k := 0) rfl (by decide) (by decide : Rg 31 31 (31 : Int32)) (by decide) (fun _ => rfl) (fun r194 ls hr194 er194 hl => ?_)
      refine lv_iload_n hx hb dJ6_numberOfLeadingZeros_0f7a4_28 rfl (lv_at hl 1 rfl) ?_
      refine lv_bipush (v := 16) hx hb dJ6_numberOfLeadingZeros_0f7a4_29 (by decide) ?_
      refine wk_iushr 16 (e1 := 1) (f := 32767) hx hb dJ6_numberOfLeadingZeros_0f7a4_31 g193 (by decide) (by decide) (fun r195 hr195 => ?_)
      refine lv_istore_n (lv' := [(0, .int r195), (1, .int r194)]) hx hb dJ6_numberOfLeadingZeros_0f7a4_32 rfl hl (by decide) rfl (fun ls hl => ?_)
      exact ct33 r195 r194 ls (show Rg 1 65535 r195 from rg_w hr195 (by decide) (by decide)) (show Rg 15 31 r194 from rg_w hr194 (by decide) (by decide)) (lv_sub (l' := [(0, .int r195), (1, .int r194)]) hl [0, 1] rfl)
  · have g196 : Rg (-2147483648) 0 x0 := rg_lel (rg_any x0) (by decide : Rg 0 0 (0 : Int32)) (rg_nlt c189) (by decide)
    refine lv_iload_n hx hb dJ6_numberOfLeadingZeros_0f7a4_4 rfl (lv_at hl 0 rfl) ?_
    refine lv_if_ne (tgt := 13) hx hb dJ6_numberOfLeadingZeros_0f7a4_5 (by decide) (fun c197 => ?_) (fun c197 => ?_)
    · have g198 : Rg (-2147483648) (-1) x0 := rg_ne_hi (k := 0) g196 (by decide) c197 (by decide)
      refine lv_iconst (v := 0) hx hb dJ6_numberOfLeadingZeros_0f7a4_13 (by decide) ?_
      exact W.iret (v := 0) hx hb hr (fun t ht hW => ⟨_, rfl, ⟨(by decide : Rg 0 32 (0 : Int32)), fun _ => (by decide : Rg 0 31 (0 : Int32))⟩, ht⟩) (fun q hq => absurd hq List.not_mem_nil) dJ6_numberOfLeadingZeros_0f7a4_14
    · have g199 : Rg 0 0 x0 := wk_eql g196 (by decide : Rg 0 0 (0 : Int32)) c197 (by decide)
      refine lv_bipush (v := 32) hx hb dJ6_numberOfLeadingZeros_0f7a4_8 (by decide) ?_
      refine lv_goto (tgt := 14) hx hb dJ6_numberOfLeadingZeros_0f7a4_10 (by decide) ?_
      exact W.iret (v := 32) hx hb hr (fun t ht hW => ⟨_, rfl, ⟨(by decide : Rg 0 32 (32 : Int32)), fun h9 => absurd c197 h9⟩, ht⟩) (fun q hq => absurd hq List.not_mem_nil) dJ6_numberOfLeadingZeros_0f7a4_14
set_option maxHeartbeats 4000000 in
set_option maxRecDepth 100000 in
theorem k_X2_all (l : Launch) (D : va_G) (cI cS : ClassId) (a : Nat → Nat) (na nc N : Nat) (L u : SU) (hL : TyX L) (hN : N = 0 ∨ N = 24576) : Met l yX2_all wsX2_all ({ frames := 0, cells := 0, slots := 0, locals := 0 }) (PS D cI cS (wX cI cS a na nc N L u) [.ref (a 1)]) (vp_Si (fun r => Rg 0 4095 r ∧ True)) 0 0 (fun _ => False) := by
  refine Met.ofW (cc := cX2_all) (maxL := 1) (ret := (some .int)) (by decide) rfl ?_
  intro p e s m args below meth c s₁ B hml hv
  obtain ⟨rfl, hP, hKK⟩ := hv
  have hx := B.exec
  have hb := B.bytes
  have hr := B.returns
  have hts := atoms_spec (ws := wsX2_all) B.pre
  have hown : s.vm.findClass RX2 = some m.cls := findClass_of_methodNamed B.named
  have hlocks := B.notSynchronized
  have hK := hKK.1
  have hin2 : ∀ w ∈ wsX20, w ∈ wsX2_all := by decide +kernel
  have hl := lv_entry ([.ref (a 1)]) (n := 1) (Nat.le_of_ble_eq_true rfl)
  rw [lg_entry_eq]
  generalize (lg_sl ([.ref (a 1)]) ++ List.replicate (1 - (lg_sl ([.ref (a 1)])).length) Slot.unset).toArray = ls at hl ⊢
  have hl : lv_has ls 1 [(0, .ref (a 1))] := hl
  refine lv_iconst (v := 1) hx hb dX2_all_0 (by decide) ?_
  refine lv_aload_n hx hb dX2_all_1 rfl (lv_at hl 0 rfl) ?_
  refine va_get (D := D) (ci := 2) (v := .int (L 1 1)) (C := RX2) (T := TX2) (N := 3) hx hb hts hin2 hown hK hP 1 rfl rfl 1 (by decide) (hts (.fieldLink RX2 15 "MissedPoints$Net" "size" "I") (by decide +kernel)) (fun _ h9 => h9) rfl dX2_all_2 ?_
  refine wk_ishl1 (f := 4096) hx hb dX2_all_5 hL.1 (by decide) (fun r202 hr202 qr202 => ?_)
  refine lv_iconst (v := 1) hx hb dX2_all_6 (by decide) ?_
  refine wk_isub (e1 := 0) (f := 4095) hx hb dX2_all_7 hr202 (by decide : Rg 1 1 (1 : Int32)) (by decide) (fun r203 hr203 er203 qr203 => ?_)
  exact W.iret (v := r203) hx hb hr (fun t ht hW => ⟨_, rfl, ⟨hr203, trivial⟩, ht⟩) (fun q hq => absurd hq List.not_mem_nil) dX2_all_8
set_option maxHeartbeats 4000000 in
set_option maxRecDepth 100000 in
theorem k_X2_hasPoint (l : Launch) (D : va_G) (cI cS : ClassId) (a : Nat → Nat) (na nc N : Nat) (L u : SU) (hL : TyX L) (hN : N = 0 ∨ N = 24576) (x0 : Int32) : Met l yX2_hasPoint wsX2_hasPoint ({ frames := 0, cells := 0, slots := 0, locals := 0 }) (PS D cI cS (wX cI cS a na nc N L u) [.ref (a 1), .int x0]) (vp_Si (fun r => Rg 0 1 r ∧ (r ≠ 0 → Rg 0 11 x0))) 0 0 (fun _ => False) := by
  refine Met.ofW (cc := cX2_hasPoint) (maxL := 2) (ret := (some .boolean)) (by decide) rfl ?_
  intro p e s m args below meth c s₁ B hml hv
  obtain ⟨rfl, hP, hKK⟩ := hv
  have hx := B.exec
  have hb := B.bytes
  have hr := B.returns
  have hts := atoms_spec (ws := wsX2_hasPoint) B.pre
  have hown : s.vm.findClass RX2 = some m.cls := findClass_of_methodNamed B.named
  have hlocks := B.notSynchronized
  have hK := hKK.1
  have hin2 : ∀ w ∈ wsX20, w ∈ wsX2_hasPoint := by decide +kernel
  have hl := lv_entry ([.ref (a 1), .int x0]) (n := 2) (Nat.le_of_ble_eq_true rfl)
  rw [lg_entry_eq]
  generalize (lg_sl ([.ref (a 1), .int x0]) ++ List.replicate (2 - (lg_sl ([.ref (a 1), .int x0])).length) Slot.unset).toArray = ls at hl ⊢
  have hl : lv_has ls 2 [(0, .ref (a 1)), (1, .int x0)] := hl
  refine lv_iload_n hx hb dX2_hasPoint_0 rfl (lv_at hl 1 rfl) ?_
  refine lv_if_lt (tgt := 16) hx hb dX2_hasPoint_1 (by decide) (fun c210 => ?_) (fun c210 => ?_)
  · have g211 : Rg (-2147483648) (-1) x0 := rg_ltl (rg_any x0) (by decide : Rg 0 0 (0 : Int32)) c210 (by decide)
    refine lv_iconst (v := 0) hx hb dX2_hasPoint_16 (by decide) ?_
    exact W.zret (v := 0) hx hb hr (by decide) (fun t ht hW => ⟨_, rfl, ⟨(by decide : Rg 0 1 (0 : Int32)), fun h9 => absurd rfl h9⟩, ht⟩) (fun q hq => absurd hq List.not_mem_nil) dX2_hasPoint_17
  · have g212 : Rg 0 2147483647 x0 := rg_ler (by decide : Rg 0 0 (0 : Int32)) (rg_any x0) (rg_nlt c210) (by decide)
    refine lv_iload_n hx hb dX2_hasPoint_4 rfl (lv_at hl 1 rfl) ?_
    refine lv_aload_n hx hb dX2_hasPoint_5 rfl (lv_at hl 0 rfl) ?_
    refine va_get (D := D) (ci := 2) (v := .int (L 1 1)) (C := RX2) (T := TX2) (N := 3) hx hb hts hin2 hown hK hP 1 rfl rfl 1 (by decide) (hts (.fieldLink RX2 15 "MissedPoints$Net" "size" "I") (by decide +kernel)) (fun _ h9 => h9) rfl dX2_hasPoint_6 ?_
    refine lv_icmp_ge (tgt := 16) hx hb dX2_hasPoint_9 (by decide) (fun c213 => ?_) (fun c213 => ?_)
    · refine lv_iconst (v := 0) hx hb dX2_hasPoint_16 (by decide) ?_
      exact W.zret (v := 0) hx hb hr (by decide) (fun t ht hW => ⟨_, rfl, ⟨(by decide : Rg 0 1 (0 : Int32)), fun h9 => absurd rfl h9⟩, ht⟩) (fun q hq => absurd hq List.not_mem_nil) dX2_hasPoint_17
    · have g214 : Rg 1 12 (L 1 1) := rg_ltr g212 hL.1 (rg_nle c213) (by decide)
      have g215 : Rg 0 11 x0 := rg_ltl g212 hL.1 (rg_nle c213) (by decide)
      refine lv_iconst (v := 1) hx hb dX2_hasPoint_12 (by decide) ?_
      refine lv_goto (tgt := 17) hx hb dX2_hasPoint_13 (by decide) ?_
      exact W.zret (v := 1) hx hb hr (by decide) (fun t ht hW => ⟨_, rfl, ⟨(by decide : Rg 0 1 (1 : Int32)), fun _ => g215⟩, ht⟩) (fun q hq => absurd hq List.not_mem_nil) dX2_hasPoint_17
set_option maxHeartbeats 4000000 in
set_option maxRecDepth 100000 in
theorem k_X2_hasAll (l : Launch) (D : va_G) (cI cS : ClassId) (a : Nat → Nat) (na nc N : Nat) (L u : SU) (hL : TyX L) (hN : N = 0 ∨ N = 24576) (x0 : Int32) : Met l yX2_hasAll wsX2_hasAll ({ frames := 1, cells := 0, slots := 0, locals := 40 }) (PS D cI cS (wX cI cS a na nc N L u) [.ref (a 1), .int x0]) (vp_Si (fun r => Rg 0 1 r ∧ (r ≠ 0 → Rg 0 4095 x0))) 0 0 (fun _ => False) := by
  refine Met.ofW (cc := cX2_hasAll) (maxL := 2) (ret := (some .boolean)) (by decide) rfl ?_
  intro p e s m args below meth c s₁ B hml hv
  obtain ⟨rfl, hP, hKK⟩ := hv
  have hx := B.exec
  have hb := B.bytes
  have hr := B.returns
  have hts := atoms_spec (ws := wsX2_hasAll) B.pre
  have hown : s.vm.findClass RX2 = some m.cls := findClass_of_methodNamed B.named
  have hlocks := B.notSynchronized
  have hK := hKK.1
  have hl := lv_entry ([.ref (a 1), .int x0]) (n := 2) (Nat.le_of_ble_eq_true rfl)
  rw [lg_entry_eq]
  generalize (lg_sl ([.ref (a 1), .int x0]) ++ List.replicate (2 - (lg_sl ([.ref (a 1), .int x0])).length) Slot.unset).toArray = ls at hl ⊢
  have hl : lv_has ls 2 [(0, .ref (a 1)), (1, .int x0)] := hl
  refine lv_iload_n hx hb dX2_hasAll_0 rfl (lv_at hl 1 rfl) ?_
  refine lv_aload_n hx hb dX2_hasAll_1 rfl (lv_at hl 0 rfl) ?_
  refine wk_sv 1 (As := []) (rest := [.int x0]) ⟨hx, hb, hml, hown, hts⟩ (k_X2_all l D cI cS a na nc N L u hL hN) hKK hP (ci := 2) rfl rfl (cwV 0 hts gX2_hasAll_X2_all rfl rfl rfl (by decide +kernel) ⟨Nat.le_of_ble_eq_true rfl, Nat.le_of_ble_eq_true rfl⟩) rfl hl.1 rfl (Nat.le_of_ble_eq_true rfl) dX2_hasAll_2 ⟨Nat.le_of_ble_eq_true rfl, Nat.le_of_ble_eq_true rfl⟩ (fun r222 hr222 => ?_)
  refine lv_iconst (v := (-1)) hx hb dX2_hasAll_5 (by decide) ?_
  refine lv_ixor hx hb dX2_hasAll_6 ?_
  refine wk_topP (P := fun r => r = r222 ^^^ ((-1) : Int32)) rfl (fun r223 qr223 => ?_)
  refine lv_iand hx hb dX2_hasAll_7 ?_
  refine wk_topP (P := fun r => r = x0 &&& r223) rfl (fun r224 qr224 => ?_)
  refine lv_if_ne (tgt := 15) hx hb dX2_hasAll_8 (by decide) (fun c225 => ?_) (fun c225 => ?_)
  · refine lv_iconst (v := 0) hx hb dX2_hasAll_15 (by decide) ?_
    exact W.zret (v := 0) hx hb hr (by decide) (fun t ht hW => ⟨_, rfl, ⟨(by decide : Rg 0 1 (0 : Int32)), fun h9 => absurd rfl h9⟩, ht⟩) (fun q hq => absurd hq List.not_mem_nil) dX2_hasAll_16
  · have g226 : Rg 0 4095 x0 := wk_set hr222.1 (by decide) (by rw [← qr223, ← qr224]; exact c225)
    have g227 : Rg 0 0 r224 := wk_eql (rg_any r224) (by decide : Rg 0 0 (0 : Int32)) c225 (by decide)
    refine lv_iconst (v := 1) hx hb dX2_hasAll_11 (by decide) ?_
    refine lv_goto (tgt := 16) hx hb dX2_hasAll_12 (by decide) ?_
    exact W.zret (v := 1) hx hb hr (by decide) (fun t ht hW => ⟨_, rfl, ⟨(by decide : Rg 0 1 (1 : Int32)), fun _ => g226⟩, ht⟩) (fun q hq => absurd hq List.not_mem_nil) dX2_hasAll_16
set_option maxHeartbeats 4000000 in
set_option maxRecDepth 100000 in
theorem k_X2_areTwo (l : Launch) (D : va_G) (cI cS : ClassId) (a : Nat → Nat) (na nc N : Nat) (L u : SU) (hL : TyX L) (hN : N = 0 ∨ N = 24576) (x0 x1 : Int32) : Met l yX2_areTwo wsX2_areTwo ({ frames := 1, cells := 0, slots := 0, locals := 40 }) (PS D cI cS (wX cI cS a na nc N L u) [.ref (a 1), .int x0, .int x1]) (vp_Si (fun r => Rg 0 1 r ∧ (r ≠ 0 → Rg 0 11 x0 ∧ Rg 0 11 x1))) 0 0 (fun _ => False) := by
  refine Met.ofW (cc := cX2_areTwo) (maxL := 3) (ret := (some .boolean)) (by decide) rfl ?_
  intro p e s m args below meth c s₁ B hml hv
  obtain ⟨rfl, hP, hKK⟩ := hv
  have hx := B.exec
  have hb := B.bytes
  have hr := B.returns
  have hts := atoms_spec (ws := wsX2_areTwo) B.pre
  have hown : s.vm.findClass RX2 = some m.cls := findClass_of_methodNamed B.named
  have hlocks := B.notSynchronized
  have hK := hKK.1
  have hl := lv_entry ([.ref (a 1), .int x0, .int x1]) (n := 3) (Nat.le_of_ble_eq_true rfl)
  rw [lg_entry_eq]
  generalize (lg_sl ([.ref (a 1), .int x0, .int x1]) ++ List.replicate (3 - (lg_sl ([.ref (a 1), .int x0, .int x1])).length) Slot.unset).toArray = ls at hl ⊢
  have hl : lv_has ls 3 [(0, .ref (a 1)), (1, .int x0), (2, .int x1)] := hl
  refine lv_aload_n hx hb dX2_areTwo_0 rfl (lv_at hl 0 rfl) ?_
  refine lv_iload_n hx hb dX2_areTwo_1 rfl (lv_at hl 1 rfl) ?_
  refine wk_sv 1 (As := [.int x0]) (rest := []) ⟨hx, hb, hml, hown, hts⟩ (k_X2_hasPoint l D cI cS a na nc N L u hL hN x0) hKK hP (ci := 2) rfl rfl (cwV 1 hts gX2_areTwo_X2_hasPoint rfl rfl rfl (by decide +kernel) ⟨Nat.le_of_ble_eq_true rfl, Nat.le_of_ble_eq_true rfl⟩) rfl hl.1 rfl (Nat.le_of_ble_eq_true rfl) dX2_areTwo_2 ⟨Nat.le_of_ble_eq_true rfl, Nat.le_of_ble_eq_true rfl⟩ (fun r239 hr239 => ?_)
  refine lv_if_eq (tgt := 25) hx hb dX2_areTwo_5 (by decide) (fun c240 => ?_) (fun c240 => ?_)
  · have g241 : Rg 0 0 r239 := wk_eql hr239.1 (by decide : Rg 0 0 (0 : Int32)) c240 (by decide)
    refine lv_iconst (v := 0) hx hb dX2_areTwo_25 (by decide) ?_
    exact W.zret (v := 0) hx hb hr (by decide) (fun t ht hW => ⟨_, rfl, ⟨(by decide : Rg 0 1 (0 : Int32)), fun h9 => absurd rfl h9⟩, ht⟩) (fun q hq => absurd hq List.not_mem_nil) dX2_areTwo_26
  · have g242 : Rg 0 11 x0 := (hr239.2 c240)
    have g243 : Rg 1 1 r239 := rg_ne_lo (k := 0) hr239.1 (by decide) c240 (by decide)
    refine lv_aload_n hx hb dX2_areTwo_8 rfl (lv_at hl 0 rfl) ?_
    refine lv_iload_n hx hb dX2_areTwo_9 rfl (lv_at hl 2 rfl) ?_
    refine wk_sv 1 (As := [.int x1]) (rest := []) ⟨hx, hb, hml, hown, hts⟩ (k_X2_hasPoint l D cI cS a na nc N L u hL hN x1) hKK hP (ci := 2) rfl rfl (cwV 1 hts gX2_areTwo_X2_hasPoint rfl rfl rfl (by decide +kernel) ⟨Nat.le_of_ble_eq_true rfl, Nat.le_of_ble_eq_true rfl⟩) rfl hl.1 rfl (Nat.le_of_ble_eq_true rfl) dX2_areTwo_10 ⟨Nat.le_of_ble_eq_true rfl, Nat.le_of_ble_eq_true rfl⟩ (fun r244 hr244 => ?_)
    refine lv_if_eq (tgt := 25) hx hb dX2_areTwo_13 (by decide) (fun c245 => ?_) (fun c245 => ?_)
    · have g246 : Rg 0 0 r244 := wk_eql hr244.1 (by decide : Rg 0 0 (0 : Int32)) c245 (by decide)
      refine lv_iconst (v := 0) hx hb dX2_areTwo_25 (by decide) ?_
      exact W.zret (v := 0) hx hb hr (by decide) (fun t ht hW => ⟨_, rfl, ⟨(by decide : Rg 0 1 (0 : Int32)), fun h9 => absurd rfl h9⟩, ht⟩) (fun q hq => absurd hq List.not_mem_nil) dX2_areTwo_26
    · have g247 : Rg 0 11 x1 := (hr244.2 c245)
      have g248 : Rg 1 1 r244 := rg_ne_lo (k := 0) hr244.1 (by decide) c245 (by decide)
      refine lv_iload_n hx hb dX2_areTwo_16 rfl (lv_at hl 1 rfl) ?_
      refine lv_iload_n hx hb dX2_areTwo_17 rfl (lv_at hl 2 rfl) ?_
      refine lv_icmp_eq (tgt := 25) hx hb dX2_areTwo_18 (by decide) (fun c249 => ?_) (fun c249 => ?_)
      · refine lv_iconst (v := 0) hx hb dX2_areTwo_25 (by decide) ?_
        exact W.zret (v := 0) hx hb hr (by decide) (fun t ht hW => ⟨_, rfl, ⟨(by decide : Rg 0 1 (0 : Int32)), fun h9 => absurd rfl h9⟩, ht⟩) (fun q hq => absurd hq List.not_mem_nil) dX2_areTwo_26
      · refine lv_iconst (v := 1) hx hb dX2_areTwo_21 (by decide) ?_
        refine lv_goto (tgt := 26) hx hb dX2_areTwo_22 (by decide) ?_
        exact W.zret (v := 1) hx hb hr (by decide) (fun t ht hW => ⟨_, rfl, ⟨(by decide : Rg 0 1 (1 : Int32)), fun _ => ⟨g242, g247⟩⟩, ht⟩) (fun q hq => absurd hq List.not_mem_nil) dX2_areTwo_26
set_option maxRecDepth 20000 in
theorem ggX2_joined_X2_areTwo : GoodIn wsX2_joined wsX2_areTwo := goodIn_r _ [6, 7, 8, 9, 5, 10, 11, 12, 13, 14] (by decide +kernel) (by decide +kernel)
set_option maxRecDepth 20000 in
theorem gX2_joined_X2_areTwo : GoodIn wsX2_joined (wsV RX2 36 RX2 yX2_areTwo wsX2_areTwo) := goodIn_app (goodIn_of _ (by decide +kernel)) ggX2_joined_X2_areTwo
theorem dX2_joined_0 : decode cX2_joined 0 = .ok (.aload_n 0, 1) := by decide +kernel
theorem dX2_joined_1 : decode cX2_joined 1 = .ok (.iload_n 1, 1) := by decide +kernel
theorem dX2_joined_10 : decode cX2_joined 10 = .ok (.getfield 9, 3) := by decide +kernel
theorem dX2_joined_13 : decode cX2_joined 13 = .ok (.iload_n 1, 1) := by decide +kernel
theorem dX2_joined_14 : decode cX2_joined 14 = .ok (.iaload, 1) := by decide +kernel
theorem dX2_joined_15 : decode cX2_joined 15 = .ok (.iload_n 2, 1) := by decide +kernel
theorem dX2_joined_16 : decode cX2_joined 16 = .ok (.ishr, 1) := by decide +kernel
theorem dX2_joined_17 : decode cX2_joined 17 = .ok (.iconst 1, 1) := by decide +kernel
theorem dX2_joined_18 : decode cX2_joined 18 = .ok (.iand, 1) := by decide +kernel
theorem dX2_joined_19 : decode cX2_joined 19 = .ok (.ifCond .eq 7, 3) := by decide +kernel
theorem dX2_joined_2 : decode cX2_joined 2 = .ok (.iload_n 2, 1) := by decide +kernel
theorem dX2_joined_22 : decode cX2_joined 22 = .ok (.iconst 1, 1) := by decide +kernel
theorem dX2_joined_23 : decode cX2_joined 23 = .ok (.goto 4, 3) := by decide +kernel
theorem dX2_joined_26 : decode cX2_joined 26 = .ok (.iconst 0, 1) := by decide +kernel
theorem dX2_joined_27 : decode cX2_joined 27 = .ok (.ireturn, 1) := by decide +kernel
theorem dX2_joined_3 : decode cX2_joined 3 = .ok (.invokevirtual 36, 3) := by decide +kernel
theorem dX2_joined_6 : decode cX2_joined 6 = .ok (.ifCond .eq 20, 3) := by decide +kernel
theorem dX2_joined_9 : decode cX2_joined 9 = .ok (.aload_n 0, 1) := by decide +kernel
set_option maxHeartbeats 4000000 in
set_option maxRecDepth 100000 in
theorem k_X2_joined (l : Launch) (D : va_G) (cI cS : ClassId) (a : Nat → Nat) (na nc N : Nat) (L u : SU) (hL : TyX L) (hN : N = 0 ∨ N = 24576) (x0 x1 : Int32) : Met l yX2_joined wsX2_joined ({ frames := 2, cells := 0, slots := 0, locals := 80 }) (PS D cI cS (wX cI cS a na nc N L u) [.ref (a 1), .int x0, .int x1]) (vp_Si (fun r => Rg 0 1 r ∧ (r ≠ 0 → Rg 0 11 x0 ∧ Rg 0 11 x1))) 0 0 (fun _ => False) := by
  refine Met.ofW (cc := cX2_joined) (maxL := 3) (ret := (some .boolean)) (by decide) rfl ?_
  intro p e s m args below meth c s₁ B hml hv
  obtain ⟨rfl, hP, hKK⟩ := hv
  have hx := B.exec
  have hb := B.bytes
  have hr := B.returns
  have hts := atoms_spec (ws := wsX2_joined) B.pre
  have hown : s.vm.findClass RX2 = some m.cls := findClass_of_methodNamed B.named
  have hlocks := B.notSynchronized
  have hK := hKK.1
  have hin2 : ∀ w ∈ wsX20, w ∈ wsX2_joined := by decide +kernel
  have hl := lv_entry ([.ref (a 1), .int x0, .int x1]) (n := 3) (Nat.le_of_ble_eq_true rfl)
  rw [lg_entry_eq]
  generalize (lg_sl ([.ref (a 1), .int x0, .int x1]) ++ List.replicate (3 - (lg_sl ([.ref (a 1), .int x0, .int x1])).length) Slot.unset).toArray = ls at hl ⊢
  have hl : lv_has ls 3 [(0, .ref (a 1)), (1, .int x0), (2, .int x1)] := hl
  refine lv_aload_n hx hb dX2_joined_0 rfl (lv_at hl 0 rfl) ?_
  refine lv_iload_n hx hb dX2_joined_1 rfl (lv_at hl 1 rfl) ?_
  refine lv_iload_n hx hb dX2_joined_2 rfl (lv_at hl 2 rfl) ?_
  refine wk_sv 1 (As := [.int x0, .int x1]) (rest := []) ⟨hx, hb, hml, hown, hts⟩ (k_X2_areTwo l D cI cS a na nc N L u hL hN x0 x1) hKK hP (ci := 2) rfl rfl (cwV 2 hts gX2_joined_X2_areTwo rfl rfl rfl (by decide +kernel) ⟨Nat.le_of_ble_eq_true rfl, Nat.le_of_ble_eq_true rfl⟩) rfl hl.1 rfl (Nat.le_of_ble_eq_true rfl) dX2_joined_3 ⟨Nat.le_of_ble_eq_true rfl, Nat.le_of_ble_eq_true rfl⟩ (fun r262 hr262 => ?_)
  refine lv_if_eq (tgt := 26) hx hb dX2_joined_6 (by decide) (fun c263 => ?_) (fun c263 => ?_)
  · have g264 : Rg 0 0 r262 := wk_eql hr262.1 (by decide : Rg 0 0 (0 : Int32)) c263 (by decide)
    refine lv_iconst (v := 0) hx hb dX2_joined_26 (by decide) ?_
    exact W.zret (v := 0) hx hb hr (by decide) (fun t ht hW => ⟨_, rfl, ⟨(by decide : Rg 0 1 (0 : Int32)), fun h9 => absurd rfl h9⟩, ht⟩) (fun q hq => absurd hq List.not_mem_nil) dX2_joined_27
  · have g265 : Rg 0 11 x0 := (hr262.2 c263).1
    have g266 : Rg 0 11 x1 := (hr262.2 c263).2
    have g267 : Rg 1 1 r262 := rg_ne_lo (k := 0) hr262.1 (by decide) c263 (by decide)
    refine lv_aload_n hx hb dX2_joined_9 rfl (lv_at hl 0 rfl) ?_
    refine va_get (D := D) (ci := 2) (v := .ref (a 2)) (C := RX2) (T := TX2) (N := 3) hx hb hts hin2 hown hK hP 1 rfl rfl 0 (by decide) (hts (.fieldLink RX2 9 "MissedPoints$Net" "links" "[I") (by decide +kernel)) (fun _ h9 => h9) rfl dX2_joined_10 ?_
    refine lv_iload_n hx hb dX2_joined_13 rfl (lv_at hl 1 rfl) ?_
    refine wk_aldA hx hb hK hP 2 0 rfl rfl (rg_in g265 (by decide) (by decide)) dX2_joined_14 (fun r268 => ?_)
    refine lv_iload_n hx hb dX2_joined_15 rfl (lv_at hl 2 rfl) ?_
    refine lv_ishr hx hb dX2_joined_16 ?_
    refine wk_topP (P := fun r => r = r268 >>> (x1 &&& 31)) rfl (fun r269 qr269 => ?_)
    refine lv_iconst (v := 1) hx hb dX2_joined_17 (by decide) ?_
    refine wk_iandr hx hb dX2_joined_18 (by decide : Rg 1 1 (1 : Int32)) (by decide) (fun r270 hr270 qr270 => ?_)
    refine lv_if_eq (tgt := 26) hx hb dX2_joined_19 (by decide) (fun c271 => ?_) (fun c271 => ?_)
    · have g272 : Rg 0 0 r270 := wk_eql hr270 (by decide : Rg 0 0 (0 : Int32)) c271 (by decide)
      refine lv_iconst (v := 0) hx hb dX2_joined_26 (by decide) ?_
      exact W.zret (v := 0) hx hb hr (by decide) (fun t ht hW => ⟨_, rfl, ⟨(by decide : Rg 0 1 (0 : Int32)), fun h9 => absurd rfl h9⟩, ht⟩) (fun q hq => absurd hq List.not_mem_nil) dX2_joined_27
    · have g273 : Rg 1 1 r270 := rg_ne_lo (k := 0) hr270 (by decide) c271 (by decide)
      refine lv_iconst (v := 1) hx hb dX2_joined_22 (by decide) ?_
      refine lv_goto (tgt := 27) hx hb dX2_joined_23 (by decide) ?_
      exact W.zret (v := 1) hx hb hr (by decide) (fun t ht hW => ⟨_, rfl, ⟨(by decide : Rg 0 1 (1 : Int32)), fun _ => ⟨g265, g266⟩⟩, ht⟩) (fun q hq => absurd hq List.not_mem_nil) dX2_joined_27
theorem dX2_join_41 : decode cX2_join 41 = .ok (.aload_n 0, 1) := by decide +kernel
theorem dX2_join_42 : decode cX2_join 42 = .ok (.getfield 9, 3) := by decide +kernel
theorem dX2_join_45 : decode cX2_join 45 = .ok (.iload_n 1, 1) := by decide +kernel
theorem dX2_join_46 : decode cX2_join 46 = .ok (.dup2, 1) := by decide +kernel
theorem dX2_join_47 : decode cX2_join 47 = .ok (.iaload, 1) := by decide +kernel
theorem dX2_join_48 : decode cX2_join 48 = .ok (.iconst 1, 1) := by decide +kernel
theorem dX2_join_49 : decode cX2_join 49 = .ok (.iload_n 2, 1) := by decide +kernel
theorem dX2_join_50 : decode cX2_join 50 = .ok (.ishl, 1) := by decide +kernel
theorem dX2_join_51 : decode cX2_join 51 = .ok (.iconst (-1), 1) := by decide +kernel
theorem dX2_join_52 : decode cX2_join 52 = .ok (.ixor, 1) := by decide +kernel
theorem dX2_join_53 : decode cX2_join 53 = .ok (.iand, 1) := by decide +kernel
theorem dX2_join_54 : decode cX2_join 54 = .ok (.iastore, 1) := by decide +kernel
theorem dX2_join_55 : decode cX2_join 55 = .ok (.aload_n 0, 1) := by decide +kernel
theorem dX2_join_56 : decode cX2_join 56 = .ok (.getfield 9, 3) := by decide +kernel
theorem dX2_join_59 : decode cX2_join 59 = .ok (.iload_n 2, 1) := by decide +kernel
theorem dX2_join_60 : decode cX2_join 60 = .ok (.dup2, 1) := by decide +kernel
theorem dX2_join_61 : decode cX2_join 61 = .ok (.iaload, 1) := by decide +kernel
theorem dX2_join_62 : decode cX2_join 62 = .ok (.iconst 1, 1) := by decide +kernel
theorem dX2_join_63 : decode cX2_join 63 = .ok (.iload_n 1, 1) := by decide +kernel
theorem dX2_join_64 : decode cX2_join 64 = .ok (.ishl, 1) := by decide +kernel
theorem dX2_join_65 : decode cX2_join 65 = .ok (.iconst (-1), 1) := by decide +kernel
theorem dX2_join_66 : decode cX2_join 66 = .ok (.ixor, 1) := by decide +kernel
theorem dX2_join_67 : decode cX2_join 67 = .ok (.iand, 1) := by decide +kernel
theorem dX2_join_68 : decode cX2_join 68 = .ok (.iastore, 1) := by decide +kernel
theorem dX2_join_9 : decode cX2_join 9 = .ok (.return_, 1) := by decide +kernel
set_option maxHeartbeats 4000000 in
set_option maxRecDepth 100000 in
theorem k_X2_join (l : Launch) (D : va_G) (cI cS : ClassId) (sz : Nat) (a : Nat → Nat) (na nc N : Nat) (L u0 : SU) (hL : TyX L) (hN : N = 0 ∨ N = 24576) (x0 x1 x2 : Int32) (px2 : Rg 0 1 x2) : Met l yX2_join wsX2_join ({ frames := 2, cells := 0, slots := 0, locals := 80 }) (PQ D cI cS (wX cI cS a na nc N L u0) sz [.ref (a 1), .int x0, .int x1, .int x2]) (QE (S := SU) D (wX cI cS a na nc N L u0) (wX cI cS a na nc N L) sz (fun _ => True)) 0 0 (va_A (wX cI cS a na nc N L u0) sz) := by
  refine Met.ofW (cc := cX2_join) (maxL := 4) (ret := none) (by decide) rfl ?_
  intro p e s m args below meth c s₁ B hml hv
  obtain ⟨rfl, hsz, hP, hKK, hD0⟩ := hv
  have hx := B.exec
  have hb := B.bytes
  have hr := B.returns
  have hts := atoms_spec (ws := wsX2_join) B.pre
  have hown : s.vm.findClass RX2 = some m.cls := findClass_of_methodNamed B.named
  have hlocks := B.notSynchronized
  have hK := hKK.1
  have hin2 : ∀ w ∈ wsX20, w ∈ wsX2_join := by decide +kernel
  subst hsz
  have hD := hD0.self (sz := s.heap.size)
  obtain ⟨A, hAe⟩ : ∃ A, A = va_A (wX cI cS a na nc N L u0) s.heap.size := ⟨_, rfl⟩
  rw [← hAe] at hD
  have hA : ∀ q : Nat, s.heap.size ≤ q → A q := fun q h => by rw [hAe]; exact Or.inr h
  have hS : va_S A s.heap s.heap [] := va_S.rf
  have hl := lv_entry ([.ref (a 1), .int x0, .int x1, .int x2]) (n := 4) (Nat.le_of_ble_eq_true rfl)
  rw [lg_entry_eq]
  generalize (lg_sl ([.ref (a 1), .int x0, .int x1, .int x2]) ++ List.replicate (4 - (lg_sl ([.ref (a 1), .int x0, .int x1, .int x2])).length) Slot.unset).toArray = ls at hl ⊢
  have hl : lv_has ls 4 [(0, .ref (a 1)), (1, .int x0), (2, .int x1), (3, .int x2)] := hl
  obtain ⟨u, hu9⟩ : ∃ u : SU, u = u0 := ⟨_, rfl⟩
  rw [← hu9] at hP hD
  refine lv_aload_n hx hb dX2_join_0 rfl (lv_at hl 0 rfl) ?_
  refine lv_iload_n hx hb dX2_join_1 rfl (lv_at hl 1 rfl) ?_
  refine lv_iload_n hx hb dX2_join_2 rfl (lv_at hl 2 rfl) ?_
  refine wk_sv 1 (As := [.int x0, .int x1]) (rest := []) ⟨hx, hb, hml, hown, hts⟩ (k_X2_areTwo l D cI cS a na nc N L u hL hN x0 x1) hKK hP (ci := 2) rfl rfl (cwV 2 hts gX2_join_X2_areTwo rfl rfl rfl (by decide +kernel) ⟨Nat.le_of_ble_eq_true rfl, Nat.le_of_ble_eq_true rfl⟩) rfl hl.1 rfl (Nat.le_of_ble_eq_true rfl) dX2_join_3 ⟨Nat.le_of_ble_eq_true rfl, Nat.le_of_ble_eq_true rfl⟩ (fun r301 hr301 => ?_)
  refine lv_if_ne (tgt := 10) hx hb dX2_join_6 (by decide) (fun c302 => ?_) (fun c302 => ?_)
  · have g303 : Rg 0 11 x0 := (hr301.2 c302).1
    have g304 : Rg 0 11 x1 := (hr301.2 c302).2
    have g305 : Rg 1 1 r301 := rg_ne_lo (k := 0) hr301.1 (by decide) c302 (by decide)
    refine lv_iload_n hx hb dX2_join_10 rfl (lv_at hl 3 rfl) ?_
    refine lv_if_eq (tgt := 41) hx hb dX2_join_11 (by decide) (fun c306 => ?_) (fun c306 => ?_)
    · have g307 : Rg 0 0 x2 := wk_eql px2 (by decide : Rg 0 0 (0 : Int32)) c306 (by decide)
      refine lv_aload_n hx hb dX2_join_41 rfl (lv_at hl 0 rfl) ?_
      refine va_get (D := D) (ci := 2) (v := .ref (a 2)) (C := RX2) (T := TX2) (N := 3) hx hb hts hin2 hown hK hP 1 rfl rfl 0 (by decide) (hts (.fieldLink RX2 9 "MissedPoints$Net" "links" "[I") (by decide +kernel)) (fun _ h9 => h9) rfl dX2_join_42 ?_
      refine lv_iload_n hx hb dX2_join_45 rfl (lv_at hl 1 rfl) ?_
      refine lv_dup2_11 hx hb dX2_join_46 rfl rfl ?_
      refine wk_aldA hx hb hK hP 2 0 rfl rfl (rg_in g303 (by decide) (by decide)) dX2_join_47 (fun r308 => ?_)
      refine lv_iconst (v := 1) hx hb dX2_join_48 (by decide) ?_
      refine lv_iload_n hx hb dX2_join_49 rfl (lv_at hl 2 rfl) ?_
      refine wk_ishl1 (f := 2048) hx hb dX2_join_50 g304 (by decide) (fun r309 hr309 qr309 => ?_)
      refine lv_iconst (v := (-1)) hx hb dX2_join_51 (by decide) ?_
      refine lv_ixor hx hb dX2_join_52 ?_
      refine wk_topP (P := fun r => r = r309 ^^^ ((-1) : Int32)) rfl (fun r310 qr310 => ?_)
      refine lv_iand hx hb dX2_join_53 ?_
      refine wk_topP (P := fun r => r = r308 &&& r310) rfl (fun r311 qr311 => ?_)
      refine ks_ast hx hb hK hP hD hS rfl (k := 2) rfl sx_2 (rg_in g303 (by decide) (by decide)) dX2_join_54 (fun u H locs hP hD hS => ?_)
      refine lv_aload_n hx hb dX2_join_55 rfl (lv_at hl 0 rfl) ?_
      refine va_get (D := D) (ci := 2) (v := .ref (a 2)) (C := RX2) (T := TX2) (N := 3) hx hb hts hin2 hown hK hP 1 rfl rfl 0 (by decide) (hts (.fieldLink RX2 9 "MissedPoints$Net" "links" "[I") (by decide +kernel)) (fun _ h9 => h9) rfl dX2_join_56 ?_
      refine lv_iload_n hx hb dX2_join_59 rfl (lv_at hl 2 rfl) ?_
      refine lv_dup2_11 hx hb dX2_join_60 rfl rfl ?_
      refine wk_aldA hx hb hK hP 2 0 rfl rfl (rg_in g304 (by decide) (by decide)) dX2_join_61 (fun r312 => ?_)
      refine lv_iconst (v := 1) hx hb dX2_join_62 (by decide) ?_
      refine lv_iload_n hx hb dX2_join_63 rfl (lv_at hl 1 rfl) ?_
      refine wk_ishl1 (f := 2048) hx hb dX2_join_64 g303 (by decide) (fun r313 hr313 qr313 => ?_)
      refine lv_iconst (v := (-1)) hx hb dX2_join_65 (by decide) ?_
      refine lv_ixor hx hb dX2_join_66 ?_
      refine wk_topP (P := fun r => r = r313 ^^^ ((-1) : Int32)) rfl (fun r314 qr314 => ?_)
      refine lv_iand hx hb dX2_join_67 ?_
      refine wk_topP (P := fun r => r = r312 &&& r314) rfl (fun r315 qr315 => ?_)
      refine ks_ast hx hb hK hP hD hS rfl (k := 2) rfl sx_2 (rg_in g304 (by decide) (by decide)) dX2_join_68 (fun u H locs hP hD hS => ?_)
      refine lv_aload_n hx hb dX2_join_69 rfl (lv_at hl 0 rfl) ?_
      refine lv_dup hx hb dX2_join_70 rfl ?_
      refine va_get (D := D) (ci := 2) (v := .int (u 1 2)) (C := RX2) (T := TX2) (N := 3) hx hb hts hin2 hown hK hP 1 rfl rfl 2 (by decide) (hts (.fieldLink RX2 33 "MissedPoints$Net" "changes" "I") (by decide +kernel)) (fun _ h9 => h9) rfl dX2_join_71 ?_
      refine wk_any (fun r316 => ?_)
      refine lv_iconst (v := 1) hx hb dX2_join_74 (by decide) ?_
      refine lv_iadd hx hb dX2_join_75 ?_
      refine wk_topP (P := fun r => r = r316 + (1 : Int32)) rfl (fun r317 qr317 => ?_)
      refine va_put (D := D) (ci := 2) (v := .int r317) (ty := .int) (C := RX2) (T := TX2) (N := 3) hx hb hts hin2 tyX2 tyX2_ok nmX2 hown hK hP hD hS 1 rfl rfl 2 (by decide) (hts (.fieldLink RX2 33 "MissedPoints$Net" "changes" "I") (by decide +kernel)) (fun _ h9 => h9) rfl (by decide +kernel) rfl rfl (Nat.le_of_ble_eq_true rfl) dX2_join_76 (fun H locs hP hD hS => ?_)
      rw [sxf_1_2] at hP hD
      generalize sU u 1 _ = u at hP hD
      subst hAe
      exact W.vret hx hb hr (fun t ht hW => ⟨⟨u, rfl, trivial, by rw [ht]; exact hP, hD⟩, hS.F ht⟩) hS.2.2 dX2_join_79
    · have g318 : Rg 1 1 x2 := rg_ne_lo (k := 0) px2 (by decide) c306 (by decide)
      refine lv_aload_n hx hb dX2_join_14 rfl (lv_at hl 0 rfl) ?_
      refine va_get (D := D) (ci := 2) (v := .ref (a 2)) (C := RX2) (T := TX2) (N := 3) hx hb hts hin2 hown hK hP 1 rfl rfl 0 (by decide) (hts (.fieldLink RX2 9 "MissedPoints$Net" "links" "[I") (by decide +kernel)) (fun _ h9 => h9) rfl dX2_join_15 ?_
      refine lv_iload_n hx hb dX2_join_18 rfl (lv_at hl 1 rfl) ?_
      refine lv_dup2_11 hx hb dX2_join_19 rfl rfl ?_
      refine wk_aldA hx hb hK hP 2 0 rfl rfl (rg_in g303 (by decide) (by decide)) dX2_join_20 (fun r319 => ?_)
      refine lv_iconst (v := 1) hx hb dX2_join_21 (by decide) ?_
      refine lv_iload_n hx hb dX2_join_22 rfl (lv_at hl 2 rfl) ?_
      refine wk_ishl1 (f := 2048) hx hb dX2_join_23 g304 (by decide) (fun r320 hr320 qr320 => ?_)
      refine lv_ior hx hb dX2_join_24 ?_
      refine wk_topP (P := fun r => r = r319 ||| r320) rfl (fun r321 qr321 => ?_)
      refine ks_ast hx hb hK hP hD hS rfl (k := 2) rfl sx_2 (rg_in g303 (by decide) (by decide)) dX2_join_25 (fun u H locs hP hD hS => ?_)
      refine lv_aload_n hx hb dX2_join_26 rfl (lv_at hl 0 rfl) ?_
      refine va_get (D := D) (ci := 2) (v := .ref (a 2)) (C := RX2) (T := TX2) (N := 3) hx hb hts hin2 hown hK hP 1 rfl rfl 0 (by decide) (hts (.fieldLink RX2 9 "MissedPoints$Net" "links" "[I") (by decide +kernel)) (fun _ h9 => h9) rfl dX2_join_27 ?_
      refine lv_iload_n hx hb dX2_join_30 rfl (lv_at hl 2 rfl) ?_
      refine lv_dup2_11 hx hb dX2_join_31 rfl rfl ?_
      refine wk_aldA hx hb hK hP 2 0 rfl rfl (rg_in g304 (by decide) (by decide)) dX2_join_32 (fun r322 => ?_)
      refine lv_iconst (v := 1) hx hb dX2_join_33 (by decide) ?_
      refine lv_iload_n hx hb dX2_join_34 rfl (lv_at hl 1 rfl) ?_
      refine wk_ishl1 (f := 2048) hx hb dX2_join_35 g303 (by decide) (fun r323 hr323 qr323 => ?_)
      refine lv_ior hx hb dX2_join_36 ?_
      refine wk_topP (P := fun r => r = r322 ||| r323) rfl (fun r324 qr324 => ?_)
      refine ks_ast hx hb hK hP hD hS rfl (k := 2) rfl sx_2 (rg_in g304 (by decide) (by decide)) dX2_join_37 (fun u H locs hP hD hS => ?_)
      refine lv_goto (tgt := 69) hx hb dX2_join_38 (by decide) ?_
      refine lv_aload_n hx hb dX2_join_69 rfl (lv_at hl 0 rfl) ?_
      refine lv_dup hx hb dX2_join_70 rfl ?_
      refine va_get (D := D) (ci := 2) (v := .int (u 1 2)) (C := RX2) (T := TX2) (N := 3) hx hb hts hin2 hown hK hP 1 rfl rfl 2 (by decide) (hts (.fieldLink RX2 33 "MissedPoints$Net" "changes" "I") (by decide +kernel)) (fun _ h9 => h9) rfl dX2_join_71 ?_
      refine wk_any (fun r325 => ?_)
      refine lv_iconst (v := 1) hx hb dX2_join_74 (by decide) ?_
      refine lv_iadd hx hb dX2_join_75 ?_
      refine wk_topP (P := fun r => r = r325 + (1 : Int32)) rfl (fun r326 qr326 => ?_)
      refine va_put (D := D) (ci := 2) (v := .int r326) (ty := .int) (C := RX2) (T := TX2) (N := 3) hx hb hts hin2 tyX2 tyX2_ok nmX2 hown hK hP hD hS 1 rfl rfl 2 (by decide) (hts (.fieldLink RX2 33 "MissedPoints$Net" "changes" "I") (by decide +kernel)) (fun _ h9 => h9) rfl (by decide +kernel) rfl rfl (Nat.le_of_ble_eq_true rfl) dX2_join_76 (fun H locs hP hD hS => ?_)
      rw [sxf_1_2] at hP hD
      generalize sU u 1 _ = u at hP hD
      subst hAe
      exact W.vret hx hb hr (fun t ht hW => ⟨⟨u, rfl, trivial, by rw [ht]; exact hP, hD⟩, hS.F ht⟩) hS.2.2 dX2_join_79
  · have g327 : Rg 0 0 r301 := wk_eql hr301.1 (by decide : Rg 0 0 (0 : Int32)) c302 (by decide)
    subst hAe
    exact W.vret hx hb hr (fun t ht hW => ⟨⟨u, rfl, trivial, by rw [ht]; exact hP, hD⟩, hS.F ht⟩) hS.2.2 dX2_join_9
set_option maxRecDepth 20000 in
theorem ggX2_near_X2_hasPoint : GoodIn wsX2_near wsX2_hasPoint := goodIn_r _ [6, 7, 8, 9, 10] (by decide +kernel) (by decide +kernel)
set_option maxRecDepth 20000 in
theorem gX2_near_X2_hasPoint : GoodIn wsX2_near (wsV RX2 23 RX2 yX2_hasPoint wsX2_hasPoint) := goodIn_app (goodIn_of _ (by decide +kernel)) ggX2_near_X2_hasPoint
theorem dX2_near_0 : decode cX2_near 0 = .ok (.aload_n 0, 1) := by decide +kernel
theorem dX2_near_1 : decode cX2_near 1 = .ok (.iload_n 1, 1) := by decide +kernel
theorem dX2_near_12 : decode cX2_near 12 = .ok (.iload_n 1, 1) := by decide +kernel
theorem dX2_near_13 : decode cX2_near 13 = .ok (.iaload, 1) := by decide +kernel
theorem dX2_near_14 : decode cX2_near 14 = .ok (.goto 4, 3) := by decide +kernel
theorem dX2_near_17 : decode cX2_near 17 = .ok (.iconst 0, 1) := by decide +kernel
theorem dX2_near_18 : decode cX2_near 18 = .ok (.ireturn, 1) := by decide +kernel
theorem dX2_near_2 : decode cX2_near 2 = .ok (.invokevirtual 23, 3) := by decide +kernel
theorem dX2_near_5 : decode cX2_near 5 = .ok (.ifCond .eq 12, 3) := by decide +kernel
theorem dX2_near_8 : decode cX2_near 8 = .ok (.aload_n 0, 1) := by decide +kernel
theorem dX2_near_9 : decode cX2_near 9 = .ok (.getfield 9, 3) := by decide +kernel
set_option maxHeartbeats 4000000 in
set_option maxRecDepth 100000 in
theorem k_X2_near (l : Launch) (D : va_G) (cI cS : ClassId) (a : Nat → Nat) (na nc N : Nat) (L u : SU) (hL : TyX L) (hN : N = 0 ∨ N = 24576) (x0 : Int32) : Met l yX2_near wsX2_near ({ frames := 1, cells := 0, slots := 0, locals := 40 }) (PS D cI cS (wX cI cS a na nc N L u) [.ref (a 1), .int x0]) (vp_Si (fun r => Rg (-2147483648) 2147483647 r ∧ True)) 0 0 (fun _ => False) := by
  refine Met.ofW (cc := cX2_near) (maxL := 2) (ret := (some .int)) (by decide) rfl ?_
  intro p e s m args below meth c s₁ B hml hv
  obtain ⟨rfl, hP, hKK⟩ := hv
  have hx := B.exec
  have hb := B.bytes
  have hr := B.returns
  have hts := atoms_spec (ws := wsX2_near) B.pre
  have hown : s.vm.findClass RX2 = some m.cls := findClass_of_methodNamed B.named
  have hlocks := B.notSynchronized
  have hK := hKK.1
  have hin2 : ∀ w ∈ wsX20, w ∈ wsX2_near := by decide +kernel
  have hl := lv_entry ([.ref (a 1), .int x0]) (n := 2) (Nat.le_of_ble_eq_true rfl)
  rw [lg_entry_eq]
  generalize (lg_sl ([.ref (a 1), .int x0]) ++ List.replicate (2 - (lg_sl ([.ref (a 1), .int x0])).length) Slot.unset).toArray = ls at hl ⊢
  have hl : lv_has ls 2 [(0, .ref (a 1)), (1, .int x0)] := hl
  refine lv_aload_n hx hb dX2_near_0 rfl (lv_at hl 0 rfl) ?_
  refine lv_iload_n hx hb dX2_near_1 rfl (lv_at hl 1 rfl) ?_
  refine wk_sv 1 (As := [.int x0]) (rest := []) ⟨hx, hb, hml, hown, hts⟩ (k_X2_hasPoint l D cI cS a na nc N L u hL hN x0) hKK hP (ci := 2) rfl rfl (cwV 1 hts gX2_near_X2_hasPoint rfl rfl rfl (by decide +kernel) ⟨Nat.le_of_ble_eq_true rfl, Nat.le_of_ble_eq_true rfl⟩) rfl hl.1 rfl (Nat.le_of_ble_eq_true rfl) dX2_near_2 ⟨Nat.le_of_ble_eq_true rfl, Nat.le_of_ble_eq_true rfl⟩ (fun r334 hr334 => ?_)
  refine lv_if_eq (tgt := 17) hx hb dX2_near_5 (by decide) (fun c335 => ?_) (fun c335 => ?_)
  · have g336 : Rg 0 0 r334 := wk_eql hr334.1 (by decide : Rg 0 0 (0 : Int32)) c335 (by decide)
    refine lv_iconst (v := 0) hx hb dX2_near_17 (by decide) ?_
    exact W.iret (v := 0) hx hb hr (fun t ht hW => ⟨_, rfl, ⟨(by decide : Rg (-2147483648) 2147483647 (0 : Int32)), trivial⟩, ht⟩) (fun q hq => absurd hq List.not_mem_nil) dX2_near_18
  · have g337 : Rg 0 11 x0 := (hr334.2 c335)
    have g338 : Rg 1 1 r334 := rg_ne_lo (k := 0) hr334.1 (by decide) c335 (by decide)
    refine lv_aload_n hx hb dX2_near_8 rfl (lv_at hl 0 rfl) ?_
    refine va_get (D := D) (ci := 2) (v := .ref (a 2)) (C := RX2) (T := TX2) (N := 3) hx hb hts hin2 hown hK hP 1 rfl rfl 0 (by decide) (hts (.fieldLink RX2 9 "MissedPoints$Net" "links" "[I") (by decide +kernel)) (fun _ h9 => h9) rfl dX2_near_9 ?_
    refine lv_iload_n hx hb dX2_near_12 rfl (lv_at hl 1 rfl) ?_
    refine wk_aldA hx hb hK hP 2 0 rfl rfl (rg_in g337 (by decide) (by decide)) dX2_near_13 (fun r339 => ?_)
    refine lv_goto (tgt := 18) hx hb dX2_near_14 (by decide) ?_
    exact W.iret (v := r339) hx hb hr (fun t ht hW => ⟨_, rfl, ⟨(rg_any r339), trivial⟩, ht⟩) (fun q hq => absurd hq List.not_mem_nil) dX2_near_18
theorem dX2_nearAny_12 : decode cX2_nearAny 12 = .ok (.iload_n 1, 1) := by decide +kernel
theorem dX2_nearAny_13 : decode cX2_nearAny 13 = .ok (.iload_n 3, 1) := by decide +kernel
theorem dX2_nearAny_14 : decode cX2_nearAny 14 = .ok (.ishr, 1) := by decide +kernel
theorem dX2_nearAny_15 : decode cX2_nearAny 15 = .ok (.iconst 1, 1) := by decide +kernel
theorem dX2_nearAny_16 : decode cX2_nearAny 16 = .ok (.iand, 1) := by decide +kernel
theorem dX2_nearAny_17 : decode cX2_nearAny 17 = .ok (.ifCond .eq 12, 3) := by decide +kernel
theorem dX2_nearAny_20 : decode cX2_nearAny 20 = .ok (.iload_n 2, 1) := by decide +kernel
theorem dX2_nearAny_21 : decode cX2_nearAny 21 = .ok (.aload_n 0, 1) := by decide +kernel
theorem dX2_nearAny_22 : decode cX2_nearAny 22 = .ok (.getfield 9, 3) := by decide +kernel
theorem dX2_nearAny_25 : decode cX2_nearAny 25 = .ok (.iload_n 3, 1) := by decide +kernel
theorem dX2_nearAny_26 : decode cX2_nearAny 26 = .ok (.iaload, 1) := by decide +kernel
theorem dX2_nearAny_27 : decode cX2_nearAny 27 = .ok (.ior, 1) := by decide +kernel
theorem dX2_nearAny_28 : decode cX2_nearAny 28 = .ok (.istore_n 2, 1) := by decide +kernel
theorem dX2_nearAny_29 : decode cX2_nearAny 29 = .ok (.iinc 3 1, 3) := by decide +kernel
theorem dX2_nearAny_32 : decode cX2_nearAny 32 = .ok (.goto (-28), 3) := by decide +kernel
set_option maxHeartbeats 4000000 in
set_option maxRecDepth 100000 in
theorem k_X2_nearAny (l : Launch) (D : va_G) (cI cS : ClassId) (a : Nat → Nat) (na nc N : Nat) (L u : SU) (hL : TyX L) (hN : N = 0 ∨ N = 24576) (x0 : Int32) : Met l yX2_nearAny wsX2_nearAny ({ frames := 0, cells := 0, slots := 0, locals := 0 }) (PS D cI cS (wX cI cS a na nc N L u) [.ref (a 1), .int x0]) (vp_Si (fun r => Rg (-2147483648) 2147483647 r ∧ True)) 0 0 (fun _ => False) := by
  refine Met.ofW (cc := cX2_nearAny) (maxL := 4) (ret := (some .int)) (by decide) rfl ?_
  intro p e s m args below meth c s₁ B hml hv
  obtain ⟨rfl, hP, hKK⟩ := hv
  have hx := B.exec
  have hb := B.bytes
  have hr := B.returns
  have hts := atoms_spec (ws := wsX2_nearAny) B.pre
  have hown : s.vm.findClass RX2 = some m.cls := findClass_of_methodNamed B.named
  have hlocks := B.notSynchronized
  have hK := hKK.1
  have hin2 : ∀ w ∈ wsX20, w ∈ wsX2_nearAny := by decide +kernel
  have hl := lv_entry ([.ref (a 1), .int x0]) (n := 4) (Nat.le_of_ble_eq_true rfl)
  rw [lg_entry_eq]
  generalize (lg_sl ([.ref (a 1), .int x0]) ++ List.replicate (4 - (lg_sl ([.ref (a 1), .int x0])).length) Slot.unset).toArray = ls at hl ⊢
  have hl : lv_has ls 4 [(0, .ref (a 1)), (1, .int x0)] := hl
  have lp4 : ∀ (n4 : Nat) (y4_l2 : Int32) (y4_l3 : Int32) (ls : Array Slot), Rg 0 12 y4_l3 → lv_has ls 4 [(0, .ref (a 1)), (1, .int x0), (2, .int y4_l2), (3, .int y4_l3)] → 12 - y4_l3.toInt < (n4 : Int) → W p l e (headSpec wsX2_nearAny ({ frames := 0, cells := 0, slots := 0, locals := 0 })).room s m ([.ref (a 1), .int x0]).toArray below meth c s.heap [] 0 0 (MQ below (vp_Si (fun r => Rg (-2147483648) 2147483647 r ∧ True)) ([.ref (a 1), .int x0]).toArray s 0 0 (fun _ => False)) (F0 m 4 ls []) := by
    intro n4
    induction n4 with
    | zero =>
      intro y4_l2 y4_l3 ls g4_l3 hl hm4
      exact absurd rfl (me_z g4_l3 hm4)
    | succ n4 ih4 =>
      intro y4_l2 y4_l3 ls g4_l3 hl hm4
      refine lv_iload_n hx hb dX2_nearAny_4 rfl (lv_at hl 3 rfl) ?_
      refine lv_aload_n hx hb dX2_nearAny_5 rfl (lv_at hl 0 rfl) ?_
      refine va_get (D := D) (ci := 2) (v := .int (L 1 1)) (C := RX2) (T := TX2) (N := 3) hx hb hts hin2 hown hK hP 1 rfl rfl 1 (by decide) (hts (.fieldLink RX2 15 "MissedPoints$Net" "size" "I") (by decide +kernel)) (fun _ h9 => h9) rfl dX2_nearAny_6 ?_
      refine lv_icmp_ge (tgt := 35) hx hb dX2_nearAny_9 (by decide) (fun c444 => ?_) (fun c444 => ?_)
      · refine lv_iload_n hx hb dX2_nearAny_35 rfl (lv_at hl 2 rfl) ?_
        exact W.iret (v := y4_l2) hx hb hr (fun t ht hW => ⟨_, rfl, ⟨(rg_any y4_l2), trivial⟩, ht⟩) (fun q hq => absurd hq List.not_mem_nil) dX2_nearAny_36
      · have g445 : Rg 1 12 (L 1 1) := rg_ltr g4_l3 hL.1 (rg_nle c444) (by decide)
        have g446 : Rg 0 11 y4_l3 := rg_ltl g4_l3 hL.1 (rg_nle c444) (by decide)
        refine lv_iload_n hx hb dX2_nearAny_12 rfl (lv_at hl 1 rfl) ?_
        refine lv_iload_n hx hb dX2_nearAny_13 rfl (lv_at hl 3 rfl) ?_
        refine lv_ishr hx hb dX2_nearAny_14 ?_
        refine wk_topP (P := fun r => r = x0 >>> (y4_l3 &&& 31)) rfl (fun r447 qr447 => ?_)
        refine lv_iconst (v := 1) hx hb dX2_nearAny_15 (by decide) ?_
        refine wk_iandr hx hb dX2_nearAny_16 (by decide : Rg 1 1 (1 : Int32)) (by decide) (fun r448 hr448 qr448 => ?_)
        refine lv_if_eq (tgt := 29) hx hb dX2_nearAny_17 (by decide) (fun c449 => ?_) (fun c449 => ?_)
        · have g450 : Rg 0 0 r448 := wk_eql hr448 (by decide : Rg 0 0 (0 : Int32)) c449 (by decide)
          refine wk_iinc (lv' := fun r => [(3, .int r), (0, .ref (a 1)), (1, .int x0), (2, .int y4_l2)]) (e1 := 1) (f := 12) hx hb dX2_nearAny_29 hl (k := 3) rfl (by decide) g446 (by decide) (fun _ => rfl) (fun r451 ls hr451 er451 hl => ?_)
          refine lv_goto (tgt := 4) hx hb dX2_nearAny_32 (by decide) ?_
          exact ih4 y4_l2 r451 ls (show Rg 0 12 r451 from rg_w hr451 (by decide) (by decide)) (lv_sub (l' := [(0, .ref (a 1)), (1, .int x0), (2, .int y4_l2), (3, .int r451)]) hl [1, 2, 3, 0] rfl) (me_up hm4 er451 (by decide))
        · have g452 : Rg 1 1 r448 := rg_ne_lo (k := 0) hr448 (by decide) c449 (by decide)
          refine lv_iload_n hx hb dX2_nearAny_20 rfl (lv_at hl 2 rfl) ?_
          refine lv_aload_n hx hb dX2_nearAny_21 rfl (lv_at hl 0 rfl) ?_
          refine va_get (D := D) (ci := 2) (v := .ref (a 2)) (C := RX2) (T := TX2) (N := 3) hx hb hts hin2 hown hK hP 1 rfl rfl 0 (by decide) (hts (.fieldLink RX2 9 "MissedPoints$Net" "links" "[I") (by decide +kernel)) (fun _ h9 => h9) rfl dX2_nearAny_22 ?_
          refine lv_iload_n hx hb dX2_nearAny_25 rfl (lv_at hl 3 rfl) ?_
          refine wk_aldA hx hb hK hP 2 0 rfl rfl (rg_in g446 (by decide) (by decide)) dX2_nearAny_26 (fun r453 => ?_)
          refine lv_ior hx hb dX2_nearAny_27 ?_
          refine wk_topP (P := fun r => r = y4_l2 ||| r453) rfl (fun r454 qr454 => ?_)
          refine lv_istore_n (lv' := [(2, .int r454), (0, .ref (a 1)), (1, .int x0), (3, .int y4_l3)]) hx hb dX2_nearAny_28 rfl hl (by decide) rfl (fun ls hl => ?_)
          refine wk_iinc (lv' := fun r => [(3, .int r), (2, .int r454), (0, .ref (a 1)), (1, .int x0)]) (e1 := 1) (f := 12) hx hb dX2_nearAny_29 hl (k := 3) rfl (by decide) g446 (by decide) (fun _ => rfl) (fun r455 ls hr455 er455 hl => ?_)
          refine lv_goto (tgt := 4) hx hb dX2_nearAny_32 (by decide) ?_
          exact ih4 r454 r455 ls (show Rg 0 12 r455 from rg_w hr455 (by decide) (by decide)) (lv_sub (l' := [(0, .ref (a 1)), (1, .int x0), (2, .int r454), (3, .int r455)]) hl [2, 3, 1, 0] rfl) (me_up hm4 er455 (by decide))
  refine lv_iconst (v := 0) hx hb dX2_nearAny_0 (by decide) ?_
  refine lv_istore_n (lv' := [(2, .int 0), (0, .ref (a 1)), (1, .int x0)]) hx hb dX2_nearAny_1 rfl hl (by decide) rfl (fun ls hl => ?_)
  refine lv_iconst (v := 0) hx hb dX2_nearAny_2 (by decide) ?_
  refine lv_istore_n (lv' := [(3, .int 0), (2, .int 0), (0, .ref (a 1)), (1, .int x0)]) hx hb dX2_nearAny_3 rfl hl (by decide) rfl (fun ls hl => ?_)
  exact lp4 13 (0 : Int32) (0 : Int32) ls (by decide : Rg 0 12 (0 : Int32)) (lv_sub (l' := [(0, .ref (a 1)), (1, .int x0), (2, .int 0), (3, .int 0)]) hl [2, 3, 1, 0] rfl) (me_i (by decide : Rg 0 12 (0 : Int32)) (by decide))
set_option maxHeartbeats 4000000 in
set_option maxRecDepth 100000 in
theorem k_X2_lineCount (l : Launch) (D : va_G) (cI cS : ClassId) (a : Nat → Nat) (na nc N : Nat) (L u : SU) (hL : TyX L) (hN : N = 0 ∨ N = 24576) : Met l yX2_lineCount wsX2_lineCount ({ frames := 1, cells := 0, slots := 0, locals := 40 }) (PS D cI cS (wX cI cS a na nc N L u) [.ref (a 1)]) (vp_Si (fun r => Rg (-2147483648) 2147483647 r ∧ True)) 0 0 (fun _ => False) := by
  refine Met.ofW (cc := cX2_lineCount) (maxL := 3) (ret := (some .int)) (by decide) rfl ?_
  intro p e s m args below meth c s₁ B hml hv
  obtain ⟨rfl, hP, hKK⟩ := hv
  have hx := B.exec
  have hb := B.bytes
  have hr := B.returns
  have hts := atoms_spec (ws := wsX2_lineCount) B.pre
  have hown : s.vm.findClass RX2 = some m.cls := findClass_of_methodNamed B.named
  have hlocks := B.notSynchronized
  have hK := hKK.1
  have hin2 : ∀ w ∈ wsX20, w ∈ wsX2_lineCount := by decide +kernel
  have hl := lv_entry ([.ref (a 1)]) (n := 3) (Nat.le_of_ble_eq_true rfl)
  rw [lg_entry_eq]
  generalize (lg_sl ([.ref (a 1)]) ++ List.replicate (3 - (lg_sl ([.ref (a 1)])).length) Slot.unset).toArray = ls at hl ⊢
  have hl : lv_has ls 3 [(0, .ref (a 1))] := hl
  have lp4 : ∀ (n4 : Nat) (y4_l1 : Int32) (y4_l2 : Int32) (ls : Array Slot), Rg 0 12 y4_l2 → lv_has ls 3 [(0, .ref (a 1)), (1, .int y4_l1), (2, .int y4_l2)] → 12 - y4_l2.toInt < (n4 : Int) → W p l e (headSpec wsX2_lineCount ({ frames := 1, cells := 0, slots := 0, locals := 40 })).room s m ([.ref (a 1)]).toArray below meth c s.heap [] 0 0 (MQ below (vp_Si (fun r => Rg (-2147483648) 2147483647 r ∧ True)) ([.ref (a 1)]).toArray s 0 0 (fun _ => False)) (F0 m 4 ls []) := by
    intro n4
    induction n4 with
    | zero =>
      intro y4_l1 y4_l2 ls g4_l2 hl hm4
      exact absurd rfl (me_z g4_l2 hm4)
    | succ n4 ih4 =>
      intro y4_l1 y4_l2 ls g4_l2 hl hm4
      refine lv_iload_n hx hb dX2_lineCount_4 rfl (lv_at hl 2 rfl) ?_
      refine lv_aload_n hx hb dX2_lineCount_5 rfl (lv_at hl 0 rfl) ?_
      refine va_get (D := D) (ci := 2) (v := .int (L 1 1)) (C := RX2) (T := TX2) (N := 3) hx hb hts hin2 hown hK hP 1 rfl rfl 1 (by decide) (hts (.fieldLink RX2 15 "MissedPoints$Net" "size" "I") (by decide +kernel)) (fun _ h9 => h9) rfl dX2_lineCount_6 ?_
      refine lv_icmp_ge (tgt := 30) hx hb dX2_lineCount_9 (by decide) (fun c536 => ?_) (fun c536 => ?_)
      · refine lv_iload_n hx hb dX2_lineCount_30 rfl (lv_at hl 1 rfl) ?_
        refine lv_iconst (v := 2) hx hb dX2_lineCount_31 (by decide) ?_
        refine lv_idiv hx hb dX2_lineCount_32 (by decide) ?_
        refine wk_any (fun r537 => ?_)
        exact W.iret (v := r537) hx hb hr (fun t ht hW => ⟨_, rfl, ⟨(rg_any r537), trivial⟩, ht⟩) (fun q hq => absurd hq List.not_mem_nil) dX2_lineCount_33
      · have g538 : Rg 1 12 (L 1 1) := rg_ltr g4_l2 hL.1 (rg_nle c536) (by decide)
        have g539 : Rg 0 11 y4_l2 := rg_ltl g4_l2 hL.1 (rg_nle c536) (by decide)
        refine lv_iload_n hx hb dX2_lineCount_12 rfl (lv_at hl 1 rfl) ?_
        refine lv_aload_n hx hb dX2_lineCount_13 rfl (lv_at hl 0 rfl) ?_
        refine va_get (D := D) (ci := 2) (v := .ref (a 2)) (C := RX2) (T := TX2) (N := 3) hx hb hts hin2 hown hK hP 1 rfl rfl 0 (by decide) (hts (.fieldLink RX2 9 "MissedPoints$Net" "links" "[I") (by decide +kernel)) (fun _ h9 => h9) rfl dX2_lineCount_14 ?_
        refine lv_iload_n hx hb dX2_lineCount_17 rfl (lv_at hl 2 rfl) ?_
        refine wk_aldA hx hb hK hP 2 0 rfl rfl (rg_in g539 (by decide) (by decide)) dX2_lineCount_18 (fun r540 => ?_)
        refine lz_ss (As := [.int r540]) (rest := [.int y4_l1]) ⟨hx, hb, hml, hown, hts⟩ (k_J6_bitCount_0f7a4 l D cI cS r540) hKK (hP.sub (ws' := []) [] rfl) (va_cwS 1 hts gX2_lineCount_J6_bitCount_0f7a4 rfl rfl rfl (by decide +kernel) ⟨Nat.le_of_ble_eq_true rfl, Nat.le_of_ble_eq_true rfl⟩) rfl hl.1 rfl (Nat.le_of_ble_eq_true rfl) dX2_lineCount_19 ⟨Nat.le_of_ble_eq_true rfl, Nat.le_of_ble_eq_true rfl⟩ (fun r541 hr541 => ?_)
        refine lv_iadd hx hb dX2_lineCount_22 ?_
        refine wk_topP (P := fun r => r = y4_l1 + r541) rfl (fun r542 qr542 => ?_)
        refine lv_istore_n (lv' := [(1, .int r542), (0, .ref (a 1)), (2, .int y4_l2)]) hx hb dX2_lineCount_23 rfl hl (by decide) rfl (fun ls hl => ?_)
        refine wk_iinc (lv' := fun r => [(2, .int r), (1, .int r542), (0, .ref (a 1))]) (e1 := 1) (f := 12) hx hb dX2_lineCount_24 hl (k := 2) rfl (by decide) g539 (by decide) (fun _ => rfl) (fun r543 ls hr543 er543 hl => ?_)
        refine lv_goto (tgt := 4) hx hb dX2_lineCount_27 (by decide) ?_
        exact ih4 r542 r543 ls (show Rg 0 12 r543 from rg_w hr543 (by decide) (by decide)) (lv_sub (l' := [(0, .ref (a 1)), (1, .int r542), (2, .int r543)]) hl [2, 1, 0] rfl) (me_up hm4 er543 (by decide))
  refine lv_iconst (v := 0) hx hb dX2_lineCount_0 (by decide) ?_
  refine lv_istore_n (lv' := [(1, .int 0), (0, .ref (a 1))]) hx hb dX2_lineCount_1 rfl hl (by decide) rfl (fun ls hl => ?_)
  refine lv_iconst (v := 0) hx hb dX2_lineCount_2 (by decide) ?_
  refine lv_istore_n (lv' := [(2, .int 0), (1, .int 0), (0, .ref (a 1))]) hx hb dX2_lineCount_3 rfl hl (by decide) rfl (fun ls hl => ?_)
  exact lp4 13 (0 : Int32) (0 : Int32) ls (by decide : Rg 0 12 (0 : Int32)) (lv_sub (l' := [(0, .ref (a 1)), (1, .int 0), (2, .int 0)]) hl [2, 1, 0] rfl) (me_i (by decide : Rg 0 12 (0 : Int32)) (by decide))
set_option maxRecDepth 20000 in
theorem ggX2_firstPiece_J6_lowestOneBit_0f7a4 : GoodIn wsX2_firstPiece wsJ6_lowestOneBit_0f7a4 := goodIn_r _ [4] (by decide +kernel) (by decide +kernel)
set_option maxRecDepth 20000 in
theorem gX2_firstPiece_J6_lowestOneBit_0f7a4 : GoodIn wsX2_firstPiece (va_wsS RX2 75 yJ6_lowestOneBit_0f7a4 wsJ6_lowestOneBit_0f7a4) := goodIn_app (goodIn_of _ (by decide +kernel)) ggX2_firstPiece_J6_lowestOneBit_0f7a4
set_option maxRecDepth 20000 in
theorem ggX2_firstPiece_J6_numberOfTrailingZeros_0f7a4 : GoodIn wsX2_firstPiece wsJ6_numberOfTrailingZeros_0f7a4 := goodIn_r _ [7, 8] (by decide +kernel) (by decide +kernel)
set_option maxRecDepth 20000 in
theorem gX2_firstPiece_J6_numberOfTrailingZeros_0f7a4 : GoodIn wsX2_firstPiece (va_wsS RX2 78 yJ6_numberOfTrailingZeros_0f7a4 wsJ6_numberOfTrailingZeros_0f7a4) := goodIn_app (goodIn_of _ (by decide +kernel)) ggX2_firstPiece_J6_numberOfTrailingZeros_0f7a4
theorem dX2_firstPiece_0 : decode cX2_firstPiece 0 = .ok (.iload_n 1, 1) := by decide +kernel
theorem dX2_firstPiece_1 : decode cX2_firstPiece 1 = .ok (.invokestatic 75, 3) := by decide +kernel
theorem dX2_firstPiece_10 : decode cX2_firstPiece 10 = .ok (.iload 4, 2) := by decide +kernel
theorem dX2_firstPiece_12 : decode cX2_firstPiece 12 = .ok (.bipush 12, 2) := by decide +kernel
theorem dX2_firstPiece_14 : decode cX2_firstPiece 14 = .ok (.if_icmp .ge 56, 3) := by decide +kernel
theorem dX2_firstPiece_17 : decode cX2_firstPiece 17 = .ok (.iload_n 3, 1) := by decide +kernel
theorem dX2_firstPiece_18 : decode cX2_firstPiece 18 = .ok (.ifCond .eq 52, 3) := by decide +kernel
theorem dX2_firstPiece_21 : decode cX2_firstPiece 21 = .ok (.iload_n 3, 1) := by decide +kernel
theorem dX2_firstPiece_22 : decode cX2_firstPiece 22 = .ok (.invokestatic 78, 3) := by decide +kernel
theorem dX2_firstPiece_25 : decode cX2_firstPiece 25 = .ok (.istore 5, 2) := by decide +kernel
theorem dX2_firstPiece_27 : decode cX2_firstPiece 27 = .ok (.iload 5, 2) := by decide +kernel
theorem dX2_firstPiece_29 : decode cX2_firstPiece 29 = .ok (.aload_n 0, 1) := by decide +kernel
theorem dX2_firstPiece_30 : decode cX2_firstPiece 30 = .ok (.arraylength, 1) := by decide +kernel
theorem dX2_firstPiece_31 : decode cX2_firstPiece 31 = .ok (.if_icmp .lt 5, 3) := by decide +kernel
theorem dX2_firstPiece_34 : decode cX2_firstPiece 34 = .ok (.iload_n 2, 1) := by decide +kernel
theorem dX2_firstPiece_35 : decode cX2_firstPiece 35 = .ok (.ireturn, 1) := by decide +kernel
theorem dX2_firstPiece_36 : decode cX2_firstPiece 36 = .ok (.iload_n 3, 1) := by decide +kernel
theorem dX2_firstPiece_37 : decode cX2_firstPiece 37 = .ok (.iload_n 3, 1) := by decide +kernel
theorem dX2_firstPiece_38 : decode cX2_firstPiece 38 = .ok (.iconst 1, 1) := by decide +kernel
theorem dX2_firstPiece_39 : decode cX2_firstPiece 39 = .ok (.isub, 1) := by decide +kernel
theorem dX2_firstPiece_4 : decode cX2_firstPiece 4 = .ok (.istore_n 2, 1) := by decide +kernel
theorem dX2_firstPiece_40 : decode cX2_firstPiece 40 = .ok (.iand, 1) := by decide +kernel
theorem dX2_firstPiece_41 : decode cX2_firstPiece 41 = .ok (.istore_n 3, 1) := by decide +kernel
theorem dX2_firstPiece_42 : decode cX2_firstPiece 42 = .ok (.aload_n 0, 1) := by decide +kernel
theorem dX2_firstPiece_43 : decode cX2_firstPiece 43 = .ok (.iload 5, 2) := by decide +kernel
theorem dX2_firstPiece_45 : decode cX2_firstPiece 45 = .ok (.iaload, 1) := by decide +kernel
theorem dX2_firstPiece_46 : decode cX2_firstPiece 46 = .ok (.iload_n 1, 1) := by decide +kernel
theorem dX2_firstPiece_47 : decode cX2_firstPiece 47 = .ok (.iand, 1) := by decide +kernel
theorem dX2_firstPiece_48 : decode cX2_firstPiece 48 = .ok (.iload_n 2, 1) := by decide +kernel
theorem dX2_firstPiece_49 : decode cX2_firstPiece 49 = .ok (.iconst (-1), 1) := by decide +kernel
theorem dX2_firstPiece_5 : decode cX2_firstPiece 5 = .ok (.iload_n 2, 1) := by decide +kernel
theorem dX2_firstPiece_50 : decode cX2_firstPiece 50 = .ok (.ixor, 1) := by decide +kernel
theorem dX2_firstPiece_51 : decode cX2_firstPiece 51 = .ok (.iand, 1) := by decide +kernel
theorem dX2_firstPiece_52 : decode cX2_firstPiece 52 = .ok (.istore 6, 2) := by decide +kernel
theorem dX2_firstPiece_54 : decode cX2_firstPiece 54 = .ok (.iload_n 2, 1) := by decide +kernel
theorem dX2_firstPiece_55 : decode cX2_firstPiece 55 = .ok (.iload 6, 2) := by decide +kernel
theorem dX2_firstPiece_57 : decode cX2_firstPiece 57 = .ok (.ior, 1) := by decide +kernel
theorem dX2_firstPiece_58 : decode cX2_firstPiece 58 = .ok (.istore_n 2, 1) := by decide +kernel
theorem dX2_firstPiece_59 : decode cX2_firstPiece 59 = .ok (.iload_n 3, 1) := by decide +kernel
theorem dX2_firstPiece_6 : decode cX2_firstPiece 6 = .ok (.istore_n 3, 1) := by decide +kernel
theorem dX2_firstPiece_60 : decode cX2_firstPiece 60 = .ok (.iload 6, 2) := by decide +kernel
theorem dX2_firstPiece_62 : decode cX2_firstPiece 62 = .ok (.ior, 1) := by decide +kernel
theorem dX2_firstPiece_63 : decode cX2_firstPiece 63 = .ok (.istore_n 3, 1) := by decide +kernel
theorem dX2_firstPiece_64 : decode cX2_firstPiece 64 = .ok (.iinc 4 1, 3) := by decide +kernel
theorem dX2_firstPiece_67 : decode cX2_firstPiece 67 = .ok (.goto (-57), 3) := by decide +kernel
theorem dX2_firstPiece_7 : decode cX2_firstPiece 7 = .ok (.iconst 0, 1) := by decide +kernel
theorem dX2_firstPiece_70 : decode cX2_firstPiece 70 = .ok (.iload_n 2, 1) := by decide +kernel
theorem dX2_firstPiece_71 : decode cX2_firstPiece 71 = .ok (.ireturn, 1) := by decide +kernel
theorem dX2_firstPiece_8 : decode cX2_firstPiece 8 = .ok (.istore 4, 2) := by decide +kernel
set_option maxHeartbeats 4000000 in
set_option maxRecDepth 100000 in
theorem k_X2_firstPiece (l : Launch) (D : va_G) (cI cS : ClassId) (a : Nat → Nat) (na nc N : Nat) (L u : SU) (hL : TyX L) (hN : N = 0 ∨ N = 24576) (x0 : Int32) : Met l yX2_firstPiece wsX2_firstPiece ({ frames := 1, cells := 0, slots := 0, locals := 40 }) (PS D cI cS (wX cI cS a na nc N L u) [.ref (a 2), .int x0]) (vp_Si (fun r => Rg (-2147483648) 2147483647 r ∧ True)) 0 0 (fun _ => False) := by
  refine Met.ofW (cc := cX2_firstPiece) (maxL := 7) (ret := (some .int)) (by decide) rfl ?_
  intro p e s m args below meth c s₁ B hml hv
  obtain ⟨rfl, hP, hKK⟩ := hv
  have hx := B.exec
  have hb := B.bytes
  have hr := B.returns
  have hts := atoms_spec (ws := wsX2_firstPiece) B.pre
  have hown : s.vm.findClass RX2 = some m.cls := findClass_of_methodNamed B.named
  have hlocks := B.notSynchronized
  have hK := hKK.1
  have hl := lv_entry ([.ref (a 2), .int x0]) (n := 7) (Nat.le_of_ble_eq_true rfl)
  rw [lg_entry_eq]
  generalize (lg_sl ([.ref (a 2), .int x0]) ++ List.replicate (7 - (lg_sl ([.ref (a 2), .int x0])).length) Slot.unset).toArray = ls at hl ⊢
  have hl : lv_has ls 7 [(0, .ref (a 2)), (1, .int x0)] := hl
  have lp10 : ∀ (n10 : Nat) (y10_l2 : Int32) (y10_l3 : Int32) (y10_l4 : Int32) (ls : Array Slot), Rg 0 12 y10_l4 → lv_has ls 7 [(0, .ref (a 2)), (1, .int x0), (2, .int y10_l2), (3, .int y10_l3), (4, .int y10_l4)] → 12 - y10_l4.toInt < (n10 : Int) → W p l e (headSpec wsX2_firstPiece ({ frames := 1, cells := 0, slots := 0, locals := 40 })).room s m ([.ref (a 2), .int x0]).toArray below meth c s.heap [] 0 0 (MQ below (vp_Si (fun r => Rg (-2147483648) 2147483647 r ∧ True)) ([.ref (a 2), .int x0]).toArray s 0 0 (fun _ => False)) (F0 m 10 ls []) := by
    intro n10
    induction n10 with
    | zero =>
      intro y10_l2 y10_l3 y10_l4 ls g10_l4 hl hm10
      exact absurd rfl (me_z g10_l4 hm10)
    | succ n10 ih10 =>
      intro y10_l2 y10_l3 y10_l4 ls g10_l4 hl hm10
      refine lv_iload hx hb dX2_firstPiece_10 (lv_at hl 4 rfl) ?_
      refine lv_bipush (v := 12) hx hb dX2_firstPiece_12 (by decide) ?_
      refine lv_icmp_ge (tgt := 70) hx hb dX2_firstPiece_14 (by decide) (fun c698 => ?_) (fun c698 => ?_)
      · have g699 : Rg 12 12 y10_l4 := rg_ler (by decide : Rg 12 12 (12 : Int32)) g10_l4 c698 (by decide)
        refine lv_iload_n hx hb dX2_firstPiece_70 rfl (lv_at hl 2 rfl) ?_
        exact W.iret (v := y10_l2) hx hb hr (fun t ht hW => ⟨_, rfl, ⟨(rg_any y10_l2), trivial⟩, ht⟩) (fun q hq => absurd hq List.not_mem_nil) dX2_firstPiece_71
      · have g700 : Rg 0 11 y10_l4 := rg_ltl g10_l4 (by decide : Rg 12 12 (12 : Int32)) (rg_nle c698) (by decide)
        refine lv_iload_n hx hb dX2_firstPiece_17 rfl (lv_at hl 3 rfl) ?_
        refine lv_if_eq (tgt := 70) hx hb dX2_firstPiece_18 (by decide) (fun c701 => ?_) (fun c701 => ?_)
        · have g702 : Rg 0 0 y10_l3 := wk_eql (rg_any y10_l3) (by decide : Rg 0 0 (0 : Int32)) c701 (by decide)
          refine lv_iload_n hx hb dX2_firstPiece_70 rfl (lv_at hl 2 rfl) ?_
          exact W.iret (v := y10_l2) hx hb hr (fun t ht hW => ⟨_, rfl, ⟨(rg_any y10_l2), trivial⟩, ht⟩) (fun q hq => absurd hq List.not_mem_nil) dX2_firstPiece_71
        · refine lv_iload_n hx hb dX2_firstPiece_21 rfl (lv_at hl 3 rfl) ?_
          refine lz_ss (As := [.int y10_l3]) (rest := []) ⟨hx, hb, hml, hown, hts⟩ (k_J6_numberOfTrailingZeros_0f7a4 l D cI cS y10_l3) hKK (hP.sub (ws' := []) [] rfl) (va_cwS 1 hts gX2_firstPiece_J6_numberOfTrailingZeros_0f7a4 rfl rfl rfl (by decide +kernel) ⟨Nat.le_of_ble_eq_true rfl, Nat.le_of_ble_eq_true rfl⟩) rfl hl.1 rfl (Nat.le_of_ble_eq_true rfl) dX2_firstPiece_22 ⟨Nat.le_of_ble_eq_true rfl, Nat.le_of_ble_eq_true rfl⟩ (fun r703 hr703 => ?_)
          refine lv_istore (lv' := [(5, .int r703), (0, .ref (a 2)), (1, .int x0), (2, .int y10_l2), (3, .int y10_l3), (4, .int y10_l4)]) hx hb dX2_firstPiece_25 hl (by decide) rfl (fun ls hl => ?_)
          refine lv_iload hx hb dX2_firstPiece_27 (lv_at hl 0 rfl) ?_
          refine lv_aload_n hx hb dX2_firstPiece_29 rfl (lv_at hl 1 rfl) ?_
          refine va_alen hx hb hK hP 2 0 rfl rfl (v := 12) rfl dX2_firstPiece_30 ?_
          refine lv_icmp_lt (tgt := 36) hx hb dX2_firstPiece_31 (by decide) (fun c704 => ?_) (fun c704 => ?_)
          · have g705 : Rg 0 11 r703 := rg_ltl hr703.1 (by decide : Rg 12 12 (12 : Int32)) c704 (by decide)
            refine lv_iload_n hx hb dX2_firstPiece_36 rfl (lv_at hl 4 rfl) ?_
            refine lv_iload_n hx hb dX2_firstPiece_37 rfl (lv_at hl 4 rfl) ?_
            refine lv_iconst (v := 1) hx hb dX2_firstPiece_38 (by decide) ?_
            refine lv_isub hx hb dX2_firstPiece_39 ?_
            refine wk_topP (P := fun r => r = y10_l3 - (1 : Int32)) rfl (fun r706 qr706 => ?_)
            refine lv_iand hx hb dX2_firstPiece_40 ?_
            refine wk_topP (P := fun r => r = y10_l3 &&& r706) rfl (fun r707 qr707 => ?_)
            refine lv_istore_n (lv' := [(3, .int r707), (5, .int r703), (0, .ref (a 2)), (1, .int x0), (2, .int y10_l2), (4, .int y10_l4)]) hx hb dX2_firstPiece_41 rfl hl (by decide) rfl (fun ls hl => ?_)
            refine lv_aload_n hx hb dX2_firstPiece_42 rfl (lv_at hl 2 rfl) ?_
            refine lv_iload hx hb dX2_firstPiece_43 (lv_at hl 1 rfl) ?_
            refine wk_aldA hx hb hK hP 2 0 rfl rfl (rg_in g705 (by decide) (by decide)) dX2_firstPiece_45 (fun r708 => ?_)
            refine lv_iload_n hx hb dX2_firstPiece_46 rfl (lv_at hl 3 rfl) ?_
            refine lv_iand hx hb dX2_firstPiece_47 ?_
            refine wk_topP (P := fun r => r = r708 &&& x0) rfl (fun r709 qr709 => ?_)
            refine lv_iload_n hx hb dX2_firstPiece_48 rfl (lv_at hl 4 rfl) ?_
            refine lv_iconst (v := (-1)) hx hb dX2_firstPiece_49 (by decide) ?_
            refine lv_ixor hx hb dX2_firstPiece_50 ?_
            refine wk_topP (P := fun r => r = y10_l2 ^^^ ((-1) : Int32)) rfl (fun r710 qr710 => ?_)
            refine lv_iand hx hb dX2_firstPiece_51 ?_
            refine wk_topP (P := fun r => r = r709 &&& r710) rfl (fun r711 qr711 => ?_)
            refine lv_istore (lv' := [(6, .int r711), (3, .int r707), (5, .int r703), (0, .ref (a 2)), (1, .int x0), (2, .int y10_l2), (4, .int y10_l4)]) hx hb dX2_firstPiece_52 hl (by decide) rfl (fun ls hl => ?_)
            refine lv_iload_n hx hb dX2_firstPiece_54 rfl (lv_at hl 5 rfl) ?_
            refine lv_iload hx hb dX2_firstPiece_55 (lv_at hl 0 rfl) ?_
            refine lv_ior hx hb dX2_firstPiece_57 ?_
            refine wk_topP (P := fun r => r = y10_l2 ||| r711) rfl (fun r712 qr712 => ?_)
            refine lv_istore_n (lv' := [(2, .int r712), (6, .int r711), (3, .int r707), (5, .int r703), (0, .ref (a 2)), (1, .int x0), (4, .int y10_l4)]) hx hb dX2_firstPiece_58 rfl hl (by decide) rfl (fun ls hl => ?_)
            refine lv_iload_n hx hb dX2_firstPiece_59 rfl (lv_at hl 2 rfl) ?_
            refine lv_iload hx hb dX2_firstPiece_60 (lv_at hl 1 rfl) ?_
            refine lv_ior hx hb dX2_firstPiece_62 ?_
            refine wk_topP (P := fun r => r = r707 ||| r711) rfl (fun r713 qr713 => ?_)
            refine lv_istore_n (lv' := [(3, .int r713), (2, .int r712), (6, .int r711), (5, .int r703), (0, .ref (a 2)), (1, .int x0), (4, .int y10_l4)]) hx hb dX2_firstPiece_63 rfl hl (by decide) rfl (fun ls hl => ?_)
            refine wk_iinc (lv' := fun r => [(4, .int r), (3, .int r713), (2, .int r712), (6, .int r711), (5, .int r703), (0, .ref (a 2)), (1, .int x0)]) (e1 := 1) (f := 12) hx hb dX2_firstPiece_64 hl (k := 6) rfl (by decide) g700 (by decide) (fun _ => rfl) (fun r714 ls hr714 er714 hl => ?_)
            refine lv_goto (tgt := 10) hx hb dX2_firstPiece_67 (by decide) ?_
            exact ih10 r712 r713 r714 ls (show Rg 0 12 r714 from rg_w hr714 (by decide) (by decide)) (lv_sub (l' := [(0, .ref (a 2)), (1, .int x0), (2, .int r712), (3, .int r713), (4, .int r714)]) hl [5, 6, 2, 1, 0] rfl) (me_up hm10 er714 (by decide))
          · have g715 : Rg 12 33 r703 := rg_ler (by decide : Rg 12 12 (12 : Int32)) hr703.1 (rg_nlt c704) (by decide)
            refine lv_iload_n hx hb dX2_firstPiece_34 rfl (lv_at hl 3 rfl) ?_
            exact W.iret (v := y10_l2) hx hb hr (fun t ht hW => ⟨_, rfl, ⟨(rg_any y10_l2), trivial⟩, ht⟩) (fun q hq => absurd hq List.not_mem_nil) dX2_firstPiece_35
  refine lv_iload_n hx hb dX2_firstPiece_0 rfl (lv_at hl 1 rfl) ?_
  refine lz_ss (As := [.int x0]) (rest := []) ⟨hx, hb, hml, hown, hts⟩ (k_J6_lowestOneBit_0f7a4 l D cI cS x0) hKK (hP.sub (ws' := []) [] rfl) (va_cwS 1 hts gX2_firstPiece_J6_lowestOneBit_0f7a4 rfl rfl rfl (by decide +kernel) ⟨Nat.le_of_ble_eq_true rfl, Nat.le_of_ble_eq_true rfl⟩) rfl hl.1 rfl (Nat.le_of_ble_eq_true rfl) dX2_firstPiece_1 ⟨Nat.le_of_ble_eq_true rfl, Nat.le_of_ble_eq_true rfl⟩ (fun r716 hr716 => ?_)
  refine lv_istore_n (lv' := [(2, .int r716), (0, .ref (a 2)), (1, .int x0)]) hx hb dX2_firstPiece_4 rfl hl (by decide) rfl (fun ls hl => ?_)
  refine lv_iload_n hx hb dX2_firstPiece_5 rfl (lv_at hl 0 rfl) ?_
  refine lv_istore_n (lv' := [(3, .int r716), (2, .int r716), (0, .ref (a 2)), (1, .int x0)]) hx hb dX2_firstPiece_6 rfl hl (by decide) rfl (fun ls hl => ?_)
  refine lv_iconst (v := 0) hx hb dX2_firstPiece_7 (by decide) ?_
  refine lv_istore (lv' := [(4, .int 0), (3, .int r716), (2, .int r716), (0, .ref (a 2)), (1, .int x0)]) hx hb dX2_firstPiece_8 hl (by decide) rfl (fun ls hl => ?_)
  exact lp10 13 r716 r716 (0 : Int32) ls (by decide : Rg 0 12 (0 : Int32)) (lv_sub (l' := [(0, .ref (a 2)), (1, .int x0), (2, .int r716), (3, .int r716), (4, .int 0)]) hl [3, 4, 2, 1, 0] rfl) (me_i (by decide : Rg 0 12 (0 : Int32)) (by decide))
set_option maxRecDepth 20000 in
theorem ggX2_pieceCount_X2_firstPiece : GoodIn wsX2_pieceCount wsX2_firstPiece := goodIn_r _ [10, 11, 12, 13, 14, 15, 16, 17, 18] (by decide +kernel) (by decide +kernel)
set_option maxRecDepth 20000 in
theorem gX2_pieceCount_X2_firstPiece : GoodIn wsX2_pieceCount (va_wsS RX2 71 yX2_firstPiece wsX2_firstPiece) := goodIn_app (goodIn_of _ (by decide +kernel)) ggX2_pieceCount_X2_firstPiece
theorem dX2_pieceCount_23 : decode cX2_pieceCount 23 = .ok (.iload_n 2, 1) := by decide +kernel
theorem dX2_pieceCount_24 : decode cX2_pieceCount 24 = .ok (.aload_n 0, 1) := by decide +kernel
theorem dX2_pieceCount_25 : decode cX2_pieceCount 25 = .ok (.getfield 9, 3) := by decide +kernel
theorem dX2_pieceCount_28 : decode cX2_pieceCount 28 = .ok (.iload_n 2, 1) := by decide +kernel
theorem dX2_pieceCount_29 : decode cX2_pieceCount 29 = .ok (.invokestatic 71, 3) := by decide +kernel
theorem dX2_pieceCount_32 : decode cX2_pieceCount 32 = .ok (.iconst (-1), 1) := by decide +kernel
theorem dX2_pieceCount_33 : decode cX2_pieceCount 33 = .ok (.ixor, 1) := by decide +kernel
theorem dX2_pieceCount_34 : decode cX2_pieceCount 34 = .ok (.iand, 1) := by decide +kernel
theorem dX2_pieceCount_35 : decode cX2_pieceCount 35 = .ok (.istore_n 2, 1) := by decide +kernel
theorem dX2_pieceCount_36 : decode cX2_pieceCount 36 = .ok (.iinc 3 1, 3) := by decide +kernel
theorem dX2_pieceCount_39 : decode cX2_pieceCount 39 = .ok (.iinc 4 1, 3) := by decide +kernel
theorem dX2_pieceCount_42 : decode cX2_pieceCount 42 = .ok (.goto (-30), 3) := by decide +kernel
set_option maxHeartbeats 4000000 in
set_option maxRecDepth 100000 in
theorem k_X2_pieceCount (l : Launch) (D : va_G) (cI cS : ClassId) (a : Nat → Nat) (na nc N : Nat) (L u : SU) (hL : TyX L) (hN : N = 0 ∨ N = 24576) (x0 : Int32) : Met l yX2_pieceCount wsX2_pieceCount ({ frames := 2, cells := 0, slots := 0, locals := 80 }) (PS D cI cS (wX cI cS a na nc N L u) [.ref (a 1), .int x0]) (vp_Si (fun r => Rg (-2147483648) 2147483647 r ∧ True)) 0 0 (fun _ => False) := by
  refine Met.ofW (cc := cX2_pieceCount) (maxL := 5) (ret := (some .int)) (by decide) rfl ?_
  intro p e s m args below meth c s₁ B hml hv
  obtain ⟨rfl, hP, hKK⟩ := hv
  have hx := B.exec
  have hb := B.bytes
  have hr := B.returns
  have hts := atoms_spec (ws := wsX2_pieceCount) B.pre
  have hown : s.vm.findClass RX2 = some m.cls := findClass_of_methodNamed B.named
  have hlocks := B.notSynchronized
  have hK := hKK.1
  have hin2 : ∀ w ∈ wsX20, w ∈ wsX2_pieceCount := by decide +kernel
  have hl := lv_entry ([.ref (a 1), .int x0]) (n := 5) (Nat.le_of_ble_eq_true rfl)
  rw [lg_entry_eq]
  generalize (lg_sl ([.ref (a 1), .int x0]) ++ List.replicate (5 - (lg_sl ([.ref (a 1), .int x0])).length) Slot.unset).toArray = ls at hl ⊢
  have hl : lv_has ls 5 [(0, .ref (a 1)), (1, .int x0)] := hl
  have lp12 : ∀ (n12 : Nat) (y12_l2 : Int32) (y12_l3 : Int32) (y12_l4 : Int32) (ls : Array Slot), Rg 0 4095 y12_l2 → Rg 0 12 y12_l4 → lv_has ls 5 [(0, .ref (a 1)), (2, .int y12_l2), (3, .int y12_l3), (4, .int y12_l4)] → 12 - y12_l4.toInt < (n12 : Int) → W p l e (headSpec wsX2_pieceCount ({ frames := 2, cells := 0, slots := 0, locals := 80 })).room s m ([.ref (a 1), .int x0]).toArray below meth c s.heap [] 0 0 (MQ below (vp_Si (fun r => Rg (-2147483648) 2147483647 r ∧ True)) ([.ref (a 1), .int x0]).toArray s 0 0 (fun _ => False)) (F0 m 12 ls []) := by
    intro n12
    induction n12 with
    | zero =>
      intro y12_l2 y12_l3 y12_l4 ls g12_l2 g12_l4 hl hm12
      exact absurd rfl (me_z g12_l4 hm12)
    | succ n12 ih12 =>
      intro y12_l2 y12_l3 y12_l4 ls g12_l2 g12_l4 hl hm12
      refine lv_iload hx hb dX2_pieceCount_12 (lv_at hl 3 rfl) ?_
      refine lv_bipush (v := 12) hx hb dX2_pieceCount_14 (by decide) ?_
      refine lv_icmp_ge (tgt := 45) hx hb dX2_pieceCount_16 (by decide) (fun c1076 => ?_) (fun c1076 => ?_)
      · have g1077 : Rg 12 12 y12_l4 := rg_ler (by decide : Rg 12 12 (12 : Int32)) g12_l4 c1076 (by decide)
        refine lv_iload_n hx hb dX2_pieceCount_45 rfl (lv_at hl 2 rfl) ?_
        exact W.iret (v := y12_l3) hx hb hr (fun t ht hW => ⟨_, rfl, ⟨(rg_any y12_l3), trivial⟩, ht⟩) (fun q hq => absurd hq List.not_mem_nil) dX2_pieceCount_46
      · have g1078 : Rg 0 11 y12_l4 := rg_ltl g12_l4 (by decide : Rg 12 12 (12 : Int32)) (rg_nle c1076) (by decide)
        refine lv_iload_n hx hb dX2_pieceCount_19 rfl (lv_at hl 1 rfl) ?_
        refine lv_if_eq (tgt := 45) hx hb dX2_pieceCount_20 (by decide) (fun c1079 => ?_) (fun c1079 => ?_)
        · have g1080 : Rg 0 0 y12_l2 := wk_eql g12_l2 (by decide : Rg 0 0 (0 : Int32)) c1079 (by decide)
          refine lv_iload_n hx hb dX2_pieceCount_45 rfl (lv_at hl 2 rfl) ?_
          exact W.iret (v := y12_l3) hx hb hr (fun t ht hW => ⟨_, rfl, ⟨(rg_any y12_l3), trivial⟩, ht⟩) (fun q hq => absurd hq List.not_mem_nil) dX2_pieceCount_46
        · have g1081 : Rg 1 4095 y12_l2 := rg_ne_lo (k := 0) g12_l2 (by decide) c1079 (by decide)
          refine lv_iload_n hx hb dX2_pieceCount_23 rfl (lv_at hl 1 rfl) ?_
          refine lv_aload_n hx hb dX2_pieceCount_24 rfl (lv_at hl 0 rfl) ?_
          refine va_get (D := D) (ci := 2) (v := .ref (a 2)) (C := RX2) (T := TX2) (N := 3) hx hb hts hin2 hown hK hP 1 rfl rfl 0 (by decide) (hts (.fieldLink RX2 9 "MissedPoints$Net" "links" "[I") (by decide +kernel)) (fun _ h9 => h9) rfl dX2_pieceCount_25 ?_
          refine lv_iload_n hx hb dX2_pieceCount_28 rfl (lv_at hl 1 rfl) ?_
          refine lz_ss (As := [.ref (a 2), .int y12_l2]) (rest := [.int y12_l2]) ⟨hx, hb, hml, hown, hts⟩ (k_X2_firstPiece l D cI cS a na nc N L u hL hN y12_l2) hKK hP (va_cwS 2 hts gX2_pieceCount_X2_firstPiece rfl rfl rfl (by decide +kernel) ⟨Nat.le_of_ble_eq_true rfl, Nat.le_of_ble_eq_true rfl⟩) rfl hl.1 rfl (Nat.le_of_ble_eq_true rfl) dX2_pieceCount_29 ⟨Nat.le_of_ble_eq_true rfl, Nat.le_of_ble_eq_true rfl⟩ (fun r1082 hr1082 => ?_)
          refine lv_iconst (v := (-1)) hx hb dX2_pieceCount_32 (by decide) ?_
          refine lv_ixor hx hb dX2_pieceCount_33 ?_
          refine wk_topP (P := fun r => r = r1082 ^^^ ((-1) : Int32)) rfl (fun r1083 qr1083 => ?_)
          refine wk_iandl hx hb dX2_pieceCount_34 g1081 (by decide) (fun r1084 hr1084 qr1084 => ?_)
          refine lv_istore_n (lv' := [(2, .int r1084), (0, .ref (a 1)), (3, .int y12_l3), (4, .int y12_l4)]) hx hb dX2_pieceCount_35 rfl hl (by decide) rfl (fun ls hl => ?_)
          refine wk_iincA (lv' := fun r => [(3, .int r), (2, .int r1084), (0, .ref (a 1)), (4, .int y12_l4)]) hx hb dX2_pieceCount_36 hl (k := 2) rfl (by decide) (fun _ => rfl) (fun r1085 ls hl => ?_)
          refine wk_iinc (lv' := fun r => [(4, .int r), (3, .int r1085), (2, .int r1084), (0, .ref (a 1))]) (e1 := 1) (f := 12) hx hb dX2_pieceCount_39 hl (k := 3) rfl (by decide) g1078 (by decide) (fun _ => rfl) (fun r1086 ls hr1086 er1086 hl => ?_)
          refine lv_goto (tgt := 12) hx hb dX2_pieceCount_42 (by decide) ?_
          exact ih12 r1084 r1085 r1086 ls hr1084 (show Rg 0 12 r1086 from rg_w hr1086 (by decide) (by decide)) (lv_sub (l' := [(0, .ref (a 1)), (2, .int r1084), (3, .int r1085), (4, .int r1086)]) hl [3, 2, 1, 0] rfl) (me_up hm12 er1086 (by decide))
  refine lv_iload_n hx hb dX2_pieceCount_0 rfl (lv_at hl 1 rfl) ?_
  refine lv_aload_n hx hb dX2_pieceCount_1 rfl (lv_at hl 0 rfl) ?_
  refine wk_sv 1 (As := []) (rest := [.int x0]) ⟨hx, hb, hml, hown, hts⟩ (k_X2_all l D cI cS a na nc N L u hL hN) hKK hP (ci := 2) rfl rfl (cwV 0 hts gX2_pieceCount_X2_all rfl rfl rfl (by decide +kernel) ⟨Nat.le_of_ble_eq_true rfl, Nat.le_of_ble_eq_true rfl⟩) rfl hl.1 rfl (Nat.le_of_ble_eq_true rfl) dX2_pieceCount_2 ⟨Nat.le_of_ble_eq_true rfl, Nat.le_of_ble_eq_true rfl⟩ (fun r1087 hr1087 => ?_)
  refine wk_iandr hx hb dX2_pieceCount_5 hr1087.1 (by decide) (fun r1088 hr1088 qr1088 => ?_)
  refine lv_istore_n (lv' := [(2, .int r1088), (0, .ref (a 1)), (1, .int x0)]) hx hb dX2_pieceCount_6 rfl hl (by decide) rfl (fun ls hl => ?_)
  refine lv_iconst (v := 0) hx hb dX2_pieceCount_7 (by decide) ?_
  refine lv_istore_n (lv' := [(3, .int 0), (2, .int r1088), (0, .ref (a 1)), (1, .int x0)]) hx hb dX2_pieceCount_8 rfl hl (by decide) rfl (fun ls hl => ?_)
  refine lv_iconst (v := 0) hx hb dX2_pieceCount_9 (by decide) ?_
  refine lv_istore (lv' := [(4, .int 0), (3, .int 0), (2, .int r1088), (0, .ref (a 1)), (1, .int x0)]) hx hb dX2_pieceCount_10 hl (by decide) rfl (fun ls hl => ?_)
  exact lp12 13 r1088 (0 : Int32) (0 : Int32) ls hr1088 (by decide : Rg 0 12 (0 : Int32)) (lv_sub (l' := [(0, .ref (a 1)), (2, .int r1088), (3, .int 0), (4, .int 0)]) hl [3, 2, 1, 0] rfl) (me_i (by decide : Rg 0 12 (0 : Int32)) (by decide))
set_option maxRecDepth 20000 in
theorem ggX2_oddPieceCount_J6_bitCount_0f7a4 : GoodIn wsX2_oddPieceCount wsJ6_bitCount_0f7a4 := goodIn_r _ [21, 22, 23, 24] (by decide +kernel) (by decide +kernel)
set_option maxRecDepth 20000 in
theorem gX2_oddPieceCount_J6_bitCount_0f7a4 : GoodIn wsX2_oddPieceCount (va_wsS RX2 65 yJ6_bitCount_0f7a4 wsJ6_bitCount_0f7a4) := goodIn_app (goodIn_of _ (by decide +kernel)) ggX2_oddPieceCount_J6_bitCount_0f7a4
set_option maxRecDepth 20000 in
theorem ggX2_oddPieceCount_X2_firstPiece : GoodIn wsX2_oddPieceCount wsX2_firstPiece := goodIn_r _ [10, 11, 12, 13, 14, 15, 16, 17, 18] (by decide +kernel) (by decide +kernel)
set_option maxRecDepth 20000 in
theorem gX2_oddPieceCount_X2_firstPiece : GoodIn wsX2_oddPieceCount (va_wsS RX2 71 yX2_firstPiece wsX2_firstPiece) := goodIn_app (goodIn_of _ (by decide +kernel)) ggX2_oddPieceCount_X2_firstPiece
theorem dX2_oddPieceCount_23 : decode cX2_oddPieceCount 23 = .ok (.aload_n 0, 1) := by decide +kernel
theorem dX2_oddPieceCount_24 : decode cX2_oddPieceCount 24 = .ok (.getfield 9, 3) := by decide +kernel
theorem dX2_oddPieceCount_27 : decode cX2_oddPieceCount 27 = .ok (.iload_n 2, 1) := by decide +kernel
theorem dX2_oddPieceCount_28 : decode cX2_oddPieceCount 28 = .ok (.invokestatic 71, 3) := by decide +kernel
theorem dX2_oddPieceCount_31 : decode cX2_oddPieceCount 31 = .ok (.istore 5, 2) := by decide +kernel
theorem dX2_oddPieceCount_33 : decode cX2_oddPieceCount 33 = .ok (.iload_n 2, 1) := by decide +kernel
theorem dX2_oddPieceCount_34 : decode cX2_oddPieceCount 34 = .ok (.iload 5, 2) := by decide +kernel
theorem dX2_oddPieceCount_36 : decode cX2_oddPieceCount 36 = .ok (.iconst (-1), 1) := by decide +kernel
theorem dX2_oddPieceCount_37 : decode cX2_oddPieceCount 37 = .ok (.ixor, 1) := by decide +kernel
theorem dX2_oddPieceCount_38 : decode cX2_oddPieceCount 38 = .ok (.iand, 1) := by decide +kernel
theorem dX2_oddPieceCount_39 : decode cX2_oddPieceCount 39 = .ok (.istore_n 2, 1) := by decide +kernel
theorem dX2_oddPieceCount_40 : decode cX2_oddPieceCount 40 = .ok (.iload_n 3, 1) := by decide +kernel
theorem dX2_oddPieceCount_41 : decode cX2_oddPieceCount 41 = .ok (.iload 5, 2) := by decide +kernel
theorem dX2_oddPieceCount_43 : decode cX2_oddPieceCount 43 = .ok (.invokestatic 65, 3) := by decide +kernel
theorem dX2_oddPieceCount_46 : decode cX2_oddPieceCount 46 = .ok (.iconst 1, 1) := by decide +kernel
theorem dX2_oddPieceCount_47 : decode cX2_oddPieceCount 47 = .ok (.iand, 1) := by decide +kernel
theorem dX2_oddPieceCount_48 : decode cX2_oddPieceCount 48 = .ok (.iadd, 1) := by decide +kernel
theorem dX2_oddPieceCount_49 : decode cX2_oddPieceCount 49 = .ok (.istore_n 3, 1) := by decide +kernel
theorem dX2_oddPieceCount_50 : decode cX2_oddPieceCount 50 = .ok (.iinc 4 1, 3) := by decide +kernel
theorem dX2_oddPieceCount_53 : decode cX2_oddPieceCount 53 = .ok (.goto (-41), 3) := by decide +kernel
set_option maxHeartbeats 4000000 in
set_option maxRecDepth 100000 in
theorem k_X2_oddPieceCount (l : Launch) (D : va_G) (cI cS : ClassId) (a : Nat → Nat) (na nc N : Nat) (L u : SU) (hL : TyX L) (hN : N = 0 ∨ N = 24576) (x0 : Int32) : Met l yX2_oddPieceCount wsX2_oddPieceCount ({ frames := 2, cells := 0, slots := 0, locals := 80 }) (PS D cI cS (wX cI cS a na nc N L u) [.ref (a 1), .int x0]) (vp_Si (fun r => Rg (-2147483648) 2147483647 r ∧ True)) 0 0 (fun _ => False) := by
  refine Met.ofW (cc := cX2_oddPieceCount) (maxL := 6) (ret := (some .int)) (by decide) rfl ?_
  intro p e s m args below meth c s₁ B hml hv
  obtain ⟨rfl, hP, hKK⟩ := hv
  have hx := B.exec
  have hb := B.bytes
  have hr := B.returns
  have hts := atoms_spec (ws := wsX2_oddPieceCount) B.pre
  have hown : s.vm.findClass RX2 = some m.cls := findClass_of_methodNamed B.named
  have hlocks := B.notSynchronized
  have hK := hKK.1
  have hin2 : ∀ w ∈ wsX20, w ∈ wsX2_oddPieceCount := by decide +kernel
  have hl := lv_entry ([.ref (a 1), .int x0]) (n := 6) (Nat.le_of_ble_eq_true rfl)
  rw [lg_entry_eq]
  generalize (lg_sl ([.ref (a 1), .int x0]) ++ List.replicate (6 - (lg_sl ([.ref (a 1), .int x0])).length) Slot.unset).toArray = ls at hl ⊢
  have hl : lv_has ls 6 [(0, .ref (a 1)), (1, .int x0)] := hl
  have lp12 : ∀ (n12 : Nat) (y12_l2 : Int32) (y12_l3 : Int32) (y12_l4 : Int32) (ls : Array Slot), Rg 0 4095 y12_l2 → Rg 0 12 y12_l4 → lv_has ls 6 [(0, .ref (a 1)), (2, .int y12_l2), (3, .int y12_l3), (4, .int y12_l4)] → 12 - y12_l4.toInt < (n12 : Int) → W p l e (headSpec wsX2_oddPieceCount ({ frames := 2, cells := 0, slots := 0, locals := 80 })).room s m ([.ref (a 1), .int x0]).toArray below meth c s.heap [] 0 0 (MQ below (vp_Si (fun r => Rg (-2147483648) 2147483647 r ∧ True)) ([.ref (a 1), .int x0]).toArray s 0 0 (fun _ => False)) (F0 m 12 ls []) := by
    intro n12
    induction n12 with
    | zero =>
      intro y12_l2 y12_l3 y12_l4 ls g12_l2 g12_l4 hl hm12
      exact absurd rfl (me_z g12_l4 hm12)
    | succ n12 ih12 =>
      intro y12_l2 y12_l3 y12_l4 ls g12_l2 g12_l4 hl hm12
      refine lv_iload hx hb dX2_oddPieceCount_12 (lv_at hl 3 rfl) ?_
      refine lv_bipush (v := 12) hx hb dX2_oddPieceCount_14 (by decide) ?_
      refine lv_icmp_ge (tgt := 56) hx hb dX2_oddPieceCount_16 (by decide) (fun c1506 => ?_) (fun c1506 => ?_)
      · have g1507 : Rg 12 12 y12_l4 := rg_ler (by decide : Rg 12 12 (12 : Int32)) g12_l4 c1506 (by decide)
        refine lv_iload_n hx hb dX2_oddPieceCount_56 rfl (lv_at hl 2 rfl) ?_
        exact W.iret (v := y12_l3) hx hb hr (fun t ht hW => ⟨_, rfl, ⟨(rg_any y12_l3), trivial⟩, ht⟩) (fun q hq => absurd hq List.not_mem_nil) dX2_oddPieceCount_57
      · have g1508 : Rg 0 11 y12_l4 := rg_ltl g12_l4 (by decide : Rg 12 12 (12 : Int32)) (rg_nle c1506) (by decide)
        refine lv_iload_n hx hb dX2_oddPieceCount_19 rfl (lv_at hl 1 rfl) ?_
        refine lv_if_eq (tgt := 56) hx hb dX2_oddPieceCount_20 (by decide) (fun c1509 => ?_) (fun c1509 => ?_)
        · have g1510 : Rg 0 0 y12_l2 := wk_eql g12_l2 (by decide : Rg 0 0 (0 : Int32)) c1509 (by decide)
          refine lv_iload_n hx hb dX2_oddPieceCount_56 rfl (lv_at hl 2 rfl) ?_
          exact W.iret (v := y12_l3) hx hb hr (fun t ht hW => ⟨_, rfl, ⟨(rg_any y12_l3), trivial⟩, ht⟩) (fun q hq => absurd hq List.not_mem_nil) dX2_oddPieceCount_57
        · have g1511 : Rg 1 4095 y12_l2 := rg_ne_lo (k := 0) g12_l2 (by decide) c1509 (by decide)
          refine lv_aload_n hx hb dX2_oddPieceCount_23 rfl (lv_at hl 0 rfl) ?_
          refine va_get (D := D) (ci := 2) (v := .ref (a 2)) (C := RX2) (T := TX2) (N := 3) hx hb hts hin2 hown hK hP 1 rfl rfl 0 (by decide) (hts (.fieldLink RX2 9 "MissedPoints$Net" "links" "[I") (by decide +kernel)) (fun _ h9 => h9) rfl dX2_oddPieceCount_24 ?_
          refine lv_iload_n hx hb dX2_oddPieceCount_27 rfl (lv_at hl 1 rfl) ?_
          refine lz_ss (As := [.ref (a 2), .int y12_l2]) (rest := []) ⟨hx, hb, hml, hown, hts⟩ (k_X2_firstPiece l D cI cS a na nc N L u hL hN y12_l2) hKK hP (va_cwS 2 hts gX2_oddPieceCount_X2_firstPiece rfl rfl rfl (by decide +kernel) ⟨Nat.le_of_ble_eq_true rfl, Nat.le_of_ble_eq_true rfl⟩) rfl hl.1 rfl (Nat.le_of_ble_eq_true rfl) dX2_oddPieceCount_28 ⟨Nat.le_of_ble_eq_true rfl, Nat.le_of_ble_eq_true rfl⟩ (fun r1512 hr1512 => ?_)
          refine lv_istore (lv' := [(5, .int r1512), (0, .ref (a 1)), (2, .int y12_l2), (3, .int y12_l3), (4, .int y12_l4)]) hx hb dX2_oddPieceCount_31 hl (by decide) rfl (fun ls hl => ?_)
          refine lv_iload_n hx hb dX2_oddPieceCount_33 rfl (lv_at hl 2 rfl) ?_
          refine lv_iload hx hb dX2_oddPieceCount_34 (lv_at hl 0 rfl) ?_
          refine lv_iconst (v := (-1)) hx hb dX2_oddPieceCount_36 (by decide) ?_
          refine lv_ixor hx hb dX2_oddPieceCount_37 ?_
          refine wk_topP (P := fun r => r = r1512 ^^^ ((-1) : Int32)) rfl (fun r1513 qr1513 => ?_)
          refine wk_iandl hx hb dX2_oddPieceCount_38 g1511 (by decide) (fun r1514 hr1514 qr1514 => ?_)
          refine lv_istore_n (lv' := [(2, .int r1514), (5, .int r1512), (0, .ref (a 1)), (3, .int y12_l3), (4, .int y12_l4)]) hx hb dX2_oddPieceCount_39 rfl hl (by decide) rfl (fun ls hl => ?_)
          refine lv_iload_n hx hb dX2_oddPieceCount_40 rfl (lv_at hl 3 rfl) ?_
          refine lv_iload hx hb dX2_oddPieceCount_41 (lv_at hl 1 rfl) ?_
          refine lz_ss (As := [.int r1512]) (rest := [.int y12_l3]) ⟨hx, hb, hml, hown, hts⟩ (k_J6_bitCount_0f7a4 l D cI cS r1512) hKK (hP.sub (ws' := []) [] rfl) (va_cwS 1 hts gX2_oddPieceCount_J6_bitCount_0f7a4 rfl rfl rfl (by decide +kernel) ⟨Nat.le_of_ble_eq_true rfl, Nat.le_of_ble_eq_true rfl⟩) rfl hl.1 rfl (Nat.le_of_ble_eq_true rfl) dX2_oddPieceCount_43 ⟨Nat.le_of_ble_eq_true rfl, Nat.le_of_ble_eq_true rfl⟩ (fun r1515 hr1515 => ?_)
          refine lv_iconst (v := 1) hx hb dX2_oddPieceCount_46 (by decide) ?_
          refine wk_iandr hx hb dX2_oddPieceCount_47 (by decide : Rg 1 1 (1 : Int32)) (by decide) (fun r1516 hr1516 qr1516 => ?_)
          refine lv_iadd hx hb dX2_oddPieceCount_48 ?_
          refine wk_topP (P := fun r => r = y12_l3 + r1516) rfl (fun r1517 qr1517 => ?_)
          refine lv_istore_n (lv' := [(3, .int r1517), (2, .int r1514), (5, .int r1512), (0, .ref (a 1)), (4, .int y12_l4)]) hx hb dX2_oddPieceCount_49 rfl hl (by decide) rfl (fun ls hl => ?_)
          refine wk_iinc (lv' := fun r => [(4, .int r), (3, .int r1517), (2, .int r1514), (5, .int r1512), (0, .ref (a 1))]) (e1 := 1) (f := 12) hx hb dX2_oddPieceCount_50 hl (k := 4) rfl (by decide) g1508 (by decide) (fun _ => rfl) (fun r1518 ls hr1518 er1518 hl => ?_)
          refine lv_goto (tgt := 12) hx hb dX2_oddPieceCount_53 (by decide) ?_
          exact ih12 r1514 r1517 r1518 ls hr1514 (show Rg 0 12 r1518 from rg_w hr1518 (by decide) (by decide)) (lv_sub (l' := [(0, .ref (a 1)), (2, .int r1514), (3, .int r1517), (4, .int r1518)]) hl [4, 2, 1, 0] rfl) (me_up hm12 er1518 (by decide))
  refine lv_iload_n hx hb dX2_oddPieceCount_0 rfl (lv_at hl 1 rfl) ?_
  refine lv_aload_n hx hb dX2_oddPieceCount_1 rfl (lv_at hl 0 rfl) ?_
  refine wk_sv 1 (As := []) (rest := [.int x0]) ⟨hx, hb, hml, hown, hts⟩ (k_X2_all l D cI cS a na nc N L u hL hN) hKK hP (ci := 2) rfl rfl (cwV 0 hts gX2_oddPieceCount_X2_all rfl rfl rfl (by decide +kernel) ⟨Nat.le_of_ble_eq_true rfl, Nat.le_of_ble_eq_true rfl⟩) rfl hl.1 rfl (Nat.le_of_ble_eq_true rfl) dX2_oddPieceCount_2 ⟨Nat.le_of_ble_eq_true rfl, Nat.le_of_ble_eq_true rfl⟩ (fun r1519 hr1519 => ?_)
  refine wk_iandr hx hb dX2_oddPieceCount_5 hr1519.1 (by decide) (fun r1520 hr1520 qr1520 => ?_)
  refine lv_istore_n (lv' := [(2, .int r1520), (0, .ref (a 1)), (1, .int x0)]) hx hb dX2_oddPieceCount_6 rfl hl (by decide) rfl (fun ls hl => ?_)
  refine lv_iconst (v := 0) hx hb dX2_oddPieceCount_7 (by decide) ?_
  refine lv_istore_n (lv' := [(3, .int 0), (2, .int r1520), (0, .ref (a 1)), (1, .int x0)]) hx hb dX2_oddPieceCount_8 rfl hl (by decide) rfl (fun ls hl => ?_)
  refine lv_iconst (v := 0) hx hb dX2_oddPieceCount_9 (by decide) ?_
  refine lv_istore (lv' := [(4, .int 0), (3, .int 0), (2, .int r1520), (0, .ref (a 1)), (1, .int x0)]) hx hb dX2_oddPieceCount_10 hl (by decide) rfl (fun ls hl => ?_)
  exact lp12 13 r1520 (0 : Int32) (0 : Int32) ls hr1520 (by decide : Rg 0 12 (0 : Int32)) (lv_sub (l' := [(0, .ref (a 1)), (2, .int r1520), (3, .int 0), (4, .int 0)]) hl [3, 2, 1, 0] rfl) (me_i (by decide : Rg 0 12 (0 : Int32)) (by decide))
set_option maxRecDepth 20000 in
theorem ggX2_pieceAt_X2_firstPiece : GoodIn wsX2_pieceAt wsX2_firstPiece := goodIn_r _ [10, 11, 12, 13, 14, 15, 16, 17, 18] (by decide +kernel) (by decide +kernel)
set_option maxRecDepth 20000 in
theorem gX2_pieceAt_X2_firstPiece : GoodIn wsX2_pieceAt (va_wsS RX2 71 yX2_firstPiece wsX2_firstPiece) := goodIn_app (goodIn_of _ (by decide +kernel)) ggX2_pieceAt_X2_firstPiece
theorem dX2_pieceAt_21 : decode cX2_pieceAt 21 = .ok (.aload_n 0, 1) := by decide +kernel
theorem dX2_pieceAt_22 : decode cX2_pieceAt 22 = .ok (.getfield 9, 3) := by decide +kernel
theorem dX2_pieceAt_25 : decode cX2_pieceAt 25 = .ok (.iload_n 3, 1) := by decide +kernel
theorem dX2_pieceAt_26 : decode cX2_pieceAt 26 = .ok (.invokestatic 71, 3) := by decide +kernel
theorem dX2_pieceAt_29 : decode cX2_pieceAt 29 = .ok (.istore 5, 2) := by decide +kernel
theorem dX2_pieceAt_31 : decode cX2_pieceAt 31 = .ok (.iload 4, 2) := by decide +kernel
theorem dX2_pieceAt_33 : decode cX2_pieceAt 33 = .ok (.iload_n 2, 1) := by decide +kernel
theorem dX2_pieceAt_34 : decode cX2_pieceAt 34 = .ok (.if_icmp .ne 6, 3) := by decide +kernel
theorem dX2_pieceAt_37 : decode cX2_pieceAt 37 = .ok (.iload 5, 2) := by decide +kernel
theorem dX2_pieceAt_39 : decode cX2_pieceAt 39 = .ok (.ireturn, 1) := by decide +kernel
theorem dX2_pieceAt_40 : decode cX2_pieceAt 40 = .ok (.iload_n 3, 1) := by decide +kernel
theorem dX2_pieceAt_41 : decode cX2_pieceAt 41 = .ok (.iload 5, 2) := by decide +kernel
theorem dX2_pieceAt_43 : decode cX2_pieceAt 43 = .ok (.iconst (-1), 1) := by decide +kernel
theorem dX2_pieceAt_44 : decode cX2_pieceAt 44 = .ok (.ixor, 1) := by decide +kernel
theorem dX2_pieceAt_45 : decode cX2_pieceAt 45 = .ok (.iand, 1) := by decide +kernel
theorem dX2_pieceAt_46 : decode cX2_pieceAt 46 = .ok (.istore_n 3, 1) := by decide +kernel
theorem dX2_pieceAt_47 : decode cX2_pieceAt 47 = .ok (.iinc 4 1, 3) := by decide +kernel
theorem dX2_pieceAt_50 : decode cX2_pieceAt 50 = .ok (.goto (-40), 3) := by decide +kernel
set_option maxHeartbeats 4000000 in
set_option maxRecDepth 100000 in
theorem k_X2_pieceAt (l : Launch) (D : va_G) (cI cS : ClassId) (a : Nat → Nat) (na nc N : Nat) (L u : SU) (hL : TyX L) (hN : N = 0 ∨ N = 24576) (x0 x1 : Int32) : Met l yX2_pieceAt wsX2_pieceAt ({ frames := 2, cells := 0, slots := 0, locals := 80 }) (PS D cI cS (wX cI cS a na nc N L u) [.ref (a 1), .int x0, .int x1]) (vp_Si (fun r => Rg (-2147483648) 2147483647 r ∧ True)) 0 0 (fun _ => False) := by
  refine Met.ofW (cc := cX2_pieceAt) (maxL := 6) (ret := (some .int)) (by decide) rfl ?_
  intro p e s m args below meth c s₁ B hml hv
  obtain ⟨rfl, hP, hKK⟩ := hv
  have hx := B.exec
  have hb := B.bytes
  have hr := B.returns
  have hts := atoms_spec (ws := wsX2_pieceAt) B.pre
  have hown : s.vm.findClass RX2 = some m.cls := findClass_of_methodNamed B.named
  have hlocks := B.notSynchronized
  have hK := hKK.1
  have hin2 : ∀ w ∈ wsX20, w ∈ wsX2_pieceAt := by decide +kernel
  have hl := lv_entry ([.ref (a 1), .int x0, .int x1]) (n := 6) (Nat.le_of_ble_eq_true rfl)
  rw [lg_entry_eq]
  generalize (lg_sl ([.ref (a 1), .int x0, .int x1]) ++ List.replicate (6 - (lg_sl ([.ref (a 1), .int x0, .int x1])).length) Slot.unset).toArray = ls at hl ⊢
  have hl : lv_has ls 6 [(0, .ref (a 1)), (1, .int x0), (2, .int x1)] := hl
  have lp10 : ∀ (n10 : Nat) (y10_l3 : Int32) (y10_l4 : Int32) (ls : Array Slot), Rg 0 4095 y10_l3 → Rg 0 12 y10_l4 → lv_has ls 6 [(0, .ref (a 1)), (2, .int x1), (3, .int y10_l3), (4, .int y10_l4)] → 12 - y10_l4.toInt < (n10 : Int) → W p l e (headSpec wsX2_pieceAt ({ frames := 2, cells := 0, slots := 0, locals := 80 })).room s m ([.ref (a 1), .int x0, .int x1]).toArray below meth c s.heap [] 0 0 (MQ below (vp_Si (fun r => Rg (-2147483648) 2147483647 r ∧ True)) ([.ref (a 1), .int x0, .int x1]).toArray s 0 0 (fun _ => False)) (F0 m 10 ls []) := by
    intro n10
    induction n10 with
    | zero =>
      intro y10_l3 y10_l4 ls g10_l3 g10_l4 hl hm10
      exact absurd rfl (me_z g10_l4 hm10)
    | succ n10 ih10 =>
      intro y10_l3 y10_l4 ls g10_l3 g10_l4 hl hm10
      refine lv_iload hx hb dX2_pieceAt_10 (lv_at hl 3 rfl) ?_
      refine lv_bipush (v := 12) hx hb dX2_pieceAt_12 (by decide) ?_
      refine lv_icmp_ge (tgt := 53) hx hb dX2_pieceAt_14 (by decide) (fun c1630 => ?_) (fun c1630 => ?_)
      · have g1631 : Rg 12 12 y10_l4 := rg_ler (by decide : Rg 12 12 (12 : Int32)) g10_l4 c1630 (by decide)
        refine lv_iconst (v := 0) hx hb dX2_pieceAt_53 (by decide) ?_
        exact W.iret (v := 0) hx hb hr (fun t ht hW => ⟨_, rfl, ⟨(by decide : Rg (-2147483648) 2147483647 (0 : Int32)), trivial⟩, ht⟩) (fun q hq => absurd hq List.not_mem_nil) dX2_pieceAt_54
      · have g1632 : Rg 0 11 y10_l4 := rg_ltl g10_l4 (by decide : Rg 12 12 (12 : Int32)) (rg_nle c1630) (by decide)
        refine lv_iload_n hx hb dX2_pieceAt_17 rfl (lv_at hl 2 rfl) ?_
        refine lv_if_eq (tgt := 53) hx hb dX2_pieceAt_18 (by decide) (fun c1633 => ?_) (fun c1633 => ?_)
        · have g1634 : Rg 0 0 y10_l3 := wk_eql g10_l3 (by decide : Rg 0 0 (0 : Int32)) c1633 (by decide)
          refine lv_iconst (v := 0) hx hb dX2_pieceAt_53 (by decide) ?_
          exact W.iret (v := 0) hx hb hr (fun t ht hW => ⟨_, rfl, ⟨(by decide : Rg (-2147483648) 2147483647 (0 : Int32)), trivial⟩, ht⟩) (fun q hq => absurd hq List.not_mem_nil) dX2_pieceAt_54
        · have g1635 : Rg 1 4095 y10_l3 := rg_ne_lo (k := 0) g10_l3 (by decide) c1633 (by decide)
          refine lv_aload_n hx hb dX2_pieceAt_21 rfl (lv_at hl 0 rfl) ?_
          refine va_get (D := D) (ci := 2) (v := .ref (a 2)) (C := RX2) (T := TX2) (N := 3) hx hb hts hin2 hown hK hP 1 rfl rfl 0 (by decide) (hts (.fieldLink RX2 9 "MissedPoints$Net" "links" "[I") (by decide +kernel)) (fun _ h9 => h9) rfl dX2_pieceAt_22 ?_
          refine lv_iload_n hx hb dX2_pieceAt_25 rfl (lv_at hl 2 rfl) ?_
          refine lz_ss (As := [.ref (a 2), .int y10_l3]) (rest := []) ⟨hx, hb, hml, hown, hts⟩ (k_X2_firstPiece l D cI cS a na nc N L u hL hN y10_l3) hKK hP (va_cwS 2 hts gX2_pieceAt_X2_firstPiece rfl rfl rfl (by decide +kernel) ⟨Nat.le_of_ble_eq_true rfl, Nat.le_of_ble_eq_true rfl⟩) rfl hl.1 rfl (Nat.le_of_ble_eq_true rfl) dX2_pieceAt_26 ⟨Nat.le_of_ble_eq_true rfl, Nat.le_of_ble_eq_true rfl⟩ (fun r1636 hr1636 => ?_)
          refine lv_istore (lv' := [(5, .int r1636), (0, .ref (a 1)), (2, .int x1), (3, .int y10_l3), (4, .int y10_l4)]) hx hb dX2_pieceAt_29 hl (by decide) rfl (fun ls hl => ?_)
          refine lv_iload hx hb dX2_pieceAt_31 (lv_at hl 4 rfl) ?_
          refine lv_iload_n hx hb dX2_pieceAt_33 rfl (lv_at hl 2 rfl) ?_
          refine lv_icmp_ne (tgt := 40) hx hb dX2_pieceAt_34 (by decide) (fun c1637 => ?_) (fun c1637 => ?_)
          · refine lv_iload_n hx hb dX2_pieceAt_40 rfl (lv_at hl 3 rfl) ?_
            refine lv_iload hx hb dX2_pieceAt_41 (lv_at hl 0 rfl) ?_
            refine lv_iconst (v := (-1)) hx hb dX2_pieceAt_43 (by decide) ?_
            refine lv_ixor hx hb dX2_pieceAt_44 ?_
            refine wk_topP (P := fun r => r = r1636 ^^^ ((-1) : Int32)) rfl (fun r1638 qr1638 => ?_)
            refine wk_iandl hx hb dX2_pieceAt_45 g1635 (by decide) (fun r1639 hr1639 qr1639 => ?_)
            refine lv_istore_n (lv' := [(3, .int r1639), (5, .int r1636), (0, .ref (a 1)), (2, .int x1), (4, .int y10_l4)]) hx hb dX2_pieceAt_46 rfl hl (by decide) rfl (fun ls hl => ?_)
            refine wk_iinc (lv' := fun r => [(4, .int r), (3, .int r1639), (5, .int r1636), (0, .ref (a 1)), (2, .int x1)]) (e1 := 1) (f := 12) hx hb dX2_pieceAt_47 hl (k := 4) rfl (by decide) g1632 (by decide) (fun _ => rfl) (fun r1640 ls hr1640 er1640 hl => ?_)
            refine lv_goto (tgt := 10) hx hb dX2_pieceAt_50 (by decide) ?_
            exact ih10 r1639 r1640 ls hr1639 (show Rg 0 12 r1640 from rg_w hr1640 (by decide) (by decide)) (lv_sub (l' := [(0, .ref (a 1)), (2, .int x1), (3, .int r1639), (4, .int r1640)]) hl [3, 4, 1, 0] rfl) (me_up hm10 er1640 (by decide))
          · have g1641 : Rg 0 11 x1 := wk_eqr g1632 (rg_any x1) c1637 (by decide)
            refine lv_iload hx hb dX2_pieceAt_37 (lv_at hl 0 rfl) ?_
            exact W.iret (v := r1636) hx hb hr (fun t ht hW => ⟨_, rfl, ⟨hr1636.1, trivial⟩, ht⟩) (fun q hq => absurd hq List.not_mem_nil) dX2_pieceAt_39
  refine lv_iload_n hx hb dX2_pieceAt_0 rfl (lv_at hl 1 rfl) ?_
  refine lv_aload_n hx hb dX2_pieceAt_1 rfl (lv_at hl 0 rfl) ?_
  refine wk_sv 1 (As := []) (rest := [.int x0]) ⟨hx, hb, hml, hown, hts⟩ (k_X2_all l D cI cS a na nc N L u hL hN) hKK hP (ci := 2) rfl rfl (cwV 0 hts gX2_pieceAt_X2_all rfl rfl rfl (by decide +kernel) ⟨Nat.le_of_ble_eq_true rfl, Nat.le_of_ble_eq_true rfl⟩) rfl hl.1 rfl (Nat.le_of_ble_eq_true rfl) dX2_pieceAt_2 ⟨Nat.le_of_ble_eq_true rfl, Nat.le_of_ble_eq_true rfl⟩ (fun r1642 hr1642 => ?_)
  refine wk_iandr hx hb dX2_pieceAt_5 hr1642.1 (by decide) (fun r1643 hr1643 qr1643 => ?_)
  refine lv_istore_n (lv' := [(3, .int r1643), (0, .ref (a 1)), (1, .int x0), (2, .int x1)]) hx hb dX2_pieceAt_6 rfl hl (by decide) rfl (fun ls hl => ?_)
  refine lv_iconst (v := 0) hx hb dX2_pieceAt_7 (by decide) ?_
  refine lv_istore (lv' := [(4, .int 0), (3, .int r1643), (0, .ref (a 1)), (1, .int x0), (2, .int x1)]) hx hb dX2_pieceAt_8 hl (by decide) rfl (fun ls hl => ?_)
  exact lp10 13 r1643 (0 : Int32) ls hr1643 (by decide : Rg 0 12 (0 : Int32)) (lv_sub (l' := [(0, .ref (a 1)), (2, .int x1), (3, .int r1643), (4, .int 0)]) hl [2, 4, 1, 0] rfl) (me_i (by decide : Rg 0 12 (0 : Int32)) (by decide))
set_option maxRecDepth 20000 in
theorem ggX2_joinAll_X2_join : GoodIn wsX2_joinAll wsX2_join := goodIn_r _ [19, 7, 20, 8, 9, 10, 5, 11, 12, 13, 14, 15, 1, 21, 22, 23] (by decide +kernel) (by decide +kernel)
set_option maxRecDepth 20000 in
theorem gX2_joinAll_X2_join : GoodIn wsX2_joinAll (wsV RX2 43 RX2 yX2_join wsX2_join) := goodIn_app (goodIn_of _ (by decide +kernel)) ggX2_joinAll_X2_join
set_option maxRecDepth 20000 in
theorem ggX2_joinAll_X2_joined : GoodIn wsX2_joinAll wsX2_joined := goodIn_r _ [6, 7, 8, 9, 10, 5, 11, 12, 13, 14, 15, 1, 21, 22, 23] (by decide +kernel) (by decide +kernel)
set_option maxRecDepth 20000 in
theorem gX2_joinAll_X2_joined : GoodIn wsX2_joinAll (wsV RX2 40 RX2 yX2_joined wsX2_joined) := goodIn_app (goodIn_of _ (by decide +kernel)) ggX2_joinAll_X2_joined
theorem dX2_joinAll_0 : decode cX2_joinAll 0 = .ok (.iconst 0, 1) := by decide +kernel
theorem dX2_joinAll_1 : decode cX2_joinAll 1 = .ok (.istore_n 2, 1) := by decide +kernel
theorem dX2_joinAll_12 : decode cX2_joinAll 12 = .ok (.iload_n 3, 1) := by decide +kernel
theorem dX2_joinAll_13 : decode cX2_joinAll 13 = .ok (.aload_n 1, 1) := by decide +kernel
theorem dX2_joinAll_14 : decode cX2_joinAll 14 = .ok (.arraylength, 1) := by decide +kernel
theorem dX2_joinAll_15 : decode cX2_joinAll 15 = .ok (.if_icmp .ge 61, 3) := by decide +kernel
theorem dX2_joinAll_18 : decode cX2_joinAll 18 = .ok (.iload_n 3, 1) := by decide +kernel
theorem dX2_joinAll_19 : decode cX2_joinAll 19 = .ok (.iconst 1, 1) := by decide +kernel
theorem dX2_joinAll_2 : decode cX2_joinAll 2 = .ok (.iconst 0, 1) := by decide +kernel
theorem dX2_joinAll_20 : decode cX2_joinAll 20 = .ok (.iadd, 1) := by decide +kernel
theorem dX2_joinAll_21 : decode cX2_joinAll 21 = .ok (.istore 4, 2) := by decide +kernel
theorem dX2_joinAll_23 : decode cX2_joinAll 23 = .ok (.iload 4, 2) := by decide +kernel
theorem dX2_joinAll_25 : decode cX2_joinAll 25 = .ok (.aload_n 0, 1) := by decide +kernel
theorem dX2_joinAll_26 : decode cX2_joinAll 26 = .ok (.getfield 15, 3) := by decide +kernel
theorem dX2_joinAll_29 : decode cX2_joinAll 29 = .ok (.if_icmp .ge 41, 3) := by decide +kernel
theorem dX2_joinAll_3 : decode cX2_joinAll 3 = .ok (.istore_n 3, 1) := by decide +kernel
theorem dX2_joinAll_32 : decode cX2_joinAll 32 = .ok (.aload_n 1, 1) := by decide +kernel
theorem dX2_joinAll_33 : decode cX2_joinAll 33 = .ok (.iload_n 3, 1) := by decide +kernel
theorem dX2_joinAll_34 : decode cX2_joinAll 34 = .ok (.iaload, 1) := by decide +kernel
theorem dX2_joinAll_35 : decode cX2_joinAll 35 = .ok (.iload 4, 2) := by decide +kernel
theorem dX2_joinAll_37 : decode cX2_joinAll 37 = .ok (.ishr, 1) := by decide +kernel
theorem dX2_joinAll_38 : decode cX2_joinAll 38 = .ok (.iconst 1, 1) := by decide +kernel
theorem dX2_joinAll_39 : decode cX2_joinAll 39 = .ok (.iand, 1) := by decide +kernel
theorem dX2_joinAll_4 : decode cX2_joinAll 4 = .ok (.iload_n 3, 1) := by decide +kernel
theorem dX2_joinAll_40 : decode cX2_joinAll 40 = .ok (.ifCond .eq 24, 3) := by decide +kernel
theorem dX2_joinAll_43 : decode cX2_joinAll 43 = .ok (.aload_n 0, 1) := by decide +kernel
theorem dX2_joinAll_44 : decode cX2_joinAll 44 = .ok (.iload_n 3, 1) := by decide +kernel
theorem dX2_joinAll_45 : decode cX2_joinAll 45 = .ok (.iload 4, 2) := by decide +kernel
theorem dX2_joinAll_47 : decode cX2_joinAll 47 = .ok (.invokevirtual 40, 3) := by decide +kernel
theorem dX2_joinAll_5 : decode cX2_joinAll 5 = .ok (.aload_n 0, 1) := by decide +kernel
theorem dX2_joinAll_50 : decode cX2_joinAll 50 = .ok (.ifCond .ne 14, 3) := by decide +kernel
theorem dX2_joinAll_53 : decode cX2_joinAll 53 = .ok (.aload_n 0, 1) := by decide +kernel
theorem dX2_joinAll_54 : decode cX2_joinAll 54 = .ok (.iload_n 3, 1) := by decide +kernel
theorem dX2_joinAll_55 : decode cX2_joinAll 55 = .ok (.iload 4, 2) := by decide +kernel
theorem dX2_joinAll_57 : decode cX2_joinAll 57 = .ok (.iconst 1, 1) := by decide +kernel
theorem dX2_joinAll_58 : decode cX2_joinAll 58 = .ok (.invokevirtual 43, 3) := by decide +kernel
theorem dX2_joinAll_6 : decode cX2_joinAll 6 = .ok (.getfield 15, 3) := by decide +kernel
theorem dX2_joinAll_61 : decode cX2_joinAll 61 = .ok (.iinc 2 1, 3) := by decide +kernel
theorem dX2_joinAll_64 : decode cX2_joinAll 64 = .ok (.iinc 4 1, 3) := by decide +kernel
theorem dX2_joinAll_67 : decode cX2_joinAll 67 = .ok (.goto (-44), 3) := by decide +kernel
theorem dX2_joinAll_70 : decode cX2_joinAll 70 = .ok (.iinc 3 1, 3) := by decide +kernel
theorem dX2_joinAll_73 : decode cX2_joinAll 73 = .ok (.goto (-69), 3) := by decide +kernel
theorem dX2_joinAll_76 : decode cX2_joinAll 76 = .ok (.iload_n 2, 1) := by decide +kernel
theorem dX2_joinAll_77 : decode cX2_joinAll 77 = .ok (.ireturn, 1) := by decide +kernel
theorem dX2_joinAll_9 : decode cX2_joinAll 9 = .ok (.if_icmp .ge 67, 3) := by decide +kernel
set_option maxHeartbeats 4000000 in
set_option maxRecDepth 100000 in
theorem k_X2_joinAll (l : Launch) (D : va_G) (cI cS : ClassId) (sz : Nat) (a : Nat → Nat) (na nc N : Nat) (L u0 : SU) (hL : TyX L) (hN : N = 0 ∨ N = 24576) : Met l yX2_joinAll wsX2_joinAll ({ frames := 3, cells := 0, slots := 0, locals := 120 }) (PQ D cI cS (wX cI cS a na nc N L u0) sz [.ref (a 1), .ref (a 24)]) (QF (S := SU) D (wX cI cS a na nc N L u0) (wX cI cS a na nc N L) sz (fun r _ => Rg (-2147483648) 2147483647 r ∧ True)) 0 0 (va_A (wX cI cS a na nc N L u0) sz) := by
  refine Met.ofW (cc := cX2_joinAll) (maxL := 5) (ret := (some .int)) (by decide) rfl ?_
  intro p e s m args below meth c s₁ B hml hv
  obtain ⟨rfl, hsz, hP, hKK, hD0⟩ := hv
  have hx := B.exec
  have hb := B.bytes
  have hr := B.returns
  have hts := atoms_spec (ws := wsX2_joinAll) B.pre
  have hown : s.vm.findClass RX2 = some m.cls := findClass_of_methodNamed B.named
  have hlocks := B.notSynchronized
  have hK := hKK.1
  have hin2 : ∀ w ∈ wsX20, w ∈ wsX2_joinAll := by decide +kernel
  subst hsz
  have hD := hD0.self (sz := s.heap.size)
  obtain ⟨A, hAe⟩ : ∃ A, A = va_A (wX cI cS a na nc N L u0) s.heap.size := ⟨_, rfl⟩
  rw [← hAe] at hD
  have hA : ∀ q : Nat, s.heap.size ≤ q → A q := fun q h => by rw [hAe]; exact Or.inr h
  have hS : va_S A s.heap s.heap [] := va_S.rf
  have hl := lv_entry ([.ref (a 1), .ref (a 24)]) (n := 5) (Nat.le_of_ble_eq_true rfl)
  rw [lg_entry_eq]
  generalize (lg_sl ([.ref (a 1), .ref (a 24)]) ++ List.replicate (5 - (lg_sl ([.ref (a 1), .ref (a 24)])).length) Slot.unset).toArray = ls at hl ⊢
  have hl : lv_has ls 5 [(0, .ref (a 1)), (1, .ref (a 24))] := hl
  obtain ⟨u, hu9⟩ : ∃ u : SU, u = u0 := ⟨_, rfl⟩
  rw [← hu9] at hP hD
  have lp4 : ∀ (n4 : Nat) (y4_l2 : Int32) (y4_l3 : Int32) (u : SU) (H : Heap) (locs : List Loc) (ls : Array Slot), Rg 0 12 y4_l3 → va_P D cls (wX cI cS a na nc N L u) H → va_D A (wX cI cS a na nc N L u) → va_S A s.heap H locs → lv_has ls 5 [(0, .ref (a 1)), (1, .ref (a 24)), (2, .int y4_l2), (3, .int y4_l3)] → 12 - y4_l3.toInt < (n4 : Int) → W p l e (headSpec wsX2_joinAll ({ frames := 3, cells := 0, slots := 0, locals := 120 })).room s m ([.ref (a 1), .ref (a 24)]).toArray below meth c H locs 0 0 (MQ below (QF (S := SU) D (wX cI cS a na nc N L u0) (wX cI cS a na nc N L) s.heap.size (fun r _ => Rg (-2147483648) 2147483647 r ∧ True)) ([.ref (a 1), .ref (a 24)]).toArray s 0 0 (va_A (wX cI cS a na nc N L u0) s.heap.size)) (F0 m 4 ls []) := by
    intro n4
    induction n4 with
    | zero =>
      intro y4_l2 y4_l3 u H locs ls g4_l3 hP hD hS hl hm4
      exact absurd rfl (me_z g4_l3 hm4)
    | succ n4 ih4 =>
      intro y4_l2 y4_l3 u H locs ls g4_l3 hP hD hS hl hm4
      have lp23 : ∀ (n23 : Nat) (y23_l2 : Int32) (y23_l4 : Int32) (u : SU) (H : Heap) (locs : List Loc) (ls : Array Slot), Rg 0 11 y4_l3 → Rg 1 12 y23_l4 → va_P D cls (wX cI cS a na nc N L u) H → va_D A (wX cI cS a na nc N L u) → va_S A s.heap H locs → lv_has ls 5 [(0, .ref (a 1)), (1, .ref (a 24)), (2, .int y23_l2), (3, .int y4_l3), (4, .int y23_l4)] → 12 - y23_l4.toInt < (n23 : Int) → W p l e (headSpec wsX2_joinAll ({ frames := 3, cells := 0, slots := 0, locals := 120 })).room s m ([.ref (a 1), .ref (a 24)]).toArray below meth c H locs 0 0 (MQ below (QF (S := SU) D (wX cI cS a na nc N L u0) (wX cI cS a na nc N L) s.heap.size (fun r _ => Rg (-2147483648) 2147483647 r ∧ True)) ([.ref (a 1), .ref (a 24)]).toArray s 0 0 (va_A (wX cI cS a na nc N L u0) s.heap.size)) (F0 m 23 ls []) := by
        intro n23
        induction n23 with
        | zero =>
          intro y23_l2 y23_l4 u H locs ls g23_l3 g23_l4 hP hD hS hl hm23
          exact absurd rfl (me_z g23_l4 hm23)
        | succ n23 ih23 =>
          intro y23_l2 y23_l4 u H locs ls g23_l3 g23_l4 hP hD hS hl hm23
          refine lv_iload hx hb dX2_joinAll_23 (lv_at hl 4 rfl) ?_
          refine lv_aload_n hx hb dX2_joinAll_25 rfl (lv_at hl 0 rfl) ?_
          refine va_get (D := D) (ci := 2) (v := .int (L 1 1)) (C := RX2) (T := TX2) (N := 3) hx hb hts hin2 hown hK hP 1 rfl rfl 1 (by decide) (hts (.fieldLink RX2 15 "MissedPoints$Net" "size" "I") (by decide +kernel)) (fun _ h9 => h9) rfl dX2_joinAll_26 ?_
          refine lv_icmp_ge (tgt := 70) hx hb dX2_joinAll_29 (by decide) (fun c2393 => ?_) (fun c2393 => ?_)
          · refine wk_iinc (lv' := fun r => [(3, .int r), (0, .ref (a 1)), (1, .ref (a 24)), (2, .int y23_l2), (4, .int y23_l4)]) (e1 := 1) (f := 12) hx hb dX2_joinAll_70 hl (k := 3) rfl (by decide) g23_l3 (by decide) (fun _ => rfl) (fun r2394 ls hr2394 er2394 hl => ?_)
            refine lv_goto (tgt := 4) hx hb dX2_joinAll_73 (by decide) ?_
            exact ih4 y23_l2 r2394 u _ _ ls (show Rg 0 12 r2394 from rg_w hr2394 (by decide) (by decide)) hP hD hS (lv_sub (l' := [(0, .ref (a 1)), (1, .ref (a 24)), (2, .int y23_l2), (3, .int r2394)]) hl [1, 2, 3, 0] rfl) (me_up hm4 er2394 (by decide))
          · have g2395 : Rg 2 12 (L 1 1) := rg_ltr g23_l4 hL.1 (rg_nle c2393) (by decide)
            have g2396 : Rg 1 11 y23_l4 := rg_ltl g23_l4 hL.1 (rg_nle c2393) (by decide)
            refine lv_aload_n hx hb dX2_joinAll_32 rfl (lv_at hl 1 rfl) ?_
            refine lv_iload_n hx hb dX2_joinAll_33 rfl (lv_at hl 3 rfl) ?_
            refine wk_aldA hx hb hK hP 24 0 rfl rfl (rg_in g23_l3 (by decide) (by decide)) dX2_joinAll_34 (fun r2397 => ?_)
            refine lv_iload hx hb dX2_joinAll_35 (lv_at hl 4 rfl) ?_
            refine lv_ishr hx hb dX2_joinAll_37 ?_
            refine wk_topP (P := fun r => r = r2397 >>> (y23_l4 &&& 31)) rfl (fun r2398 qr2398 => ?_)
            refine lv_iconst (v := 1) hx hb dX2_joinAll_38 (by decide) ?_
            refine wk_iandr hx hb dX2_joinAll_39 (by decide : Rg 1 1 (1 : Int32)) (by decide) (fun r2399 hr2399 qr2399 => ?_)
            refine lv_if_eq (tgt := 64) hx hb dX2_joinAll_40 (by decide) (fun c2400 => ?_) (fun c2400 => ?_)
            · have g2401 : Rg 0 0 r2399 := wk_eql hr2399 (by decide : Rg 0 0 (0 : Int32)) c2400 (by decide)
              refine wk_iinc (lv' := fun r => [(4, .int r), (0, .ref (a 1)), (1, .ref (a 24)), (2, .int y23_l2), (3, .int y4_l3)]) (e1 := 2) (f := 12) hx hb dX2_joinAll_64 hl (k := 4) rfl (by decide) g2396 (by decide) (fun _ => rfl) (fun r2402 ls hr2402 er2402 hl => ?_)
              refine lv_goto (tgt := 23) hx hb dX2_joinAll_67 (by decide) ?_
              exact ih23 y23_l2 r2402 u _ _ ls g23_l3 (show Rg 1 12 r2402 from rg_w hr2402 (by decide) (by decide)) hP hD hS (lv_sub (l' := [(0, .ref (a 1)), (1, .ref (a 24)), (2, .int y23_l2), (3, .int y4_l3), (4, .int r2402)]) hl [1, 2, 3, 4, 0] rfl) (me_up hm23 er2402 (by decide))
            · have g2403 : Rg 1 1 r2399 := rg_ne_lo (k := 0) hr2399 (by decide) c2400 (by decide)
              refine lv_aload_n hx hb dX2_joinAll_43 rfl (lv_at hl 0 rfl) ?_
              refine lv_iload_n hx hb dX2_joinAll_44 rfl (lv_at hl 3 rfl) ?_
              refine lv_iload hx hb dX2_joinAll_45 (lv_at hl 4 rfl) ?_
              refine wk_sv 1 (As := [.int y4_l3, .int y23_l4]) (rest := []) ⟨hx, hb, hml, hown, hts⟩ (k_X2_joined l D cI cS a na nc N L u hL hN y4_l3 y23_l4) hKK hP (ci := 2) rfl rfl (cwV 2 hts gX2_joinAll_X2_joined rfl rfl rfl (by decide +kernel) ⟨Nat.le_of_ble_eq_true rfl, Nat.le_of_ble_eq_true rfl⟩) rfl hl.1 rfl (Nat.le_of_ble_eq_true rfl) dX2_joinAll_47 ⟨Nat.le_of_ble_eq_true rfl, Nat.le_of_ble_eq_true rfl⟩ (fun r2404 hr2404 => ?_)
              refine lv_if_ne (tgt := 64) hx hb dX2_joinAll_50 (by decide) (fun c2405 => ?_) (fun c2405 => ?_)
              · have g2406 : Rg 1 1 r2404 := rg_ne_lo (k := 0) hr2404.1 (by decide) c2405 (by decide)
                refine wk_iinc (lv' := fun r => [(4, .int r), (0, .ref (a 1)), (1, .ref (a 24)), (2, .int y23_l2), (3, .int y4_l3)]) (e1 := 2) (f := 12) hx hb dX2_joinAll_64 hl (k := 4) rfl (by decide) g2396 (by decide) (fun _ => rfl) (fun r2407 ls hr2407 er2407 hl => ?_)
                refine lv_goto (tgt := 23) hx hb dX2_joinAll_67 (by decide) ?_
                exact ih23 y23_l2 r2407 u _ _ ls g23_l3 (show Rg 1 12 r2407 from rg_w hr2407 (by decide) (by decide)) hP hD hS (lv_sub (l' := [(0, .ref (a 1)), (1, .ref (a 24)), (2, .int y23_l2), (3, .int y4_l3), (4, .int r2407)]) hl [1, 2, 3, 4, 0] rfl) (me_up hm23 er2407 (by decide))
              · have g2408 : Rg 0 0 r2404 := wk_eql hr2404.1 (by decide : Rg 0 0 (0 : Int32)) c2405 (by decide)
                refine lv_aload_n hx hb dX2_joinAll_53 rfl (lv_at hl 0 rfl) ?_
                refine lv_iload_n hx hb dX2_joinAll_54 rfl (lv_at hl 3 rfl) ?_
                refine lv_iload hx hb dX2_joinAll_55 (lv_at hl 4 rfl) ?_
                refine lv_iconst (v := 1) hx hb dX2_joinAll_57 (by decide) ?_
                refine wk_qv (wX cI cS a na nc N L) u (As := [.int y4_l3, .int y23_l4, .int 1]) (rest := []) ⟨hx, hb, hml, hown, hts⟩ (k_X2_join l D cI cS _ a na nc N L u hL hN y4_l3 y23_l4 (1 : Int32) (by decide : Rg 0 1 (1 : Int32))) hKK hP hD hS hA 1 (ci := 2) rfl rfl (cwV 3 hts gX2_joinAll_X2_join rfl rfl rfl (by decide +kernel) ⟨Nat.le_of_ble_eq_true rfl, Nat.le_of_ble_eq_true rfl⟩) rfl hl.1 rfl (Nat.le_of_ble_eq_true rfl) dX2_joinAll_58 ⟨Nat.le_of_ble_eq_true rfl, Nat.le_of_ble_eq_true rfl⟩ (fun u H locs hr2409 hP hD hS => ?_)
                refine wk_iincA (lv' := fun r => [(2, .int r), (0, .ref (a 1)), (1, .ref (a 24)), (3, .int y4_l3), (4, .int y23_l4)]) hx hb dX2_joinAll_61 hl (k := 2) rfl (by decide) (fun _ => rfl) (fun r2410 ls hl => ?_)
                refine wk_iinc (lv' := fun r => [(4, .int r), (2, .int r2410), (0, .ref (a 1)), (1, .ref (a 24)), (3, .int y4_l3)]) (e1 := 2) (f := 12) hx hb dX2_joinAll_64 hl (k := 4) rfl (by decide) g2396 (by decide) (fun _ => rfl) (fun r2411 ls hr2411 er2411 hl => ?_)
                refine lv_goto (tgt := 23) hx hb dX2_joinAll_67 (by decide) ?_
                exact ih23 r2410 r2411 u _ _ ls g23_l3 (show Rg 1 12 r2411 from rg_w hr2411 (by decide) (by decide)) hP hD hS (lv_sub (l' := [(0, .ref (a 1)), (1, .ref (a 24)), (2, .int r2410), (3, .int y4_l3), (4, .int r2411)]) hl [2, 3, 1, 4, 0] rfl) (me_up hm23 er2411 (by decide))
      refine lv_iload_n hx hb dX2_joinAll_4 rfl (lv_at hl 3 rfl) ?_
      refine lv_aload_n hx hb dX2_joinAll_5 rfl (lv_at hl 0 rfl) ?_
      refine va_get (D := D) (ci := 2) (v := .int (L 1 1)) (C := RX2) (T := TX2) (N := 3) hx hb hts hin2 hown hK hP 1 rfl rfl 1 (by decide) (hts (.fieldLink RX2 15 "MissedPoints$Net" "size" "I") (by decide +kernel)) (fun _ h9 => h9) rfl dX2_joinAll_6 ?_
      refine lv_icmp_ge (tgt := 76) hx hb dX2_joinAll_9 (by decide) (fun c2412 => ?_) (fun c2412 => ?_)
      · refine lv_iload_n hx hb dX2_joinAll_76 rfl (lv_at hl 2 rfl) ?_
        subst hAe
        exact W.iret (v := y4_l2) hx hb hr (fun t ht hW => ⟨⟨_, u, rfl, ⟨(rg_any y4_l2), trivial⟩, by rw [ht]; exact hP, hD⟩, hS.F ht⟩) hS.2.2 dX2_joinAll_77
      · have g2413 : Rg 1 12 (L 1 1) := rg_ltr g4_l3 hL.1 (rg_nle c2412) (by decide)
        have g2414 : Rg 0 11 y4_l3 := rg_ltl g4_l3 hL.1 (rg_nle c2412) (by decide)
        refine lv_iload_n hx hb dX2_joinAll_12 rfl (lv_at hl 3 rfl) ?_
        refine lv_aload_n hx hb dX2_joinAll_13 rfl (lv_at hl 1 rfl) ?_
        refine va_alen hx hb hK hP 24 0 rfl rfl (v := 12) rfl dX2_joinAll_14 ?_
        refine lv_icmp_ge (tgt := 76) hx hb dX2_joinAll_15 (by decide) (fun c2415 => ?_) (fun c2415 => ?_)
        · exact absurd c2415 (wk_nle (by decide : Rg 12 12 (12 : Int32)) g2414 (by decide))
        · refine lv_iload_n hx hb dX2_joinAll_18 rfl (lv_at hl 3 rfl) ?_
          refine lv_iconst (v := 1) hx hb dX2_joinAll_19 (by decide) ?_
          refine wk_iadd (e1 := 1) (f := 12) hx hb dX2_joinAll_20 g2414 (by decide : Rg 1 1 (1 : Int32)) (by decide) (fun r2416 hr2416 er2416 qr2416 => ?_)
          refine lv_istore (lv' := [(4, .int r2416), (0, .ref (a 1)), (1, .ref (a 24)), (2, .int y4_l2), (3, .int y4_l3)]) hx hb dX2_joinAll_21 hl (by decide) rfl (fun ls hl => ?_)
          exact lp23 12 y4_l2 r2416 u _ _ ls g2414 hr2416 hP hD hS (lv_sub (l' := [(0, .ref (a 1)), (1, .ref (a 24)), (2, .int y4_l2), (3, .int y4_l3), (4, .int r2416)]) hl [1, 2, 3, 4, 0] rfl) (me_i hr2416 (by decide))
  refine lv_iconst (v := 0) hx hb dX2_joinAll_0 (by decide) ?_
  refine lv_istore_n (lv' := [(2, .int 0), (0, .ref (a 1)), (1, .ref (a 24))]) hx hb dX2_joinAll_1 rfl hl (by decide) rfl (fun ls hl => ?_)
  refine lv_iconst (v := 0) hx hb dX2_joinAll_2 (by decide) ?_
  refine lv_istore_n (lv' := [(3, .int 0), (2, .int 0), (0, .ref (a 1)), (1, .ref (a 24))]) hx hb dX2_joinAll_3 rfl hl (by decide) rfl (fun ls hl => ?_)
  exact lp4 13 (0 : Int32) (0 : Int32) u _ _ ls (by decide : Rg 0 12 (0 : Int32)) hP hD hS (lv_sub (l' := [(0, .ref (a 1)), (1, .ref (a 24)), (2, .int 0), (3, .int 0)]) hl [2, 3, 1, 0] rfl) (me_i (by decide : Rg 0 12 (0 : Int32)) (by decide))
set_option maxHeartbeats 4000000 in
set_option maxRecDepth 100000 in
theorem k_X1_recall (l : Launch) (D : va_G) (cI cS : ClassId) (a : Nat → Nat) (na nc N : Nat) (L u : SU) (hL : TyX L) (hN : N = 0 ∨ N = 24576) (x0 : Int32) : Met l yX1_recall wsX1_recall ({ frames := 0, cells := 0, slots := 0, locals := 0 }) (PS D cI cS (wX cI cS a na nc N L u) [.ref (a 9), .int x0]) (vp_Si (fun r => Rg (-1) 65535 r ∧ True)) 0 0 (fun _ => False) := by
  refine Met.ofW (cc := cX1_recall) (maxL := 2) (ret := (some .int)) (by decide) rfl ?_
  intro p e s m args below meth c s₁ B hml hv
  obtain ⟨rfl, hP, hKK⟩ := hv
  have hx := B.exec
  have hb := B.bytes
  have hr := B.returns
  have hts := atoms_spec (ws := wsX1_recall) B.pre
  have hown : s.vm.findClass RX1 = some m.cls := findClass_of_methodNamed B.named
  have hlocks := B.notSynchronized
  have hK := hKK.1
  have hin1 : ∀ w ∈ wsX10, w ∈ wsX1_recall := by decide +kernel
  have hl := lv_entry ([.ref (a 9), .int x0]) (n := 2) (Nat.le_of_ble_eq_true rfl)
  rw [lg_entry_eq]
  generalize (lg_sl ([.ref (a 9), .int x0]) ++ List.replicate (2 - (lg_sl ([.ref (a 9), .int x0])).length) Slot.unset).toArray = ls at hl ⊢
  have hl : lv_has ls 2 [(0, .ref (a 9)), (1, .int x0)] := hl
  refine lv_iload_n hx hb dX1_recall_0 rfl (lv_at hl 1 rfl) ?_
  refine lv_if_lt (tgt := 29) hx hb dX1_recall_1 (by decide) (fun c2429 => ?_) (fun c2429 => ?_)
  · have g2430 : Rg (-2147483648) (-1) x0 := rg_ltl (rg_any x0) (by decide : Rg 0 0 (0 : Int32)) c2429 (by decide)
    refine lv_iconst (v := (-1)) hx hb dX1_recall_29 (by decide) ?_
    exact W.iret (v := (-1)) hx hb hr (fun t ht hW => ⟨_, rfl, ⟨(by decide : Rg (-1) 65535 ((-1) : Int32)), trivial⟩, ht⟩) (fun q hq => absurd hq List.not_mem_nil) dX1_recall_30
  · have g2431 : Rg 0 2147483647 x0 := rg_ler (by decide : Rg 0 0 (0 : Int32)) (rg_any x0) (rg_nlt c2429) (by decide)
    refine lv_iload_n hx hb dX1_recall_4 rfl (lv_at hl 1 rfl) ?_
    refine lv_aload_n hx hb dX1_recall_5 rfl (lv_at hl 0 rfl) ?_
    refine va_get (D := D) (ci := 1) (v := .ref (a 10)) (C := RX1) (T := TX1) (N := 2) hx hb hts hin1 hown hK hP 9 rfl rfl 0 (by decide) (hts (.fieldLink RX1 21 "MissedPoints$Memo" "cells" "[I") (by decide +kernel)) (fun _ h9 => h9) rfl dX1_recall_6 ?_
    refine va_alen hx hb hK hP 10 0 rfl rfl (v := 4096) rfl dX1_recall_9 ?_
    refine lv_icmp_ge (tgt := 29) hx hb dX1_recall_10 (by decide) (fun c2432 => ?_) (fun c2432 => ?_)
    · have g2433 : Rg 4096 2147483647 x0 := rg_ler (by decide : Rg 4096 4096 (4096 : Int32)) g2431 c2432 (by decide)
      refine lv_iconst (v := (-1)) hx hb dX1_recall_29 (by decide) ?_
      exact W.iret (v := (-1)) hx hb hr (fun t ht hW => ⟨_, rfl, ⟨(by decide : Rg (-1) 65535 ((-1) : Int32)), trivial⟩, ht⟩) (fun q hq => absurd hq List.not_mem_nil) dX1_recall_30
    · have g2434 : Rg 0 4095 x0 := rg_ltl g2431 (by decide : Rg 4096 4096 (4096 : Int32)) (rg_nle c2432) (by decide)
      refine lv_aload_n hx hb dX1_recall_13 rfl (lv_at hl 0 rfl) ?_
      refine va_get (D := D) (ci := 1) (v := .ref (a 10)) (C := RX1) (T := TX1) (N := 2) hx hb hts hin1 hown hK hP 9 rfl rfl 0 (by decide) (hts (.fieldLink RX1 21 "MissedPoints$Memo" "cells" "[I") (by decide +kernel)) (fun _ h9 => h9) rfl dX1_recall_14 ?_
      refine lv_iload_n hx hb dX1_recall_17 rfl (lv_at hl 1 rfl) ?_
      refine wk_aldA hx hb hK hP 10 0 rfl rfl (rg_in g2434 (by decide) (by decide)) dX1_recall_18 (fun r2435 => ?_)
      refine lv_bipush (v := 16) hx hb dX1_recall_19 (by decide) ?_
      refine lv_iushr hx hb dX1_recall_21 rfl ?_
      refine wk_any (fun r2436 => ?_)
      refine lv_aload_n hx hb dX1_recall_22 rfl (lv_at hl 0 rfl) ?_
      refine va_get (D := D) (ci := 1) (v := .int (u 9 1)) (C := RX1) (T := TX1) (N := 2) hx hb hts hin1 hown hK hP 9 rfl rfl 1 (by decide) (hts (.fieldLink RX1 9 "MissedPoints$Memo" "age" "I") (by decide +kernel)) (fun _ h9 => h9) rfl dX1_recall_23 ?_
      refine wk_any (fun r2437 => ?_)
      refine lv_icmp_eq (tgt := 31) hx hb dX1_recall_26 (by decide) (fun c2438 => ?_) (fun c2438 => ?_)
      · refine lv_aload_n hx hb dX1_recall_31 rfl (lv_at hl 0 rfl) ?_
        refine va_get (D := D) (ci := 1) (v := .ref (a 10)) (C := RX1) (T := TX1) (N := 2) hx hb hts hin1 hown hK hP 9 rfl rfl 0 (by decide) (hts (.fieldLink RX1 21 "MissedPoints$Memo" "cells" "[I") (by decide +kernel)) (fun _ h9 => h9) rfl dX1_recall_32 ?_
        refine lv_iload_n hx hb dX1_recall_35 rfl (lv_at hl 1 rfl) ?_
        refine wk_aldA hx hb hK hP 10 0 rfl rfl (rg_in g2434 (by decide) (by decide)) dX1_recall_36 (fun r2439 => ?_)
        refine lv_ldc hx hb hown (hts (.constant RX1 25 (65535)) (by decide +kernel)) dX1_recall_37 ?_
        refine wk_iandr hx hb dX1_recall_39 (by decide : Rg 65535 65535 (65535 : Int32)) (by decide) (fun r2440 hr2440 qr2440 => ?_)
        exact W.iret (v := r2440) hx hb hr (fun t ht hW => ⟨_, rfl, ⟨(show Rg (-1) 65535 r2440 from rg_w hr2440 (by decide) (by decide)), trivial⟩, ht⟩) (fun q hq => absurd hq List.not_mem_nil) dX1_recall_40
      · refine lv_iconst (v := (-1)) hx hb dX1_recall_29 (by decide) ?_
        exact W.iret (v := (-1)) hx hb hr (fun t ht hW => ⟨_, rfl, ⟨(by decide : Rg (-1) 65535 ((-1) : Int32)), trivial⟩, ht⟩) (fun q hq => absurd hq List.not_mem_nil) dX1_recall_30
set_option maxHeartbeats 4000000 in
set_option maxRecDepth 100000 in
theorem k_X1_keep (l : Launch) (D : va_G) (cI cS : ClassId) (sz : Nat) (a : Nat → Nat) (na nc N : Nat) (L u0 : SU) (hL : TyX L) (hN : N = 0 ∨ N = 24576) (x0 x1 : Int32) : Met l yX1_keep wsX1_keep ({ frames := 0, cells := 0, slots := 0, locals := 0 }) (PQ D cI cS (wX cI cS a na nc N L u0) sz [.ref (a 9), .int x0, .int x1]) (QE (S := SU) D (wX cI cS a na nc N L u0) (wX cI cS a na nc N L) sz (fun _ => True)) 0 0 (va_A (wX cI cS a na nc N L u0) sz) := by
  refine Met.ofW (cc := cX1_keep) (maxL := 3) (ret := none) (by decide) rfl ?_
  intro p e s m args below meth c s₁ B hml hv
  obtain ⟨rfl, hsz, hP, hKK, hD0⟩ := hv
  have hx := B.exec
  have hb := B.bytes
  have hr := B.returns
  have hts := atoms_spec (ws := wsX1_keep) B.pre
  have hown : s.vm.findClass RX1 = some m.cls := findClass_of_methodNamed B.named
  have hlocks := B.notSynchronized
  have hK := hKK.1
  have hin1 : ∀ w ∈ wsX10, w ∈ wsX1_keep := by decide +kernel
  subst hsz
  have hD := hD0.self (sz := s.heap.size)
  obtain ⟨A, hAe⟩ : ∃ A, A = va_A (wX cI cS a na nc N L u0) s.heap.size := ⟨_, rfl⟩
  rw [← hAe] at hD
  have hA : ∀ q : Nat, s.heap.size ≤ q → A q := fun q h => by rw [hAe]; exact Or.inr h
  have hS : va_S A s.heap s.heap [] := va_S.rf
  have hl := lv_entry ([.ref (a 9), .int x0, .int x1]) (n := 3) (Nat.le_of_ble_eq_true rfl)
  rw [lg_entry_eq]
  generalize (lg_sl ([.ref (a 9), .int x0, .int x1]) ++ List.replicate (3 - (lg_sl ([.ref (a 9), .int x0, .int x1])).length) Slot.unset).toArray = ls at hl ⊢
  have hl : lv_has ls 3 [(0, .ref (a 9)), (1, .int x0), (2, .int x1)] := hl
  obtain ⟨u, hu9⟩ : ∃ u : SU, u = u0 := ⟨_, rfl⟩
  rw [← hu9] at hP hD
  refine lv_iload_n hx hb dX1_keep_0 rfl (lv_at hl 1 rfl) ?_
  refine lv_if_lt (tgt := 31) hx hb dX1_keep_1 (by decide) (fun c2451 => ?_) (fun c2451 => ?_)
  · have g2452 : Rg (-2147483648) (-1) x0 := rg_ltl (rg_any x0) (by decide : Rg 0 0 (0 : Int32)) c2451 (by decide)
    subst hAe
    exact W.vret hx hb hr (fun t ht hW => ⟨⟨u, rfl, trivial, by rw [ht]; exact hP, hD⟩, hS.F ht⟩) hS.2.2 dX1_keep_31
  · have g2453 : Rg 0 2147483647 x0 := rg_ler (by decide : Rg 0 0 (0 : Int32)) (rg_any x0) (rg_nlt c2451) (by decide)
    refine lv_iload_n hx hb dX1_keep_4 rfl (lv_at hl 1 rfl) ?_
    refine lv_aload_n hx hb dX1_keep_5 rfl (lv_at hl 0 rfl) ?_
    refine va_get (D := D) (ci := 1) (v := .ref (a 10)) (C := RX1) (T := TX1) (N := 2) hx hb hts hin1 hown hK hP 9 rfl rfl 0 (by decide) (hts (.fieldLink RX1 21 "MissedPoints$Memo" "cells" "[I") (by decide +kernel)) (fun _ h9 => h9) rfl dX1_keep_6 ?_
    refine va_alen hx hb hK hP 10 0 rfl rfl (v := 4096) rfl dX1_keep_9 ?_
    refine lv_icmp_ge (tgt := 31) hx hb dX1_keep_10 (by decide) (fun c2454 => ?_) (fun c2454 => ?_)
    · have g2455 : Rg 4096 2147483647 x0 := rg_ler (by decide : Rg 4096 4096 (4096 : Int32)) g2453 c2454 (by decide)
      subst hAe
      exact W.vret hx hb hr (fun t ht hW => ⟨⟨u, rfl, trivial, by rw [ht]; exact hP, hD⟩, hS.F ht⟩) hS.2.2 dX1_keep_31
    · have g2456 : Rg 0 4095 x0 := rg_ltl g2453 (by decide : Rg 4096 4096 (4096 : Int32)) (rg_nle c2454) (by decide)
      refine lv_aload_n hx hb dX1_keep_13 rfl (lv_at hl 0 rfl) ?_
      refine va_get (D := D) (ci := 1) (v := .ref (a 10)) (C := RX1) (T := TX1) (N := 2) hx hb hts hin1 hown hK hP 9 rfl rfl 0 (by decide) (hts (.fieldLink RX1 21 "MissedPoints$Memo" "cells" "[I") (by decide +kernel)) (fun _ h9 => h9) rfl dX1_keep_14 ?_
      refine lv_iload_n hx hb dX1_keep_17 rfl (lv_at hl 1 rfl) ?_
      refine lv_aload_n hx hb dX1_keep_18 rfl (lv_at hl 0 rfl) ?_
      refine va_get (D := D) (ci := 1) (v := .int (u 9 1)) (C := RX1) (T := TX1) (N := 2) hx hb hts hin1 hown hK hP 9 rfl rfl 1 (by decide) (hts (.fieldLink RX1 9 "MissedPoints$Memo" "age" "I") (by decide +kernel)) (fun _ h9 => h9) rfl dX1_keep_19 ?_
      refine wk_any (fun r2457 => ?_)
      refine lv_bipush (v := 16) hx hb dX1_keep_22 (by decide) ?_
      refine lv_ishl hx hb dX1_keep_24 ?_
      refine wk_topP (P := fun r => r = r2457 <<< ((16 : Int32) &&& 31)) rfl (fun r2458 qr2458 => ?_)
      refine lv_iload_n hx hb dX1_keep_25 rfl (lv_at hl 2 rfl) ?_
      refine lv_ldc hx hb hown (hts (.constant RX1 25 (65535)) (by decide +kernel)) dX1_keep_26 ?_
      refine wk_iandr hx hb dX1_keep_28 (by decide : Rg 65535 65535 (65535 : Int32)) (by decide) (fun r2459 hr2459 qr2459 => ?_)
      refine lv_ior hx hb dX1_keep_29 ?_
      refine wk_topP (P := fun r => r = r2458 ||| r2459) rfl (fun r2460 qr2460 => ?_)
      refine ks_ast hx hb hK hP hD hS rfl (k := 10) rfl sx_10 (rg_in g2456 (by decide) (by decide)) dX1_keep_30 (fun u H locs hP hD hS => ?_)
      subst hAe
      exact W.vret hx hb hr (fun t ht hW => ⟨⟨u, rfl, trivial, by rw [ht]; exact hP, hD⟩, hS.F ht⟩) hS.2.2 dX1_keep_31
theorem dX1_forget_10 : decode cX1_forget 10 = .ok (.iconst 0, 1) := by decide +kernel
theorem dX1_forget_11 : decode cX1_forget 11 = .ok (.istore_n 1, 1) := by decide +kernel
theorem dX1_forget_12 : decode cX1_forget 12 = .ok (.iload_n 1, 1) := by decide +kernel
theorem dX1_forget_13 : decode cX1_forget 13 = .ok (.aload_n 0, 1) := by decide +kernel
theorem dX1_forget_14 : decode cX1_forget 14 = .ok (.getfield 21, 3) := by decide +kernel
theorem dX1_forget_17 : decode cX1_forget 17 = .ok (.arraylength, 1) := by decide +kernel
theorem dX1_forget_18 : decode cX1_forget 18 = .ok (.if_icmp .ge 16, 3) := by decide +kernel
theorem dX1_forget_21 : decode cX1_forget 21 = .ok (.aload_n 0, 1) := by decide +kernel
theorem dX1_forget_22 : decode cX1_forget 22 = .ok (.getfield 21, 3) := by decide +kernel
theorem dX1_forget_25 : decode cX1_forget 25 = .ok (.iload_n 1, 1) := by decide +kernel
theorem dX1_forget_26 : decode cX1_forget 26 = .ok (.iconst 0, 1) := by decide +kernel
theorem dX1_forget_27 : decode cX1_forget 27 = .ok (.iastore, 1) := by decide +kernel
theorem dX1_forget_28 : decode cX1_forget 28 = .ok (.iinc 1 1, 3) := by decide +kernel
theorem dX1_forget_31 : decode cX1_forget 31 = .ok (.goto (-19), 3) := by decide +kernel
theorem dX1_forget_34 : decode cX1_forget 34 = .ok (.aload_n 0, 1) := by decide +kernel
theorem dX1_forget_35 : decode cX1_forget 35 = .ok (.iconst 0, 1) := by decide +kernel
theorem dX1_forget_36 : decode cX1_forget 36 = .ok (.putfield 9, 3) := by decide +kernel
set_option maxHeartbeats 4000000 in
set_option maxRecDepth 100000 in
theorem k_X1_forget (l : Launch) (D : va_G) (cI cS : ClassId) (sz : Nat) (a : Nat → Nat) (na nc N : Nat) (L u0 : SU) (hL : TyX L) (hN : N = 0 ∨ N = 24576) : Met l yX1_forget wsX1_forget ({ frames := 0, cells := 0, slots := 0, locals := 0 }) (PQ D cI cS (wX cI cS a na nc N L u0) sz [.ref (a 9)]) (QE (S := SU) D (wX cI cS a na nc N L u0) (wX cI cS a na nc N L) sz (fun _ => True)) 0 0 (va_A (wX cI cS a na nc N L u0) sz) := by
  refine Met.ofW (cc := cX1_forget) (maxL := 2) (ret := none) (by decide) rfl ?_
  intro p e s m args below meth c s₁ B hml hv
  obtain ⟨rfl, hsz, hP, hKK, hD0⟩ := hv
  have hx := B.exec
  have hb := B.bytes
  have hr := B.returns
  have hts := atoms_spec (ws := wsX1_forget) B.pre
  have hown : s.vm.findClass RX1 = some m.cls := findClass_of_methodNamed B.named
  have hlocks := B.notSynchronized
  have hK := hKK.1
  have hin1 : ∀ w ∈ wsX10, w ∈ wsX1_forget := by decide +kernel
  subst hsz
  have hD := hD0.self (sz := s.heap.size)
  obtain ⟨A, hAe⟩ : ∃ A, A = va_A (wX cI cS a na nc N L u0) s.heap.size := ⟨_, rfl⟩
  rw [← hAe] at hD
  have hA : ∀ q : Nat, s.heap.size ≤ q → A q := fun q h => by rw [hAe]; exact Or.inr h
  have hS : va_S A s.heap s.heap [] := va_S.rf
  have hl := lv_entry ([.ref (a 9)]) (n := 2) (Nat.le_of_ble_eq_true rfl)
  rw [lg_entry_eq]
  generalize (lg_sl ([.ref (a 9)]) ++ List.replicate (2 - (lg_sl ([.ref (a 9)])).length) Slot.unset).toArray = ls at hl ⊢
  have hl : lv_has ls 2 [(0, .ref (a 9))] := hl
  obtain ⟨u, hu9⟩ : ∃ u : SU, u = u0 := ⟨_, rfl⟩
  rw [← hu9] at hP hD
  have lp12 : ∀ (n12 : Nat) (y12_l1 : Int32) (u : SU) (H : Heap) (locs : List Loc) (ls : Array Slot), Rg 0 4096 y12_l1 → va_P D cls (wX cI cS a na nc N L u) H → va_D A (wX cI cS a na nc N L u) → va_S A s.heap H locs → lv_has ls 2 [(0, .ref (a 9)), (1, .int y12_l1)] → 4096 - y12_l1.toInt < (n12 : Int) → W p l e (headSpec wsX1_forget ({ frames := 0, cells := 0, slots := 0, locals := 0 })).room s m ([.ref (a 9)]).toArray below meth c H locs 0 0 (MQ below (QE (S := SU) D (wX cI cS a na nc N L u0) (wX cI cS a na nc N L) s.heap.size (fun _ => True)) ([.ref (a 9)]).toArray s 0 0 (va_A (wX cI cS a na nc N L u0) s.heap.size)) (F0 m 12 ls []) := by
    intro n12
    induction n12 with
    | zero =>
      intro y12_l1 u H locs ls g12_l1 hP hD hS hl hm12
      exact absurd rfl (me_z g12_l1 hm12)
    | succ n12 ih12 =>
      intro y12_l1 u H locs ls g12_l1 hP hD hS hl hm12
      refine lv_iload_n hx hb dX1_forget_12 rfl (lv_at hl 1 rfl) ?_
      refine lv_aload_n hx hb dX1_forget_13 rfl (lv_at hl 0 rfl) ?_
      refine va_get (D := D) (ci := 1) (v := .ref (a 10)) (C := RX1) (T := TX1) (N := 2) hx hb hts hin1 hown hK hP 9 rfl rfl 0 (by decide) (hts (.fieldLink RX1 21 "MissedPoints$Memo" "cells" "[I") (by decide +kernel)) (fun _ h9 => h9) rfl dX1_forget_14 ?_
      refine va_alen hx hb hK hP 10 0 rfl rfl (v := 4096) rfl dX1_forget_17 ?_
      refine lv_icmp_ge (tgt := 34) hx hb dX1_forget_18 (by decide) (fun c2619 => ?_) (fun c2619 => ?_)
      · have g2620 : Rg 4096 4096 y12_l1 := rg_ler (by decide : Rg 4096 4096 (4096 : Int32)) g12_l1 c2619 (by decide)
        refine lv_aload_n hx hb dX1_forget_34 rfl (lv_at hl 0 rfl) ?_
        refine lv_iconst (v := 0) hx hb dX1_forget_35 (by decide) ?_
        refine va_put (D := D) (ci := 1) (v := .int 0) (ty := .int) (C := RX1) (T := TX1) (N := 2) hx hb hts hin1 tyX1 tyX1_ok nmX1 hown hK hP hD hS 9 rfl rfl 1 (by decide) (hts (.fieldLink RX1 9 "MissedPoints$Memo" "age" "I") (by decide +kernel)) (fun _ h9 => h9) rfl (by decide +kernel) rfl rfl (Nat.le_of_ble_eq_true rfl) dX1_forget_36 (fun H locs hP hD hS => ?_)
        rw [sxf_9_1] at hP hD
        generalize sU u 9 _ = u at hP hD
        refine lv_aload_n hx hb dX1_forget_39 rfl (lv_at hl 0 rfl) ?_
        refine lv_dup hx hb dX1_forget_40 rfl ?_
        refine va_get (D := D) (ci := 1) (v := .int (u 9 1)) (C := RX1) (T := TX1) (N := 2) hx hb hts hin1 hown hK hP 9 rfl rfl 1 (by decide) (hts (.fieldLink RX1 9 "MissedPoints$Memo" "age" "I") (by decide +kernel)) (fun _ h9 => h9) rfl dX1_forget_41 ?_
        refine wk_any (fun r2621 => ?_)
        refine lv_iconst (v := 1) hx hb dX1_forget_44 (by decide) ?_
        refine lv_iadd hx hb dX1_forget_45 ?_
        refine wk_topP (P := fun r => r = r2621 + (1 : Int32)) rfl (fun r2622 qr2622 => ?_)
        refine va_put (D := D) (ci := 1) (v := .int r2622) (ty := .int) (C := RX1) (T := TX1) (N := 2) hx hb hts hin1 tyX1 tyX1_ok nmX1 hown hK hP hD hS 9 rfl rfl 1 (by decide) (hts (.fieldLink RX1 9 "MissedPoints$Memo" "age" "I") (by decide +kernel)) (fun _ h9 => h9) rfl (by decide +kernel) rfl rfl (Nat.le_of_ble_eq_true rfl) dX1_forget_46 (fun H locs hP hD hS => ?_)
        rw [sxf_9_1] at hP hD
        generalize sU u 9 _ = u at hP hD
        subst hAe
        exact W.vret hx hb hr (fun t ht hW => ⟨⟨u, rfl, trivial, by rw [ht]; exact hP, hD⟩, hS.F ht⟩) hS.2.2 dX1_forget_49
      · have g2623 : Rg 0 4095 y12_l1 := rg_ltl g12_l1 (by decide : Rg 4096 4096 (4096 : Int32)) (rg_nle c2619) (by decide)
        refine lv_aload_n hx hb dX1_forget_21 rfl (lv_at hl 0 rfl) ?_
        refine va_get (D := D) (ci := 1) (v := .ref (a 10)) (C := RX1) (T := TX1) (N := 2) hx hb hts hin1 hown hK hP 9 rfl rfl 0 (by decide) (hts (.fieldLink RX1 21 "MissedPoints$Memo" "cells" "[I") (by decide +kernel)) (fun _ h9 => h9) rfl dX1_forget_22 ?_
        refine lv_iload_n hx hb dX1_forget_25 rfl (lv_at hl 1 rfl) ?_
        refine lv_iconst (v := 0) hx hb dX1_forget_26 (by decide) ?_
        refine ks_ast hx hb hK hP hD hS rfl (k := 10) rfl sx_10 (rg_in g2623 (by decide) (by decide)) dX1_forget_27 (fun u H locs hP hD hS => ?_)
        refine wk_iinc (lv' := fun r => [(1, .int r), (0, .ref (a 9))]) (e1 := 1) (f := 4096) hx hb dX1_forget_28 hl (k := 1) rfl (by decide) g2623 (by decide) (fun _ => rfl) (fun r2624 ls hr2624 er2624 hl => ?_)
        refine lv_goto (tgt := 12) hx hb dX1_forget_31 (by decide) ?_
        exact ih12 r2624 u _ _ ls (show Rg 0 4096 r2624 from rg_w hr2624 (by decide) (by decide)) hP hD hS (lv_sub (l' := [(0, .ref (a 9)), (1, .int r2624)]) hl [1, 0] rfl) (me_up hm12 er2624 (by decide))
  refine lv_aload_n hx hb dX1_forget_0 rfl (lv_at hl 0 rfl) ?_
  refine va_get (D := D) (ci := 1) (v := .int (u 9 1)) (C := RX1) (T := TX1) (N := 2) hx hb hts hin1 hown hK hP 9 rfl rfl 1 (by decide) (hts (.fieldLink RX1 9 "MissedPoints$Memo" "age" "I") (by decide +kernel)) (fun _ h9 => h9) rfl dX1_forget_1 ?_
  refine wk_any (fun r2625 => ?_)
  refine lv_sipush (v := 32767) hx hb dX1_forget_4 (by decide) ?_
  refine lv_icmp_ne (tgt := 39) hx hb dX1_forget_7 (by decide) (fun c2626 => ?_) (fun c2626 => ?_)
  · refine lv_aload_n hx hb dX1_forget_39 rfl (lv_at hl 0 rfl) ?_
    refine lv_dup hx hb dX1_forget_40 rfl ?_
    refine va_get (D := D) (ci := 1) (v := .int (u 9 1)) (C := RX1) (T := TX1) (N := 2) hx hb hts hin1 hown hK hP 9 rfl rfl 1 (by decide) (hts (.fieldLink RX1 9 "MissedPoints$Memo" "age" "I") (by decide +kernel)) (fun _ h9 => h9) rfl dX1_forget_41 ?_
    refine wk_any (fun r2627 => ?_)
    refine lv_iconst (v := 1) hx hb dX1_forget_44 (by decide) ?_
    refine lv_iadd hx hb dX1_forget_45 ?_
    refine wk_topP (P := fun r => r = r2627 + (1 : Int32)) rfl (fun r2628 qr2628 => ?_)
    refine va_put (D := D) (ci := 1) (v := .int r2628) (ty := .int) (C := RX1) (T := TX1) (N := 2) hx hb hts hin1 tyX1 tyX1_ok nmX1 hown hK hP hD hS 9 rfl rfl 1 (by decide) (hts (.fieldLink RX1 9 "MissedPoints$Memo" "age" "I") (by decide +kernel)) (fun _ h9 => h9) rfl (by decide +kernel) rfl rfl (Nat.le_of_ble_eq_true rfl) dX1_forget_46 (fun H locs hP hD hS => ?_)
    rw [sxf_9_1] at hP hD
    generalize sU u 9 _ = u at hP hD
    subst hAe
    exact W.vret hx hb hr (fun t ht hW => ⟨⟨u, rfl, trivial, by rw [ht]; exact hP, hD⟩, hS.F ht⟩) hS.2.2 dX1_forget_49
  · have g2629 : Rg 32767 32767 r2625 := wk_eql (rg_any r2625) (by decide : Rg 32767 32767 (32767 : Int32)) c2626 (by decide)
    refine lv_iconst (v := 0) hx hb dX1_forget_10 (by decide) ?_
    refine lv_istore_n (lv' := [(1, .int 0), (0, .ref (a 9))]) hx hb dX1_forget_11 rfl hl (by decide) rfl (fun ls hl => ?_)
    exact lp12 4097 (0 : Int32) u _ _ ls (by decide : Rg 0 4096 (0 : Int32)) hP hD hS (lv_sub (l' := [(0, .ref (a 9)), (1, .int 0)]) hl [1, 0] rfl) (me_i (by decide : Rg 0 4096 (0 : Int32)) (by decide))
theorem dX1_isBlank_12 : decode cX1_isBlank 12 = .ok (.iconst 0, 1) := by decide +kernel
set_option maxHeartbeats 4000000 in
set_option maxRecDepth 100000 in
theorem k_X1_isBlank_13 (l : Launch) (D : va_G) (cI cS : ClassId) (a : Nat → Nat) (na nc N : Nat) (L u : SU) (hL : TyX L) (hN : N = 0 ∨ N = 24576) : Met l yX1_isBlank wsX1_isBlank ({ frames := 0, cells := 0, slots := 0, locals := 0 }) (PS D cI cS (wX cI cS a na nc N L u) [.ref na]) (vp_Si (fun r => Rg 0 1 r ∧ True)) 0 0 (fun _ => False) := by
  refine Met.ofW (cc := cX1_isBlank) (maxL := 1) (ret := (some .boolean)) (by decide) rfl ?_
  intro p e s m args below meth c s₁ B hml hv
  obtain ⟨rfl, hP, hKK⟩ := hv
  have hx := B.exec
  have hb := B.bytes
  have hr := B.returns
  have hts := atoms_spec (ws := wsX1_isBlank) B.pre
  have hown : s.vm.findClass RX1 = some m.cls := findClass_of_methodNamed B.named
  have hlocks := B.notSynchronized
  have hK := hKK.1
  have hin1 : ∀ w ∈ wsX10, w ∈ wsX1_isBlank := by decide +kernel
  have hl := lv_entry ([.ref na]) (n := 1) (Nat.le_of_ble_eq_true rfl)
  rw [lg_entry_eq]
  generalize (lg_sl ([.ref na]) ++ List.replicate (1 - (lg_sl ([.ref na])).length) Slot.unset).toArray = ls at hl ⊢
  have hl : lv_has ls 1 [(0, .ref na)] := hl
  refine lv_aload_n hx hb dX1_isBlank_0 rfl (lv_at hl 0 rfl) ?_
  refine va_get (D := D) (ci := 1) (v := .ref nc) (C := RX1) (T := TX1) (N := 2) hx hb hts hin1 hown hK hP 13 rfl rfl 0 (by decide) (hts (.fieldLink RX1 21 "MissedPoints$Memo" "cells" "[I") (by decide +kernel)) (fun _ h9 => h9) rfl dX1_isBlank_1 ?_
  refine va_alen hx hb hK hP 14 0 rfl rfl (v := nI N) rfl dX1_isBlank_4 ?_
  refine lv_if_ne (tgt := 12) hx hb dX1_isBlank_5 (by decide) (fun c2633 => ?_) (fun c2633 => ?_)
  · have g2634 : Rg 1 24576 (nI N) := rg_ne_lo (k := 0) (wk_N hN) (by decide) c2633 (by decide)
    refine lv_iconst (v := 0) hx hb dX1_isBlank_12 (by decide) ?_
    exact W.zret (v := 0) hx hb hr (by decide) (fun t ht hW => ⟨_, rfl, ⟨(by decide : Rg 0 1 (0 : Int32)), trivial⟩, ht⟩) (fun q hq => absurd hq List.not_mem_nil) dX1_isBlank_13
  · have g2635 : Rg 0 0 (nI N) := wk_eql (wk_N hN) (by decide : Rg 0 0 (0 : Int32)) c2633 (by decide)
    refine lv_iconst (v := 1) hx hb dX1_isBlank_8 (by decide) ?_
    refine lv_goto (tgt := 13) hx hb dX1_isBlank_9 (by decide) ?_
    exact W.zret (v := 1) hx hb hr (by decide) (fun t ht hW => ⟨_, rfl, ⟨(by decide : Rg 0 1 (1 : Int32)), trivial⟩, ht⟩) (fun q hq => absurd hq List.not_mem_nil) dX1_isBlank_13
set_option maxHeartbeats 4000000 in
set_option maxRecDepth 100000 in
theorem k_X1_recall_13 (l : Launch) (D : va_G) (cI cS : ClassId) (a : Nat → Nat) (na nc N : Nat) (L u : SU) (hL : TyX L) (hN : N = 0 ∨ N = 24576) (x0 : Int32) : Met l yX1_recall wsX1_recall ({ frames := 0, cells := 0, slots := 0, locals := 0 }) (PS D cI cS (wX cI cS a na nc N L u) [.ref na, .int x0]) (vp_Si (fun r => Rg (-1) 65535 r ∧ True)) 0 0 (fun _ => False) := by
  refine Met.ofW (cc := cX1_recall) (maxL := 2) (ret := (some .int)) (by decide) rfl ?_
  intro p e s m args below meth c s₁ B hml hv
  obtain ⟨rfl, hP, hKK⟩ := hv
  have hx := B.exec
  have hb := B.bytes
  have hr := B.returns
  have hts := atoms_spec (ws := wsX1_recall) B.pre
  have hown : s.vm.findClass RX1 = some m.cls := findClass_of_methodNamed B.named
  have hlocks := B.notSynchronized
  have hK := hKK.1
  have hin1 : ∀ w ∈ wsX10, w ∈ wsX1_recall := by decide +kernel
  have hl := lv_entry ([.ref na, .int x0]) (n := 2) (Nat.le_of_ble_eq_true rfl)
  rw [lg_entry_eq]
  generalize (lg_sl ([.ref na, .int x0]) ++ List.replicate (2 - (lg_sl ([.ref na, .int x0])).length) Slot.unset).toArray = ls at hl ⊢
  have hl : lv_has ls 2 [(0, .ref na), (1, .int x0)] := hl
  refine lv_iload_n hx hb dX1_recall_0 rfl (lv_at hl 1 rfl) ?_
  refine lv_if_lt (tgt := 29) hx hb dX1_recall_1 (by decide) (fun c2648 => ?_) (fun c2648 => ?_)
  · have g2649 : Rg (-2147483648) (-1) x0 := rg_ltl (rg_any x0) (by decide : Rg 0 0 (0 : Int32)) c2648 (by decide)
    refine lv_iconst (v := (-1)) hx hb dX1_recall_29 (by decide) ?_
    exact W.iret (v := (-1)) hx hb hr (fun t ht hW => ⟨_, rfl, ⟨(by decide : Rg (-1) 65535 ((-1) : Int32)), trivial⟩, ht⟩) (fun q hq => absurd hq List.not_mem_nil) dX1_recall_30
  · have g2650 : Rg 0 2147483647 x0 := rg_ler (by decide : Rg 0 0 (0 : Int32)) (rg_any x0) (rg_nlt c2648) (by decide)
    refine lv_iload_n hx hb dX1_recall_4 rfl (lv_at hl 1 rfl) ?_
    refine lv_aload_n hx hb dX1_recall_5 rfl (lv_at hl 0 rfl) ?_
    refine va_get (D := D) (ci := 1) (v := .ref nc) (C := RX1) (T := TX1) (N := 2) hx hb hts hin1 hown hK hP 13 rfl rfl 0 (by decide) (hts (.fieldLink RX1 21 "MissedPoints$Memo" "cells" "[I") (by decide +kernel)) (fun _ h9 => h9) rfl dX1_recall_6 ?_
    refine va_alen hx hb hK hP 14 0 rfl rfl (v := nI N) rfl dX1_recall_9 ?_
    refine lv_icmp_ge (tgt := 29) hx hb dX1_recall_10 (by decide) (fun c2651 => ?_) (fun c2651 => ?_)
    · refine lv_iconst (v := (-1)) hx hb dX1_recall_29 (by decide) ?_
      exact W.iret (v := (-1)) hx hb hr (fun t ht hW => ⟨_, rfl, ⟨(by decide : Rg (-1) 65535 ((-1) : Int32)), trivial⟩, ht⟩) (fun q hq => absurd hq List.not_mem_nil) dX1_recall_30
    · have g2652 : Rg 1 24576 (nI N) := rg_ltr g2650 (wk_N hN) (rg_nle c2651) (by decide)
      have g2653 : Rg 0 24575 x0 := rg_ltl g2650 (wk_N hN) (rg_nle c2651) (by decide)
      refine lv_aload_n hx hb dX1_recall_13 rfl (lv_at hl 0 rfl) ?_
      refine va_get (D := D) (ci := 1) (v := .ref nc) (C := RX1) (T := TX1) (N := 2) hx hb hts hin1 hown hK hP 13 rfl rfl 0 (by decide) (hts (.fieldLink RX1 21 "MissedPoints$Memo" "cells" "[I") (by decide +kernel)) (fun _ h9 => h9) rfl dX1_recall_14 ?_
      refine lv_iload_n hx hb dX1_recall_17 rfl (lv_at hl 1 rfl) ?_
      refine wk_aldA hx hb hK hP 14 0 rfl rfl (wk_inN hN g2653.1 (rg_nle c2651)) dX1_recall_18 (fun r2654 => ?_)
      refine lv_bipush (v := 16) hx hb dX1_recall_19 (by decide) ?_
      refine lv_iushr hx hb dX1_recall_21 rfl ?_
      refine wk_any (fun r2655 => ?_)
      refine lv_aload_n hx hb dX1_recall_22 rfl (lv_at hl 0 rfl) ?_
      refine va_get (D := D) (ci := 1) (v := .int (u 13 1)) (C := RX1) (T := TX1) (N := 2) hx hb hts hin1 hown hK hP 13 rfl rfl 1 (by decide) (hts (.fieldLink RX1 9 "MissedPoints$Memo" "age" "I") (by decide +kernel)) (fun _ h9 => h9) rfl dX1_recall_23 ?_
      refine wk_any (fun r2656 => ?_)
      refine lv_icmp_eq (tgt := 31) hx hb dX1_recall_26 (by decide) (fun c2657 => ?_) (fun c2657 => ?_)
      · refine lv_aload_n hx hb dX1_recall_31 rfl (lv_at hl 0 rfl) ?_
        refine va_get (D := D) (ci := 1) (v := .ref nc) (C := RX1) (T := TX1) (N := 2) hx hb hts hin1 hown hK hP 13 rfl rfl 0 (by decide) (hts (.fieldLink RX1 21 "MissedPoints$Memo" "cells" "[I") (by decide +kernel)) (fun _ h9 => h9) rfl dX1_recall_32 ?_
        refine lv_iload_n hx hb dX1_recall_35 rfl (lv_at hl 1 rfl) ?_
        refine wk_aldA hx hb hK hP 14 0 rfl rfl (wk_inN hN g2653.1 (rg_nle c2651)) dX1_recall_36 (fun r2658 => ?_)
        refine lv_ldc hx hb hown (hts (.constant RX1 25 (65535)) (by decide +kernel)) dX1_recall_37 ?_
        refine wk_iandr hx hb dX1_recall_39 (by decide : Rg 65535 65535 (65535 : Int32)) (by decide) (fun r2659 hr2659 qr2659 => ?_)
        exact W.iret (v := r2659) hx hb hr (fun t ht hW => ⟨_, rfl, ⟨(show Rg (-1) 65535 r2659 from rg_w hr2659 (by decide) (by decide)), trivial⟩, ht⟩) (fun q hq => absurd hq List.not_mem_nil) dX1_recall_40
      · refine lv_iconst (v := (-1)) hx hb dX1_recall_29 (by decide) ?_
        exact W.iret (v := (-1)) hx hb hr (fun t ht hW => ⟨_, rfl, ⟨(by decide : Rg (-1) 65535 ((-1) : Int32)), trivial⟩, ht⟩) (fun q hq => absurd hq List.not_mem_nil) dX1_recall_30
set_option maxHeartbeats 4000000 in
set_option maxRecDepth 100000 in
theorem k_X1_keep_13 (l : Launch) (D : va_G) (cI cS : ClassId) (sz : Nat) (a : Nat → Nat) (na nc N : Nat) (L u0 : SU) (hL : TyX L) (hN : N = 0 ∨ N = 24576) (x0 x1 : Int32) : Met l yX1_keep wsX1_keep ({ frames := 0, cells := 0, slots := 0, locals := 0 }) (PQ D cI cS (wX cI cS a na nc N L u0) sz [.ref na, .int x0, .int x1]) (QE (S := SU) D (wX cI cS a na nc N L u0) (wX cI cS a na nc N L) sz (fun _ => True)) 0 0 (va_A (wX cI cS a na nc N L u0) sz) := by
  refine Met.ofW (cc := cX1_keep) (maxL := 3) (ret := none) (by decide) rfl ?_
  intro p e s m args below meth c s₁ B hml hv
  obtain ⟨rfl, hsz, hP, hKK, hD0⟩ := hv
  have hx := B.exec
  have hb := B.bytes
  have hr := B.returns
  have hts := atoms_spec (ws := wsX1_keep) B.pre
  have hown : s.vm.findClass RX1 = some m.cls := findClass_of_methodNamed B.named
  have hlocks := B.notSynchronized
  have hK := hKK.1
  have hin1 : ∀ w ∈ wsX10, w ∈ wsX1_keep := by decide +kernel
  subst hsz
  have hD := hD0.self (sz := s.heap.size)
  obtain ⟨A, hAe⟩ : ∃ A, A = va_A (wX cI cS a na nc N L u0) s.heap.size := ⟨_, rfl⟩
  rw [← hAe] at hD
  have hA : ∀ q : Nat, s.heap.size ≤ q → A q := fun q h => by rw [hAe]; exact Or.inr h
  have hS : va_S A s.heap s.heap [] := va_S.rf
  have hl := lv_entry ([.ref na, .int x0, .int x1]) (n := 3) (Nat.le_of_ble_eq_true rfl)
  rw [lg_entry_eq]
  generalize (lg_sl ([.ref na, .int x0, .int x1]) ++ List.replicate (3 - (lg_sl ([.ref na, .int x0, .int x1])).length) Slot.unset).toArray = ls at hl ⊢
  have hl : lv_has ls 3 [(0, .ref na), (1, .int x0), (2, .int x1)] := hl
  obtain ⟨u, hu9⟩ : ∃ u : SU, u = u0 := ⟨_, rfl⟩
  rw [← hu9] at hP hD
  refine lv_iload_n hx hb dX1_keep_0 rfl (lv_at hl 1 rfl) ?_
  refine lv_if_lt (tgt := 31) hx hb dX1_keep_1 (by decide) (fun c2670 => ?_) (fun c2670 => ?_)
  · have g2671 : Rg (-2147483648) (-1) x0 := rg_ltl (rg_any x0) (by decide : Rg 0 0 (0 : Int32)) c2670 (by decide)
    subst hAe
    exact W.vret hx hb hr (fun t ht hW => ⟨⟨u, rfl, trivial, by rw [ht]; exact hP, hD⟩, hS.F ht⟩) hS.2.2 dX1_keep_31
  · have g2672 : Rg 0 2147483647 x0 := rg_ler (by decide : Rg 0 0 (0 : Int32)) (rg_any x0) (rg_nlt c2670) (by decide)
    refine lv_iload_n hx hb dX1_keep_4 rfl (lv_at hl 1 rfl) ?_
    refine lv_aload_n hx hb dX1_keep_5 rfl (lv_at hl 0 rfl) ?_
    refine va_get (D := D) (ci := 1) (v := .ref nc) (C := RX1) (T := TX1) (N := 2) hx hb hts hin1 hown hK hP 13 rfl rfl 0 (by decide) (hts (.fieldLink RX1 21 "MissedPoints$Memo" "cells" "[I") (by decide +kernel)) (fun _ h9 => h9) rfl dX1_keep_6 ?_
    refine va_alen hx hb hK hP 14 0 rfl rfl (v := nI N) rfl dX1_keep_9 ?_
    refine lv_icmp_ge (tgt := 31) hx hb dX1_keep_10 (by decide) (fun c2673 => ?_) (fun c2673 => ?_)
    · subst hAe
      exact W.vret hx hb hr (fun t ht hW => ⟨⟨u, rfl, trivial, by rw [ht]; exact hP, hD⟩, hS.F ht⟩) hS.2.2 dX1_keep_31
    · have g2674 : Rg 1 24576 (nI N) := rg_ltr g2672 (wk_N hN) (rg_nle c2673) (by decide)
      have g2675 : Rg 0 24575 x0 := rg_ltl g2672 (wk_N hN) (rg_nle c2673) (by decide)
      refine lv_aload_n hx hb dX1_keep_13 rfl (lv_at hl 0 rfl) ?_
      refine va_get (D := D) (ci := 1) (v := .ref nc) (C := RX1) (T := TX1) (N := 2) hx hb hts hin1 hown hK hP 13 rfl rfl 0 (by decide) (hts (.fieldLink RX1 21 "MissedPoints$Memo" "cells" "[I") (by decide +kernel)) (fun _ h9 => h9) rfl dX1_keep_14 ?_
      refine lv_iload_n hx hb dX1_keep_17 rfl (lv_at hl 1 rfl) ?_
      refine lv_aload_n hx hb dX1_keep_18 rfl (lv_at hl 0 rfl) ?_
      refine va_get (D := D) (ci := 1) (v := .int (u 13 1)) (C := RX1) (T := TX1) (N := 2) hx hb hts hin1 hown hK hP 13 rfl rfl 1 (by decide) (hts (.fieldLink RX1 9 "MissedPoints$Memo" "age" "I") (by decide +kernel)) (fun _ h9 => h9) rfl dX1_keep_19 ?_
      refine wk_any (fun r2676 => ?_)
      refine lv_bipush (v := 16) hx hb dX1_keep_22 (by decide) ?_
      refine lv_ishl hx hb dX1_keep_24 ?_
      refine wk_topP (P := fun r => r = r2676 <<< ((16 : Int32) &&& 31)) rfl (fun r2677 qr2677 => ?_)
      refine lv_iload_n hx hb dX1_keep_25 rfl (lv_at hl 2 rfl) ?_
      refine lv_ldc hx hb hown (hts (.constant RX1 25 (65535)) (by decide +kernel)) dX1_keep_26 ?_
      refine wk_iandr hx hb dX1_keep_28 (by decide : Rg 65535 65535 (65535 : Int32)) (by decide) (fun r2678 hr2678 qr2678 => ?_)
      refine lv_ior hx hb dX1_keep_29 ?_
      refine wk_topP (P := fun r => r = r2677 ||| r2678) rfl (fun r2679 qr2679 => ?_)
      refine ks_ast hx hb hK hP hD hS rfl (k := 14) rfl sx_14 (wk_inN hN g2675.1 (rg_nle c2673)) dX1_keep_30 (fun u H locs hP hD hS => ?_)
      subst hAe
      exact W.vret hx hb hr (fun t ht hW => ⟨⟨u, rfl, trivial, by rw [ht]; exact hP, hD⟩, hS.F ht⟩) hS.2.2 dX1_keep_31
set_option maxHeartbeats 4000000 in
set_option maxRecDepth 100000 in
theorem k_X1_forget_13 (l : Launch) (D : va_G) (cI cS : ClassId) (sz : Nat) (a : Nat → Nat) (na nc N : Nat) (L u0 : SU) (hL : TyX L) (hN : N = 0 ∨ N = 24576) : Met l yX1_forget wsX1_forget ({ frames := 0, cells := 0, slots := 0, locals := 0 }) (PQ D cI cS (wX cI cS a na nc N L u0) sz [.ref na]) (QE (S := SU) D (wX cI cS a na nc N L u0) (wX cI cS a na nc N L) sz (fun _ => True)) 0 0 (va_A (wX cI cS a na nc N L u0) sz) := by
  refine Met.ofW (cc := cX1_forget) (maxL := 2) (ret := none) (by decide) rfl ?_
  intro p e s m args below meth c s₁ B hml hv
  obtain ⟨rfl, hsz, hP, hKK, hD0⟩ := hv
  have hx := B.exec
  have hb := B.bytes
  have hr := B.returns
  have hts := atoms_spec (ws := wsX1_forget) B.pre
  have hown : s.vm.findClass RX1 = some m.cls := findClass_of_methodNamed B.named
  have hlocks := B.notSynchronized
  have hK := hKK.1
  have hin1 : ∀ w ∈ wsX10, w ∈ wsX1_forget := by decide +kernel
  subst hsz
  have hD := hD0.self (sz := s.heap.size)
  obtain ⟨A, hAe⟩ : ∃ A, A = va_A (wX cI cS a na nc N L u0) s.heap.size := ⟨_, rfl⟩
  rw [← hAe] at hD
  have hA : ∀ q : Nat, s.heap.size ≤ q → A q := fun q h => by rw [hAe]; exact Or.inr h
  have hS : va_S A s.heap s.heap [] := va_S.rf
  have hl := lv_entry ([.ref na]) (n := 2) (Nat.le_of_ble_eq_true rfl)
  rw [lg_entry_eq]
  generalize (lg_sl ([.ref na]) ++ List.replicate (2 - (lg_sl ([.ref na])).length) Slot.unset).toArray = ls at hl ⊢
  have hl : lv_has ls 2 [(0, .ref na)] := hl
  obtain ⟨u, hu9⟩ : ∃ u : SU, u = u0 := ⟨_, rfl⟩
  rw [← hu9] at hP hD
  have lp12 : ∀ (n12 : Nat) (y12_l1 : Int32) (u : SU) (H : Heap) (locs : List Loc) (ls : Array Slot), Rg 0 28671 y12_l1 → va_P D cls (wX cI cS a na nc N L u) H → va_D A (wX cI cS a na nc N L u) → va_S A s.heap H locs → lv_has ls 2 [(0, .ref na), (1, .int y12_l1)] → 28671 - y12_l1.toInt < (n12 : Int) → W p l e (headSpec wsX1_forget ({ frames := 0, cells := 0, slots := 0, locals := 0 })).room s m ([.ref na]).toArray below meth c H locs 0 0 (MQ below (QE (S := SU) D (wX cI cS a na nc N L u0) (wX cI cS a na nc N L) s.heap.size (fun _ => True)) ([.ref na]).toArray s 0 0 (va_A (wX cI cS a na nc N L u0) s.heap.size)) (F0 m 12 ls []) := by
    intro n12
    induction n12 with
    | zero =>
      intro y12_l1 u H locs ls g12_l1 hP hD hS hl hm12
      exact absurd rfl (me_z g12_l1 hm12)
    | succ n12 ih12 =>
      intro y12_l1 u H locs ls g12_l1 hP hD hS hl hm12
      refine lv_iload_n hx hb dX1_forget_12 rfl (lv_at hl 1 rfl) ?_
      refine lv_aload_n hx hb dX1_forget_13 rfl (lv_at hl 0 rfl) ?_
      refine va_get (D := D) (ci := 1) (v := .ref nc) (C := RX1) (T := TX1) (N := 2) hx hb hts hin1 hown hK hP 13 rfl rfl 0 (by decide) (hts (.fieldLink RX1 21 "MissedPoints$Memo" "cells" "[I") (by decide +kernel)) (fun _ h9 => h9) rfl dX1_forget_14 ?_
      refine va_alen hx hb hK hP 14 0 rfl rfl (v := nI N) rfl dX1_forget_17 ?_
      refine lv_icmp_ge (tgt := 34) hx hb dX1_forget_18 (by decide) (fun c2933 => ?_) (fun c2933 => ?_)
      · refine lv_aload_n hx hb dX1_forget_34 rfl (lv_at hl 0 rfl) ?_
        refine lv_iconst (v := 0) hx hb dX1_forget_35 (by decide) ?_
        refine va_put (D := D) (ci := 1) (v := .int 0) (ty := .int) (C := RX1) (T := TX1) (N := 2) hx hb hts hin1 tyX1 tyX1_ok nmX1 hown hK hP hD hS 13 rfl rfl 1 (by decide) (hts (.fieldLink RX1 9 "MissedPoints$Memo" "age" "I") (by decide +kernel)) (fun _ h9 => h9) rfl (by decide +kernel) rfl rfl (Nat.le_of_ble_eq_true rfl) dX1_forget_36 (fun H locs hP hD hS => ?_)
        rw [sxf_13_1] at hP hD
        generalize sU u 13 _ = u at hP hD
        refine lv_aload_n hx hb dX1_forget_39 rfl (lv_at hl 0 rfl) ?_
        refine lv_dup hx hb dX1_forget_40 rfl ?_
        refine va_get (D := D) (ci := 1) (v := .int (u 13 1)) (C := RX1) (T := TX1) (N := 2) hx hb hts hin1 hown hK hP 13 rfl rfl 1 (by decide) (hts (.fieldLink RX1 9 "MissedPoints$Memo" "age" "I") (by decide +kernel)) (fun _ h9 => h9) rfl dX1_forget_41 ?_
        refine wk_any (fun r2934 => ?_)
        refine lv_iconst (v := 1) hx hb dX1_forget_44 (by decide) ?_
        refine lv_iadd hx hb dX1_forget_45 ?_
        refine wk_topP (P := fun r => r = r2934 + (1 : Int32)) rfl (fun r2935 qr2935 => ?_)
        refine va_put (D := D) (ci := 1) (v := .int r2935) (ty := .int) (C := RX1) (T := TX1) (N := 2) hx hb hts hin1 tyX1 tyX1_ok nmX1 hown hK hP hD hS 13 rfl rfl 1 (by decide) (hts (.fieldLink RX1 9 "MissedPoints$Memo" "age" "I") (by decide +kernel)) (fun _ h9 => h9) rfl (by decide +kernel) rfl rfl (Nat.le_of_ble_eq_true rfl) dX1_forget_46 (fun H locs hP hD hS => ?_)
        rw [sxf_13_1] at hP hD
        generalize sU u 13 _ = u at hP hD
        subst hAe
        exact W.vret hx hb hr (fun t ht hW => ⟨⟨u, rfl, trivial, by rw [ht]; exact hP, hD⟩, hS.F ht⟩) hS.2.2 dX1_forget_49
      · have g2936 : Rg 1 24576 (nI N) := rg_ltr g12_l1 (wk_N hN) (rg_nle c2933) (by decide)
        have g2937 : Rg 0 24575 y12_l1 := rg_ltl g12_l1 (wk_N hN) (rg_nle c2933) (by decide)
        refine lv_aload_n hx hb dX1_forget_21 rfl (lv_at hl 0 rfl) ?_
        refine va_get (D := D) (ci := 1) (v := .ref nc) (C := RX1) (T := TX1) (N := 2) hx hb hts hin1 hown hK hP 13 rfl rfl 0 (by decide) (hts (.fieldLink RX1 21 "MissedPoints$Memo" "cells" "[I") (by decide +kernel)) (fun _ h9 => h9) rfl dX1_forget_22 ?_
        refine lv_iload_n hx hb dX1_forget_25 rfl (lv_at hl 1 rfl) ?_
        refine lv_iconst (v := 0) hx hb dX1_forget_26 (by decide) ?_
        refine ks_ast hx hb hK hP hD hS rfl (k := 14) rfl sx_14 (wk_inN hN g2937.1 (rg_nle c2933)) dX1_forget_27 (fun u H locs hP hD hS => ?_)
        refine wk_iinc (lv' := fun r => [(1, .int r), (0, .ref na)]) (e1 := 1) (f := 24576) hx hb dX1_forget_28 hl (k := 1) rfl (by decide) g2937 (by decide) (fun _ => rfl) (fun r2938 ls hr2938 er2938 hl => ?_)
        refine lv_goto (tgt := 12) hx hb dX1_forget_31 (by decide) ?_
        exact ih12 r2938 u _ _ ls (show Rg 0 28671 r2938 from rg_w hr2938 (by decide) (by decide)) hP hD hS (lv_sub (l' := [(0, .ref na), (1, .int r2938)]) hl [1, 0] rfl) (me_up hm12 er2938 (by decide))
  refine lv_aload_n hx hb dX1_forget_0 rfl (lv_at hl 0 rfl) ?_
  refine va_get (D := D) (ci := 1) (v := .int (u 13 1)) (C := RX1) (T := TX1) (N := 2) hx hb hts hin1 hown hK hP 13 rfl rfl 1 (by decide) (hts (.fieldLink RX1 9 "MissedPoints$Memo" "age" "I") (by decide +kernel)) (fun _ h9 => h9) rfl dX1_forget_1 ?_
  refine wk_any (fun r2939 => ?_)
  refine lv_sipush (v := 32767) hx hb dX1_forget_4 (by decide) ?_
  refine lv_icmp_ne (tgt := 39) hx hb dX1_forget_7 (by decide) (fun c2940 => ?_) (fun c2940 => ?_)
  · refine lv_aload_n hx hb dX1_forget_39 rfl (lv_at hl 0 rfl) ?_
    refine lv_dup hx hb dX1_forget_40 rfl ?_
    refine va_get (D := D) (ci := 1) (v := .int (u 13 1)) (C := RX1) (T := TX1) (N := 2) hx hb hts hin1 hown hK hP 13 rfl rfl 1 (by decide) (hts (.fieldLink RX1 9 "MissedPoints$Memo" "age" "I") (by decide +kernel)) (fun _ h9 => h9) rfl dX1_forget_41 ?_
    refine wk_any (fun r2941 => ?_)
    refine lv_iconst (v := 1) hx hb dX1_forget_44 (by decide) ?_
    refine lv_iadd hx hb dX1_forget_45 ?_
    refine wk_topP (P := fun r => r = r2941 + (1 : Int32)) rfl (fun r2942 qr2942 => ?_)
    refine va_put (D := D) (ci := 1) (v := .int r2942) (ty := .int) (C := RX1) (T := TX1) (N := 2) hx hb hts hin1 tyX1 tyX1_ok nmX1 hown hK hP hD hS 13 rfl rfl 1 (by decide) (hts (.fieldLink RX1 9 "MissedPoints$Memo" "age" "I") (by decide +kernel)) (fun _ h9 => h9) rfl (by decide +kernel) rfl rfl (Nat.le_of_ble_eq_true rfl) dX1_forget_46 (fun H locs hP hD hS => ?_)
    rw [sxf_13_1] at hP hD
    generalize sU u 13 _ = u at hP hD
    subst hAe
    exact W.vret hx hb hr (fun t ht hW => ⟨⟨u, rfl, trivial, by rw [ht]; exact hP, hD⟩, hS.F ht⟩) hS.2.2 dX1_forget_49
  · have g2943 : Rg 32767 32767 r2939 := wk_eql (rg_any r2939) (by decide : Rg 32767 32767 (32767 : Int32)) c2940 (by decide)
    refine lv_iconst (v := 0) hx hb dX1_forget_10 (by decide) ?_
    refine lv_istore_n (lv' := [(1, .int 0), (0, .ref na)]) hx hb dX1_forget_11 rfl hl (by decide) rfl (fun ls hl => ?_)
    exact lp12 28672 (0 : Int32) u _ _ ls (by decide : Rg 0 28671 (0 : Int32)) hP hD hS (lv_sub (l' := [(0, .ref na), (1, .int 0)]) hl [1, 0] rfl) (me_i (by decide : Rg 0 28671 (0 : Int32)) (by decide))
set_option maxHeartbeats 4000000 in
set_option maxRecDepth 100000 in
theorem k_X3_notice (l : Launch) (D : va_G) (cI cS : ClassId) (sz : Nat) (a : Nat → Nat) (na nc N : Nat) (L u0 : SU) (hL : TyX L) (hN : N = 0 ∨ N = 24576) : Met l yX3_notice wsX3_notice ({ frames := 1, cells := 0, slots := 0, locals := 40 }) (PQ D cI cS (wX cI cS a na nc N L u0) sz [.ref (a 7)]) (QE (S := SU) D (wX cI cS a na nc N L u0) (wX cI cS a na nc N L) sz (fun _ => True)) 0 0 (va_A (wX cI cS a na nc N L u0) sz) := by
  refine Met.ofW (cc := cX3_notice) (maxL := 1) (ret := none) (by decide) rfl ?_
  intro p e s m args below meth c s₁ B hml hv
  obtain ⟨rfl, hsz, hP, hKK, hD0⟩ := hv
  have hx := B.exec
  have hb := B.bytes
  have hr := B.returns
  have hts := atoms_spec (ws := wsX3_notice) B.pre
  have hown : s.vm.findClass RX3 = some m.cls := findClass_of_methodNamed B.named
  have hlocks := B.notSynchronized
  have hK := hKK.1
  have hin2 : ∀ w ∈ wsX20, w ∈ wsX3_notice := by decide +kernel
  have hin3 : ∀ w ∈ wsX30, w ∈ wsX3_notice := by decide +kernel
  subst hsz
  have hD := hD0.self (sz := s.heap.size)
  obtain ⟨A, hAe⟩ : ∃ A, A = va_A (wX cI cS a na nc N L u0) s.heap.size := ⟨_, rfl⟩
  rw [← hAe] at hD
  have hA : ∀ q : Nat, s.heap.size ≤ q → A q := fun q h => by rw [hAe]; exact Or.inr h
  have hS : va_S A s.heap s.heap [] := va_S.rf
  have hl := lv_entry ([.ref (a 7)]) (n := 1) (Nat.le_of_ble_eq_true rfl)
  rw [lg_entry_eq]
  generalize (lg_sl ([.ref (a 7)]) ++ List.replicate (1 - (lg_sl ([.ref (a 7)])).length) Slot.unset).toArray = ls at hl ⊢
  have hl : lv_has ls 1 [(0, .ref (a 7))] := hl
  obtain ⟨u, hu9⟩ : ∃ u : SU, u = u0 := ⟨_, rfl⟩
  rw [← hu9] at hP hD
  refine lv_aload_n hx hb dX3_notice_0 rfl (lv_at hl 0 rfl) ?_
  refine va_get (D := D) (ci := 3) (v := .int (u 7 3)) (C := RX3) (T := TX3) (N := 4) hx hb hts hin3 hown hK hP 7 rfl rfl 3 (by decide) (hts (.fieldLink RX3 27 "MissedPoints$Pairs" "changesSeen" "I") (by decide +kernel)) (fun _ h9 => h9) rfl dX3_notice_1 ?_
  refine wk_any (fun r2950 => ?_)
  refine lv_aload_n hx hb dX3_notice_4 rfl (lv_at hl 0 rfl) ?_
  refine va_get (D := D) (ci := 3) (v := .ref (a 1)) (C := RX3) (T := TX3) (N := 4) hx hb hts hin3 hown hK hP 7 rfl rfl 0 (by decide) (hts (.fieldLink RX3 23 "MissedPoints$Pairs" "net" "LMissedPoints$Net;") (by decide +kernel)) (fun _ h9 => h9) rfl dX3_notice_5 ?_
  refine va_getN (D := D) (ci := 2) (v := .int (u 1 2)) (C := RX2) (T := TX2) (N := 3) hx hb hts hin2 hown hK hP 1 rfl rfl 2 (by decide) (va_Nw.use rfl hKK.2.2.2.2.2.2.2.2.2.2.2.1) (fun _ h9 => h9) rfl dX3_notice_8 ?_
  refine wk_any (fun r2951 => ?_)
  refine lv_icmp_eq (tgt := 39) hx hb dX3_notice_11 (by decide) (fun c2952 => ?_) (fun c2952 => ?_)
  · subst hAe
    exact W.vret hx hb hr (fun t ht hW => ⟨⟨u, rfl, trivial, by rw [ht]; exact hP, hD⟩, hS.F ht⟩) hS.2.2 dX3_notice_39
  · refine lv_aload_n hx hb dX3_notice_14 rfl (lv_at hl 0 rfl) ?_
    refine lv_aload_n hx hb dX3_notice_15 rfl (lv_at hl 0 rfl) ?_
    refine va_get (D := D) (ci := 3) (v := .ref (a 1)) (C := RX3) (T := TX3) (N := 4) hx hb hts hin3 hown hK hP 7 rfl rfl 0 (by decide) (hts (.fieldLink RX3 23 "MissedPoints$Pairs" "net" "LMissedPoints$Net;") (by decide +kernel)) (fun _ h9 => h9) rfl dX3_notice_16 ?_
    refine va_getN (D := D) (ci := 2) (v := .int (u 1 2)) (C := RX2) (T := TX2) (N := 3) hx hb hts hin2 hown hK hP 1 rfl rfl 2 (by decide) (va_Nw.use rfl hKK.2.2.2.2.2.2.2.2.2.2.2.1) (fun _ h9 => h9) rfl dX3_notice_19 ?_
    refine wk_any (fun r2953 => ?_)
    refine va_put (D := D) (ci := 3) (v := .int r2953) (ty := .int) (C := RX3) (T := TX3) (N := 4) hx hb hts hin3 tyX3 tyX3_ok nmX3 hown hK hP hD hS 7 rfl rfl 3 (by decide) (hts (.fieldLink RX3 27 "MissedPoints$Pairs" "changesSeen" "I") (by decide +kernel)) (fun _ h9 => h9) rfl (by decide +kernel) rfl rfl (Nat.le_of_ble_eq_true rfl) dX3_notice_22 (fun H locs hP hD hS => ?_)
    rw [sxf_7_3] at hP hD
    generalize sU u 7 _ = u at hP hD
    refine lv_aload_n hx hb dX3_notice_25 rfl (lv_at hl 0 rfl) ?_
    refine va_get (D := D) (ci := 3) (v := .ref (a 9)) (C := RX3) (T := TX3) (N := 4) hx hb hts hin3 hown hK hP 7 rfl rfl 1 (by decide) (hts (.fieldLink RX3 14 "MissedPoints$Pairs" "mosts" "LMissedPoints$Memo;") (by decide +kernel)) (fun _ h9 => h9) rfl dX3_notice_26 ?_
    refine wk_qv (wX cI cS a na nc N L) u (As := []) (rest := []) ⟨hx, hb, hml, hown, hts⟩ (k_X1_forget l D cI cS _ a na nc N L u hL hN) hKK hP hD hS hA 9 (ci := 1) rfl rfl (cwV 0 hts gX3_notice_X1_forget rfl rfl rfl (by decide +kernel) ⟨Nat.le_of_ble_eq_true rfl, Nat.le_of_ble_eq_true rfl⟩) rfl hl.1 rfl (Nat.le_of_ble_eq_true rfl) dX3_notice_29 ⟨Nat.le_of_ble_eq_true rfl, Nat.le_of_ble_eq_true rfl⟩ (fun u H locs hr2954 hP hD hS => ?_)
    refine lv_aload_n hx hb dX3_notice_32 rfl (lv_at hl 0 rfl) ?_
    refine va_get (D := D) (ci := 3) (v := .ref na) (C := RX3) (T := TX3) (N := 4) hx hb hts hin3 hown hK hP 7 rfl rfl 2 (by decide) (hts (.fieldLink RX3 20 "MissedPoints$Pairs" "numbers" "LMissedPoints$Memo;") (by decide +kernel)) (fun _ h9 => h9) rfl dX3_notice_33 ?_
    refine wk_qv (wX cI cS a na nc N L) u (As := []) (rest := []) ⟨hx, hb, hml, hown, hts⟩ (k_X1_forget_13 l D cI cS _ a na nc N L u hL hN) hKK hP hD hS hA 13 (ci := 1) rfl rfl (cwV 0 hts gX3_notice_X1_forget rfl rfl rfl (by decide +kernel) ⟨Nat.le_of_ble_eq_true rfl, Nat.le_of_ble_eq_true rfl⟩) rfl hl.1 rfl (Nat.le_of_ble_eq_true rfl) dX3_notice_36 ⟨Nat.le_of_ble_eq_true rfl, Nat.le_of_ble_eq_true rfl⟩ (fun u H locs hr2955 hP hD hS => ?_)
    subst hAe
    exact W.vret hx hb hr (fun t ht hW => ⟨⟨u, rfl, trivial, by rw [ht]; exact hP, hD⟩, hS.F ht⟩) hS.2.2 dX3_notice_39
set_option maxHeartbeats 8000000 in
set_option maxRecDepth 100000 in
theorem k_X3_bestOf_r (l : Launch) (D : va_G) (cI cS : ClassId) (a : Nat → Nat) (na nc N : Nat) (L : SU) (hL : TyX L) (hN : N = 0 ∨ N = 24576) : ∀ (n sz : Nat) (u0 : SU) (x0 x1 : Int32), Rg 0 13 x1 → 13 - x1.toInt ≤ (n : Int) → Met l yX3_bestOf wsX3_bestOf ({ frames := n + 1, cells := 0, slots := 0, locals := 40 * (n + 1) }) (PQ D cI cS (wX cI cS a na nc N L u0) sz [.ref (a 7), .int x0, .int x1]) (QF (S := SU) D (wX cI cS a na nc N L u0) (wX cI cS a na nc N L) sz (fun r _ => Rg 0 65549 r ∧ r.toInt ≤ 65549 - x1.toInt)) 0 0 (va_A (wX cI cS a na nc N L u0) sz) := by
  intro n
  induction n with
  | zero =>
    intro sz u0 x0 x1 px1 hrk
    have px1 : Rg 13 13 x1 := ⟨by omega, px1.2⟩
    refine Met.ofW (cc := cX3_bestOf) (maxL := 11) (ret := (some .int)) (by decide) rfl ?_
    intro p e s m args below meth c s₁ B hml hv
    obtain ⟨rfl, hsz, hP, hKK, hD0⟩ := hv
    have hx := B.exec
    have hb := B.bytes
    have hr := B.returns
    have hts := atoms_spec (ws := wsX3_bestOf) B.pre
    have hown : s.vm.findClass RX3 = some m.cls := findClass_of_methodNamed B.named
    have hlocks := B.notSynchronized
    have hK := hKK.1
    subst hsz
    have hD := hD0.self (sz := s.heap.size)
    obtain ⟨A, hAe⟩ : ∃ A, A = va_A (wX cI cS a na nc N L u0) s.heap.size := ⟨_, rfl⟩
    rw [← hAe] at hD
    have hA : ∀ q : Nat, s.heap.size ≤ q → A q := fun q h => by rw [hAe]; exact Or.inr h
    have hS : va_S A s.heap s.heap [] := va_S.rf
    have hl := lv_entry ([.ref (a 7), .int x0, .int x1]) (n := 11) (Nat.le_of_ble_eq_true rfl)
    rw [lg_entry_eq]
    generalize (lg_sl ([.ref (a 7), .int x0, .int x1]) ++ List.replicate (11 - (lg_sl ([.ref (a 7), .int x0, .int x1])).length) Slot.unset).toArray = ls at hl ⊢
    have hl : lv_has ls 11 [(0, .ref (a 7)), (1, .int x0), (2, .int x1)] := hl
    obtain ⟨u, hu9⟩ : ∃ u : SU, u = u0 := ⟨_, rfl⟩
    rw [← hu9] at hP hD
    refine lv_bipush (v := 31) hx hb dX3_bestOf_0 (by decide) ?_
    refine lv_iload_n hx hb dX3_bestOf_2 rfl (lv_at hl 1 rfl) ?_
    refine lz_ss (As := [.int x0]) (rest := [.int 31]) ⟨hx, hb, hml, hown, hts⟩ (k_J6_numberOfLeadingZeros_0f7a4 l D cI cS x0) hKK (hP.sub (ws' := []) [] rfl) (va_cwS 1 hts gX3_bestOf_J6_numberOfLeadingZeros_0f7a4 rfl rfl rfl (by decide +kernel) ⟨by show 0 + 1 ≤ 0 + 1; omega, by show 8 + (2 + 11) + 0 ≤ 40 * (0 + 1); omega⟩) rfl hl.1 rfl (Nat.le_of_ble_eq_true rfl) dX3_bestOf_3 ⟨Nat.le_of_ble_eq_true rfl, Nat.le_of_ble_eq_true rfl⟩ (fun r2965 hr2965 => ?_)
    refine wk_isub (e1 := (-1)) (f := 31) hx hb dX3_bestOf_6 (by decide : Rg 31 31 (31 : Int32)) hr2965.1 (by decide) (fun r2966 hr2966 er2966 qr2966 => ?_)
    refine lv_istore_n (lv' := [(3, .int r2966), (0, .ref (a 7)), (1, .int x0), (2, .int x1)]) hx hb dX3_bestOf_7 rfl hl (by decide) rfl (fun ls hl => ?_)
    refine lv_iload_n hx hb dX3_bestOf_8 rfl (lv_at hl 0 rfl) ?_
    refine lv_iconst (v := 1) hx hb dX3_bestOf_9 (by decide) ?_
    refine lv_icmp_lt (tgt := 25) hx hb dX3_bestOf_10 (by decide) (fun c2967 => ?_) (fun c2967 => ?_)
    · have g2968 : Rg (-1) 0 r2966 := rg_ltl hr2966 (by decide : Rg 1 1 (1 : Int32)) c2967 (by decide)
      refine lv_iconst (v := 0) hx hb dX3_bestOf_25 (by decide) ?_
      subst hAe
      exact W.iret (v := 0) hx hb hr (fun t ht hW => ⟨⟨_, u, rfl, ⟨(by decide : Rg 0 65549 (0 : Int32)), (by have z1 := px1; have z2 : (0 : Int32).toInt = 0 := (by decide); omega)⟩, by rw [ht]; exact hP, hD⟩, hS.F ht⟩) hS.2.2 dX3_bestOf_26
    · have g2969 : Rg 1 31 r2966 := rg_ler (by decide : Rg 1 1 (1 : Int32)) hr2966 (rg_nlt c2967) (by decide)
      refine lv_iload_n hx hb dX3_bestOf_13 rfl (lv_at hl 0 rfl) ?_
      refine lv_bipush (v := 12) hx hb dX3_bestOf_14 (by decide) ?_
      refine lv_icmp_ge (tgt := 25) hx hb dX3_bestOf_16 (by decide) (fun c2970 => ?_) (fun c2970 => ?_)
      · have g2971 : Rg 12 31 r2966 := rg_ler (by decide : Rg 12 12 (12 : Int32)) g2969 c2970 (by decide)
        refine lv_iconst (v := 0) hx hb dX3_bestOf_25 (by decide) ?_
        subst hAe
        exact W.iret (v := 0) hx hb hr (fun t ht hW => ⟨⟨_, u, rfl, ⟨(by decide : Rg 0 65549 (0 : Int32)), (by have z1 := px1; have z2 : (0 : Int32).toInt = 0 := (by decide); omega)⟩, by rw [ht]; exact hP, hD⟩, hS.F ht⟩) hS.2.2 dX3_bestOf_26
      · have g2972 : Rg 1 11 r2966 := rg_ltl g2969 (by decide : Rg 12 12 (12 : Int32)) (rg_nle c2970) (by decide)
        refine lv_iload_n hx hb dX3_bestOf_19 rfl (lv_at hl 3 rfl) ?_
        refine lv_bipush (v := 12) hx hb dX3_bestOf_20 (by decide) ?_
        refine lv_icmp_le (tgt := 27) hx hb dX3_bestOf_22 (by decide) (fun c2973 => ?_) (fun c2973 => ?_)
        · exact absurd c2973 (wk_nle px1 (by decide : Rg 12 12 (12 : Int32)) (by decide))
        · refine lv_iconst (v := 0) hx hb dX3_bestOf_25 (by decide) ?_
          subst hAe
          exact W.iret (v := 0) hx hb hr (fun t ht hW => ⟨⟨_, u, rfl, ⟨(by decide : Rg 0 65549 (0 : Int32)), (by have z1 := px1; have z2 : (0 : Int32).toInt = 0 := (by decide); omega)⟩, by rw [ht]; exact hP, hD⟩, hS.F ht⟩) hS.2.2 dX3_bestOf_26
  | succ n ih =>
    intro sz u0 x0 x1 px1 hrk
    refine Met.ofW (cc := cX3_bestOf) (maxL := 11) (ret := (some .int)) (by decide) rfl ?_
    intro p e s m args below meth c s₁ B hml hv
    obtain ⟨rfl, hsz, hP, hKK, hD0⟩ := hv
    have hx := B.exec
    have hb := B.bytes
    have hr := B.returns
    have hts := atoms_spec (ws := wsX3_bestOf) B.pre
    have hown : s.vm.findClass RX3 = some m.cls := findClass_of_methodNamed B.named
    have hlocks := B.notSynchronized
    have hK := hKK.1
    have hin2 : ∀ w ∈ wsX20, w ∈ wsX3_bestOf := by decide +kernel
    have hin3 : ∀ w ∈ wsX30, w ∈ wsX3_bestOf := by decide +kernel
    subst hsz
    have hD := hD0.self (sz := s.heap.size)
    obtain ⟨A, hAe⟩ : ∃ A, A = va_A (wX cI cS a na nc N L u0) s.heap.size := ⟨_, rfl⟩
    rw [← hAe] at hD
    have hA : ∀ q : Nat, s.heap.size ≤ q → A q := fun q h => by rw [hAe]; exact Or.inr h
    have hS : va_S A s.heap s.heap [] := va_S.rf
    have hl := lv_entry ([.ref (a 7), .int x0, .int x1]) (n := 11) (Nat.le_of_ble_eq_true rfl)
    rw [lg_entry_eq]
    generalize (lg_sl ([.ref (a 7), .int x0, .int x1]) ++ List.replicate (11 - (lg_sl ([.ref (a 7), .int x0, .int x1])).length) Slot.unset).toArray = ls at hl ⊢
    have hl : lv_has ls 11 [(0, .ref (a 7)), (1, .int x0), (2, .int x1)] := hl
    obtain ⟨u, hu9⟩ : ∃ u : SU, u = u0 := ⟨_, rfl⟩
    rw [← hu9] at hP hD
    have lp106 : ∀ (n106 : Nat) (y106_l3 : Int32) (y106_l5 : Int32) (y106_l6 : Int32) (y106_l7 : Int32) (y106_l8 : Int32) (y106_l9 : Int32) (y106_l10 : Int32) (u : SU) (H : Heap) (locs : List Loc) (ls : Array Slot), Rg 0 12 x1 → Rg 1 11 y106_l3 → Rg 0 65548 y106_l7 → Rg 0 65549 y106_l8 → Rg 0 1 y106_l9 → Rg 0 11 y106_l10 → (y106_l8.toInt ≤ 65549 - x1.toInt ∧ y106_l7.toInt ≤ 65548 - x1.toInt) → va_P D cls (wX cI cS a na nc N L u) H → va_D A (wX cI cS a na nc N L u) → va_S A s.heap H locs → lv_has ls 11 [(0, .ref (a 7)), (1, .int x0), (2, .int x1), (3, .int y106_l3), (5, .int y106_l5), (6, .int y106_l6), (7, .int y106_l7), (8, .int y106_l8), (9, .int y106_l9), (10, .int y106_l10)] → 11 - y106_l10.toInt < (n106 : Int) → W p l e (headSpec wsX3_bestOf ({ frames := n + 1 + 1, cells := 0, slots := 0, locals := 40 * (n + 1 + 1) })).room s m ([.ref (a 7), .int x0, .int x1]).toArray below meth c H locs 0 0 (MQ below (QF (S := SU) D (wX cI cS a na nc N L u0) (wX cI cS a na nc N L) s.heap.size (fun r _ => Rg 0 65549 r ∧ r.toInt ≤ 65549 - x1.toInt)) ([.ref (a 7), .int x0, .int x1]).toArray s 0 0 (va_A (wX cI cS a na nc N L u0) s.heap.size)) (F0 m 106 ls []) := by
      intro n106
      induction n106 with
      | zero =>
        intro y106_l3 y106_l5 y106_l6 y106_l7 y106_l8 y106_l9 y106_l10 u H locs ls g106_l2 g106_l3 g106_l7 g106_l8 g106_l9 g106_l10 x106_0 hP hD hS hl hm106
        exact absurd rfl (me_z g106_l10 hm106)
      | succ n106 ih106 =>
        intro y106_l3 y106_l5 y106_l6 y106_l7 y106_l8 y106_l9 y106_l10 u H locs ls g106_l2 g106_l3 g106_l7 g106_l8 g106_l9 g106_l10 x106_0 hP hD hS hl hm106
        refine lv_iload hx hb dX3_bestOf_106 (lv_at hl 9 rfl) ?_
        refine lv_iload_n hx hb dX3_bestOf_108 rfl (lv_at hl 3 rfl) ?_
        refine lv_icmp_ge (tgt := 164) hx hb dX3_bestOf_109 (by decide) (fun c3433 => ?_) (fun c3433 => ?_)
        · have g3434 : Rg 1 11 y106_l10 := rg_ler g106_l3 g106_l10 c3433 (by decide)
          refine lv_aload_n hx hb dX3_bestOf_164 rfl (lv_at hl 0 rfl) ?_
          refine va_get (D := D) (ci := 3) (v := .ref (a 9)) (C := RX3) (T := TX3) (N := 4) hx hb hts hin3 hown hK hP 7 rfl rfl 1 (by decide) (hts (.fieldLink RX3 14 "MissedPoints$Pairs" "mosts" "LMissedPoints$Memo;") (by decide +kernel)) (fun _ h9 => h9) rfl dX3_bestOf_165 ?_
          refine lv_iload_n hx hb dX3_bestOf_168 rfl (lv_at hl 1 rfl) ?_
          refine lv_iload hx hb dX3_bestOf_169 (lv_at hl 7 rfl) ?_
          refine wk_qv (wX cI cS a na nc N L) u (As := [.int x0, .int y106_l8]) (rest := []) ⟨hx, hb, hml, hown, hts⟩ (k_X1_keep l D cI cS _ a na nc N L u hL hN x0 y106_l8) hKK hP hD hS hA 9 (ci := 1) rfl rfl (cwV 2 hts gX3_bestOf_X1_keep rfl rfl rfl (by decide +kernel) ⟨by show 0 + 1 ≤ (n + 1) + 1; omega, by show 8 + (3 + 11) + 0 ≤ 40 * ((n + 1) + 1); omega⟩) rfl hl.1 rfl (Nat.le_of_ble_eq_true rfl) dX3_bestOf_171 ⟨Nat.le_of_ble_eq_true rfl, Nat.le_of_ble_eq_true rfl⟩ (fun u H locs hr3435 hP hD hS => ?_)
          refine lv_iload hx hb dX3_bestOf_174 (lv_at hl 7 rfl) ?_
          subst hAe
          exact W.iret (v := y106_l8) hx hb hr (fun t ht hW => ⟨⟨_, u, rfl, ⟨g106_l8, x106_0.1⟩, by rw [ht]; exact hP, hD⟩, hS.F ht⟩) hS.2.2 dX3_bestOf_176
        · have g3436 : Rg 0 10 y106_l10 := rg_ltl g106_l10 g106_l3 (rg_nle c3433) (by decide)
          refine lv_iload hx hb dX3_bestOf_112 (lv_at hl 8 rfl) ?_
          refine lv_if_eq (tgt := 164) hx hb dX3_bestOf_114 (by decide) (fun c3437 => ?_) (fun c3437 => ?_)
          · have g3438 : Rg 0 0 y106_l9 := wk_eql g106_l9 (by decide : Rg 0 0 (0 : Int32)) c3437 (by decide)
            refine lv_aload_n hx hb dX3_bestOf_164 rfl (lv_at hl 0 rfl) ?_
            refine va_get (D := D) (ci := 3) (v := .ref (a 9)) (C := RX3) (T := TX3) (N := 4) hx hb hts hin3 hown hK hP 7 rfl rfl 1 (by decide) (hts (.fieldLink RX3 14 "MissedPoints$Pairs" "mosts" "LMissedPoints$Memo;") (by decide +kernel)) (fun _ h9 => h9) rfl dX3_bestOf_165 ?_
            refine lv_iload_n hx hb dX3_bestOf_168 rfl (lv_at hl 1 rfl) ?_
            refine lv_iload hx hb dX3_bestOf_169 (lv_at hl 7 rfl) ?_
            refine wk_qv (wX cI cS a na nc N L) u (As := [.int x0, .int y106_l8]) (rest := []) ⟨hx, hb, hml, hown, hts⟩ (k_X1_keep l D cI cS _ a na nc N L u hL hN x0 y106_l8) hKK hP hD hS hA 9 (ci := 1) rfl rfl (cwV 2 hts gX3_bestOf_X1_keep rfl rfl rfl (by decide +kernel) ⟨by show 0 + 1 ≤ (n + 1) + 1; omega, by show 8 + (3 + 11) + 0 ≤ 40 * ((n + 1) + 1); omega⟩) rfl hl.1 rfl (Nat.le_of_ble_eq_true rfl) dX3_bestOf_171 ⟨Nat.le_of_ble_eq_true rfl, Nat.le_of_ble_eq_true rfl⟩ (fun u H locs hr3439 hP hD hS => ?_)
            refine lv_iload hx hb dX3_bestOf_174 (lv_at hl 7 rfl) ?_
            subst hAe
            exact W.iret (v := y106_l8) hx hb hr (fun t ht hW => ⟨⟨_, u, rfl, ⟨g106_l8, x106_0.1⟩, by rw [ht]; exact hP, hD⟩, hS.F ht⟩) hS.2.2 dX3_bestOf_176
          · have g3440 : Rg 1 1 y106_l9 := rg_ne_lo (k := 0) g106_l9 (by decide) c3437 (by decide)
            refine lv_iload hx hb dX3_bestOf_117 (lv_at hl 7 rfl) ?_
            refine lv_iload hx hb dX3_bestOf_119 (lv_at hl 6 rfl) ?_
            refine lv_icmp_ne (tgt := 164) hx hb dX3_bestOf_121 (by decide) (fun c3441 => ?_) (fun c3441 => ?_)
            · refine lv_aload_n hx hb dX3_bestOf_164 rfl (lv_at hl 0 rfl) ?_
              refine va_get (D := D) (ci := 3) (v := .ref (a 9)) (C := RX3) (T := TX3) (N := 4) hx hb hts hin3 hown hK hP 7 rfl rfl 1 (by decide) (hts (.fieldLink RX3 14 "MissedPoints$Pairs" "mosts" "LMissedPoints$Memo;") (by decide +kernel)) (fun _ h9 => h9) rfl dX3_bestOf_165 ?_
              refine lv_iload_n hx hb dX3_bestOf_168 rfl (lv_at hl 1 rfl) ?_
              refine lv_iload hx hb dX3_bestOf_169 (lv_at hl 7 rfl) ?_
              refine wk_qv (wX cI cS a na nc N L) u (As := [.int x0, .int y106_l8]) (rest := []) ⟨hx, hb, hml, hown, hts⟩ (k_X1_keep l D cI cS _ a na nc N L u hL hN x0 y106_l8) hKK hP hD hS hA 9 (ci := 1) rfl rfl (cwV 2 hts gX3_bestOf_X1_keep rfl rfl rfl (by decide +kernel) ⟨by show 0 + 1 ≤ (n + 1) + 1; omega, by show 8 + (3 + 11) + 0 ≤ 40 * ((n + 1) + 1); omega⟩) rfl hl.1 rfl (Nat.le_of_ble_eq_true rfl) dX3_bestOf_171 ⟨Nat.le_of_ble_eq_true rfl, Nat.le_of_ble_eq_true rfl⟩ (fun u H locs hr3442 hP hD hS => ?_)
              refine lv_iload hx hb dX3_bestOf_174 (lv_at hl 7 rfl) ?_
              subst hAe
              exact W.iret (v := y106_l8) hx hb hr (fun t ht hW => ⟨⟨_, u, rfl, ⟨g106_l8, x106_0.1⟩, by rw [ht]; exact hP, hD⟩, hS.F ht⟩) hS.2.2 dX3_bestOf_176
            · have g3443 : Rg 0 65548 y106_l8 := wk_eql g106_l8 g106_l7 c3441 (by decide)
              refine lv_iload hx hb dX3_bestOf_124 (lv_at hl 5 rfl) ?_
              refine lv_iload hx hb dX3_bestOf_126 (lv_at hl 9 rfl) ?_
              refine lv_ishr hx hb dX3_bestOf_128 ?_
              refine wk_topP (P := fun r => r = y106_l6 >>> (y106_l10 &&& 31)) rfl (fun r3444 qr3444 => ?_)
              refine lv_iconst (v := 1) hx hb dX3_bestOf_129 (by decide) ?_
              refine wk_iandr hx hb dX3_bestOf_130 (by decide : Rg 1 1 (1 : Int32)) (by decide) (fun r3445 hr3445 qr3445 => ?_)
              refine lv_if_eq (tgt := 158) hx hb dX3_bestOf_131 (by decide) (fun c3446 => ?_) (fun c3446 => ?_)
              · have g3447 : Rg 0 0 r3445 := wk_eql hr3445 (by decide : Rg 0 0 (0 : Int32)) c3446 (by decide)
                refine wk_iinc (lv' := fun r => [(10, .int r), (0, .ref (a 7)), (1, .int x0), (2, .int x1), (3, .int y106_l3), (5, .int y106_l5), (6, .int y106_l6), (7, .int y106_l7), (8, .int y106_l8), (9, .int y106_l9)]) (e1 := 1) (f := 11) hx hb dX3_bestOf_158 hl (k := 9) rfl (by decide) g3436 (by decide) (fun _ => rfl) (fun r3448 ls hr3448 er3448 hl => ?_)
                refine lv_goto (tgt := 106) hx hb dX3_bestOf_161 (by decide) ?_
                exact ih106 y106_l3 y106_l5 y106_l6 y106_l7 y106_l8 y106_l9 r3448 u _ _ ls g106_l2 g106_l3 g106_l7 (show Rg 0 65549 y106_l8 from rg_w g3443 (by decide) (by decide)) (show Rg 0 1 y106_l9 from rg_w g3440 (by decide) (by decide)) (show Rg 0 11 r3448 from rg_w hr3448 (by decide) (by decide)) (by exact x106_0) hP hD hS (lv_sub (l' := [(0, .ref (a 7)), (1, .int x0), (2, .int x1), (3, .int y106_l3), (5, .int y106_l5), (6, .int y106_l6), (7, .int y106_l7), (8, .int y106_l8), (9, .int y106_l9), (10, .int r3448)]) hl [1, 2, 3, 4, 5, 6, 7, 8, 9, 0] rfl) (me_up hm106 er3448 (by decide))
              · have g3449 : Rg 1 1 r3445 := rg_ne_lo (k := 0) hr3445 (by decide) c3446 (by decide)
                refine lv_aload_n hx hb dX3_bestOf_134 rfl (lv_at hl 0 rfl) ?_
                refine lv_iload hx hb dX3_bestOf_135 (lv_at hl 4 rfl) ?_
                refine lv_iconst (v := 1) hx hb dX3_bestOf_137 (by decide) ?_
                refine lv_iload hx hb dX3_bestOf_138 (lv_at hl 9 rfl) ?_
                refine wk_ishl1 (f := 1024) hx hb dX3_bestOf_140 g3436 (by decide) (fun r3450 hr3450 qr3450 => ?_)
                refine lv_iconst (v := (-1)) hx hb dX3_bestOf_141 (by decide) ?_
                refine lv_ixor hx hb dX3_bestOf_142 ?_
                refine wk_topP (P := fun r => r = r3450 ^^^ ((-1) : Int32)) rfl (fun r3451 qr3451 => ?_)
                refine lv_iand hx hb dX3_bestOf_143 ?_
                refine wk_topP (P := fun r => r = y106_l5 &&& r3451) rfl (fun r3452 qr3452 => ?_)
                refine lv_iload_n hx hb dX3_bestOf_144 rfl (lv_at hl 2 rfl) ?_
                refine lv_iconst (v := 1) hx hb dX3_bestOf_145 (by decide) ?_
                refine wk_iadd (e1 := 1) (f := 13) hx hb dX3_bestOf_146 g106_l2 (by decide : Rg 1 1 (1 : Int32)) (by decide) (fun r3453 hr3453 er3453 qr3453 => ?_)
                refine wk_qi (wX cI cS a na nc N L) u (As := [.int r3452, .int r3453]) (rest := []) ⟨hx, hb, hml, hown, hts⟩ (ih _ u r3452 r3453 ((show Rg 0 13 r3453 from rg_w hr3453 (by decide) (by decide))) (by have z1 := er3453; have z9 : (1 : Int32).toInt = 1 := (by decide); omega)) hKK hP hD hS hA 7 (ci := 3) rfl rfl (cwV 2 hts gX3_bestOf_X3_bestOf rfl rfl rfl (by decide +kernel) ⟨by show n + 1 + 1 ≤ (n + 1) + 1; omega, by show 8 + (11 + 11) + 40 * (n + 1) ≤ 40 * ((n + 1) + 1); omega⟩) rfl hl.1 rfl (Nat.le_of_ble_eq_true rfl) dX3_bestOf_147 ⟨Nat.le_of_ble_eq_true rfl, Nat.le_of_ble_eq_true rfl⟩ (fun r3454 u H locs hr3454 hP hD hS => ?_)
                have g3455 : Rg 0 65548 r3454 := ⟨hr3454.1.1, by have z1 := hr3454.2; have z2 := er3453; have z3 := px1; have z9 : (1 : Int32).toInt = 1 := (by decide); omega⟩
                refine lv_iload hx hb dX3_bestOf_150 (lv_at hl 6 rfl) ?_
                refine lv_icmp_ne (tgt := 158) hx hb dX3_bestOf_152 (by decide) (fun c3456 => ?_) (fun c3456 => ?_)
                · refine wk_iinc (lv' := fun r => [(10, .int r), (0, .ref (a 7)), (1, .int x0), (2, .int x1), (3, .int y106_l3), (5, .int y106_l5), (6, .int y106_l6), (7, .int y106_l7), (8, .int y106_l8), (9, .int y106_l9)]) (e1 := 1) (f := 11) hx hb dX3_bestOf_158 hl (k := 9) rfl (by decide) g3436 (by decide) (fun _ => rfl) (fun r3457 ls hr3457 er3457 hl => ?_)
                  refine lv_goto (tgt := 106) hx hb dX3_bestOf_161 (by decide) ?_
                  exact ih106 y106_l3 y106_l5 y106_l6 y106_l7 y106_l8 y106_l9 r3457 u _ _ ls g106_l2 g106_l3 g106_l7 (show Rg 0 65549 y106_l8 from rg_w g3443 (by decide) (by decide)) (show Rg 0 1 y106_l9 from rg_w g3440 (by decide) (by decide)) (show Rg 0 11 r3457 from rg_w hr3457 (by decide) (by decide)) (by exact x106_0) hP hD hS (lv_sub (l' := [(0, .ref (a 7)), (1, .int x0), (2, .int x1), (3, .int y106_l3), (5, .int y106_l5), (6, .int y106_l6), (7, .int y106_l7), (8, .int y106_l8), (9, .int y106_l9), (10, .int r3457)]) hl [1, 2, 3, 4, 5, 6, 7, 8, 9, 0] rfl) (me_up hm106 er3457 (by decide))
                · refine wk_iinc (lv' := fun r => [(8, .int r), (0, .ref (a 7)), (1, .int x0), (2, .int x1), (3, .int y106_l3), (5, .int y106_l5), (6, .int y106_l6), (7, .int y106_l7), (9, .int y106_l9), (10, .int y106_l10)]) (e1 := 1) (f := 65549) hx hb dX3_bestOf_155 hl (k := 7) rfl (by decide) g3443 (by decide) (fun _ => rfl) (fun r3458 ls hr3458 er3458 hl => ?_)
                  refine wk_iinc (lv' := fun r => [(10, .int r), (8, .int r3458), (0, .ref (a 7)), (1, .int x0), (2, .int x1), (3, .int y106_l3), (5, .int y106_l5), (6, .int y106_l6), (7, .int y106_l7), (9, .int y106_l9)]) (e1 := 1) (f := 11) hx hb dX3_bestOf_158 hl (k := 9) rfl (by decide) g3436 (by decide) (fun _ => rfl) (fun r3459 ls hr3459 er3459 hl => ?_)
                  refine lv_goto (tgt := 106) hx hb dX3_bestOf_161 (by decide) ?_
                  exact ih106 y106_l3 y106_l5 y106_l6 y106_l7 r3458 y106_l9 r3459 u _ _ ls g106_l2 g106_l3 g106_l7 (show Rg 0 65549 r3458 from rg_w hr3458 (by decide) (by decide)) (show Rg 0 1 y106_l9 from rg_w g3440 (by decide) (by decide)) (show Rg 0 11 r3459 from rg_w hr3459 (by decide) (by decide)) (by have z1 := x106_0; have z2 := er3458; have z3 := congrArg Int32.toInt c3441; exact ⟨by omega, z1.2⟩) hP hD hS (lv_sub (l' := [(0, .ref (a 7)), (1, .int x0), (2, .int x1), (3, .int y106_l3), (5, .int y106_l5), (6, .int y106_l6), (7, .int y106_l7), (8, .int r3458), (9, .int y106_l9), (10, .int r3459)]) hl [2, 3, 4, 5, 6, 7, 8, 1, 9, 0] rfl) (me_up hm106 er3459 (by decide))
    refine lv_bipush (v := 31) hx hb dX3_bestOf_0 (by decide) ?_
    refine lv_iload_n hx hb dX3_bestOf_2 rfl (lv_at hl 1 rfl) ?_
    refine lz_ss (As := [.int x0]) (rest := [.int 31]) ⟨hx, hb, hml, hown, hts⟩ (k_J6_numberOfLeadingZeros_0f7a4 l D cI cS x0) hKK (hP.sub (ws' := []) [] rfl) (va_cwS 1 hts gX3_bestOf_J6_numberOfLeadingZeros_0f7a4 rfl rfl rfl (by decide +kernel) ⟨by show 0 + 1 ≤ (n + 1) + 1; omega, by show 8 + (2 + 11) + 0 ≤ 40 * ((n + 1) + 1); omega⟩) rfl hl.1 rfl (Nat.le_of_ble_eq_true rfl) dX3_bestOf_3 ⟨Nat.le_of_ble_eq_true rfl, Nat.le_of_ble_eq_true rfl⟩ (fun r3460 hr3460 => ?_)
    refine wk_isub (e1 := (-1)) (f := 31) hx hb dX3_bestOf_6 (by decide : Rg 31 31 (31 : Int32)) hr3460.1 (by decide) (fun r3461 hr3461 er3461 qr3461 => ?_)
    refine lv_istore_n (lv' := [(3, .int r3461), (0, .ref (a 7)), (1, .int x0), (2, .int x1)]) hx hb dX3_bestOf_7 rfl hl (by decide) rfl (fun ls hl => ?_)
    refine lv_iload_n hx hb dX3_bestOf_8 rfl (lv_at hl 0 rfl) ?_
    refine lv_iconst (v := 1) hx hb dX3_bestOf_9 (by decide) ?_
    refine lv_icmp_lt (tgt := 25) hx hb dX3_bestOf_10 (by decide) (fun c3462 => ?_) (fun c3462 => ?_)
    · have g3463 : Rg (-1) 0 r3461 := rg_ltl hr3461 (by decide : Rg 1 1 (1 : Int32)) c3462 (by decide)
      refine lv_iconst (v := 0) hx hb dX3_bestOf_25 (by decide) ?_
      subst hAe
      exact W.iret (v := 0) hx hb hr (fun t ht hW => ⟨⟨_, u, rfl, ⟨(by decide : Rg 0 65549 (0 : Int32)), (by have z1 := px1; have z2 : (0 : Int32).toInt = 0 := (by decide); omega)⟩, by rw [ht]; exact hP, hD⟩, hS.F ht⟩) hS.2.2 dX3_bestOf_26
    · have g3464 : Rg 1 31 r3461 := rg_ler (by decide : Rg 1 1 (1 : Int32)) hr3461 (rg_nlt c3462) (by decide)
      refine lv_iload_n hx hb dX3_bestOf_13 rfl (lv_at hl 0 rfl) ?_
      refine lv_bipush (v := 12) hx hb dX3_bestOf_14 (by decide) ?_
      refine lv_icmp_ge (tgt := 25) hx hb dX3_bestOf_16 (by decide) (fun c3465 => ?_) (fun c3465 => ?_)
      · have g3466 : Rg 12 31 r3461 := rg_ler (by decide : Rg 12 12 (12 : Int32)) g3464 c3465 (by decide)
        refine lv_iconst (v := 0) hx hb dX3_bestOf_25 (by decide) ?_
        subst hAe
        exact W.iret (v := 0) hx hb hr (fun t ht hW => ⟨⟨_, u, rfl, ⟨(by decide : Rg 0 65549 (0 : Int32)), (by have z1 := px1; have z2 : (0 : Int32).toInt = 0 := (by decide); omega)⟩, by rw [ht]; exact hP, hD⟩, hS.F ht⟩) hS.2.2 dX3_bestOf_26
      · have g3467 : Rg 1 11 r3461 := rg_ltl g3464 (by decide : Rg 12 12 (12 : Int32)) (rg_nle c3465) (by decide)
        refine lv_iload_n hx hb dX3_bestOf_19 rfl (lv_at hl 3 rfl) ?_
        refine lv_bipush (v := 12) hx hb dX3_bestOf_20 (by decide) ?_
        refine lv_icmp_le (tgt := 27) hx hb dX3_bestOf_22 (by decide) (fun c3468 => ?_) (fun c3468 => ?_)
        · have g3469 : Rg 0 12 x1 := rg_lel px1 (by decide : Rg 12 12 (12 : Int32)) c3468 (by decide)
          refine lv_aload_n hx hb dX3_bestOf_27 rfl (lv_at hl 1 rfl) ?_
          refine va_get (D := D) (ci := 3) (v := .ref (a 9)) (C := RX3) (T := TX3) (N := 4) hx hb hts hin3 hown hK hP 7 rfl rfl 1 (by decide) (hts (.fieldLink RX3 14 "MissedPoints$Pairs" "mosts" "LMissedPoints$Memo;") (by decide +kernel)) (fun _ h9 => h9) rfl dX3_bestOf_28 ?_
          refine lv_iload_n hx hb dX3_bestOf_31 rfl (lv_at hl 2 rfl) ?_
          refine wk_sv 9 (As := [.int x0]) (rest := []) ⟨hx, hb, hml, hown, hts⟩ (k_X1_recall l D cI cS a na nc N L u hL hN x0) hKK hP (ci := 1) rfl rfl (cwV 1 hts gX3_bestOf_X1_recall rfl rfl rfl (by decide +kernel) ⟨by show 0 + 1 ≤ (n + 1) + 1; omega, by show 8 + (2 + 11) + 0 ≤ 40 * ((n + 1) + 1); omega⟩) rfl hl.1 rfl (Nat.le_of_ble_eq_true rfl) dX3_bestOf_32 ⟨Nat.le_of_ble_eq_true rfl, Nat.le_of_ble_eq_true rfl⟩ (fun r3470 hr3470 => ?_)
          refine lv_istore (lv' := [(4, .int r3470), (3, .int r3461), (0, .ref (a 7)), (1, .int x0), (2, .int x1)]) hx hb dX3_bestOf_35 hl (by decide) rfl (fun ls hl => ?_)
          refine lv_iload hx hb dX3_bestOf_37 (lv_at hl 0 rfl) ?_
          refine lv_if_lt (tgt := 45) hx hb dX3_bestOf_39 (by decide) (fun c3471 => ?_) (fun c3471 => ?_)
          · have g3472 : Rg (-1) (-1) r3470 := rg_ltl hr3470.1 (by decide : Rg 0 0 (0 : Int32)) c3471 (by decide)
            refine lv_iload_n hx hb dX3_bestOf_45 rfl (lv_at hl 3 rfl) ?_
            refine lv_iconst (v := 1) hx hb dX3_bestOf_46 (by decide) ?_
            refine lv_iload_n hx hb dX3_bestOf_47 rfl (lv_at hl 1 rfl) ?_
            refine wk_ishl1 (f := 2048) hx hb dX3_bestOf_48 (show Rg 0 11 r3461 from rg_w g3467 (by decide) (by decide)) (by decide) (fun r3473 hr3473 qr3473 => ?_)
            refine lv_iconst (v := (-1)) hx hb dX3_bestOf_49 (by decide) ?_
            refine lv_ixor hx hb dX3_bestOf_50 ?_
            refine wk_topP (P := fun r => r = r3473 ^^^ ((-1) : Int32)) rfl (fun r3474 qr3474 => ?_)
            refine lv_iand hx hb dX3_bestOf_51 ?_
            refine wk_topP (P := fun r => r = x0 &&& r3474) rfl (fun r3475 qr3475 => ?_)
            refine lv_istore (lv' := [(5, .int r3475), (4, .int r3470), (3, .int r3461), (0, .ref (a 7)), (1, .int x0), (2, .int x1)]) hx hb dX3_bestOf_52 hl (by decide) rfl (fun ls hl => ?_)
            refine lv_aload_n hx hb dX3_bestOf_54 rfl (lv_at hl 3 rfl) ?_
            refine va_get (D := D) (ci := 3) (v := .ref (a 1)) (C := RX3) (T := TX3) (N := 4) hx hb hts hin3 hown hK hP 7 rfl rfl 0 (by decide) (hts (.fieldLink RX3 23 "MissedPoints$Pairs" "net" "LMissedPoints$Net;") (by decide +kernel)) (fun _ h9 => h9) rfl dX3_bestOf_55 ?_
            refine va_getN (D := D) (ci := 2) (v := .ref (a 2)) (C := RX2) (T := TX2) (N := 3) hx hb hts hin2 hown hK hP 1 rfl rfl 0 (by decide) (va_Nw.use rfl hKK.2.2.2.2.2.2.2.2.2.2.2.2.1) (fun _ h9 => h9) rfl dX3_bestOf_58 ?_
            refine lv_iload_n hx hb dX3_bestOf_61 rfl (lv_at hl 2 rfl) ?_
            refine wk_aldA hx hb hK hP 2 0 rfl rfl (rg_in g3467 (by decide) (by decide)) dX3_bestOf_62 (fun r3476 => ?_)
            refine lv_iload hx hb dX3_bestOf_63 (lv_at hl 0 rfl) ?_
            refine lv_iand hx hb dX3_bestOf_65 ?_
            refine wk_topP (P := fun r => r = r3476 &&& r3475) rfl (fun r3477 qr3477 => ?_)
            refine lv_istore (lv' := [(6, .int r3477), (5, .int r3475), (4, .int r3470), (3, .int r3461), (0, .ref (a 7)), (1, .int x0), (2, .int x1)]) hx hb dX3_bestOf_66 hl (by decide) rfl (fun ls hl => ?_)
            refine lv_aload_n hx hb dX3_bestOf_68 rfl (lv_at hl 4 rfl) ?_
            refine lv_iload hx hb dX3_bestOf_69 (lv_at hl 1 rfl) ?_
            refine lv_iload_n hx hb dX3_bestOf_71 rfl (lv_at hl 6 rfl) ?_
            refine lv_iconst (v := 1) hx hb dX3_bestOf_72 (by decide) ?_
            refine wk_iadd (e1 := 1) (f := 13) hx hb dX3_bestOf_73 g3469 (by decide : Rg 1 1 (1 : Int32)) (by decide) (fun r3478 hr3478 er3478 qr3478 => ?_)
            refine wk_qi (wX cI cS a na nc N L) u (As := [.int r3475, .int r3478]) (rest := []) ⟨hx, hb, hml, hown, hts⟩ (ih _ u r3475 r3478 ((show Rg 0 13 r3478 from rg_w hr3478 (by decide) (by decide))) (by have z1 := er3478; have z9 : (1 : Int32).toInt = 1 := (by decide); omega)) hKK hP hD hS hA 7 (ci := 3) rfl rfl (cwV 2 hts gX3_bestOf_X3_bestOf rfl rfl rfl (by decide +kernel) ⟨by show n + 1 + 1 ≤ (n + 1) + 1; omega, by show 8 + (11 + 11) + 40 * (n + 1) ≤ 40 * ((n + 1) + 1); omega⟩) rfl hl.1 rfl (Nat.le_of_ble_eq_true rfl) dX3_bestOf_74 ⟨Nat.le_of_ble_eq_true rfl, Nat.le_of_ble_eq_true rfl⟩ (fun r3479 u H locs hr3479 hP hD hS => ?_)
            have g3480 : Rg 0 65548 r3479 := ⟨hr3479.1.1, by have z1 := hr3479.2; have z2 := er3478; have z3 := px1; have z9 : (1 : Int32).toInt = 1 := (by decide); omega⟩
            refine lv_istore (lv' := [(7, .int r3479), (6, .int r3477), (5, .int r3475), (4, .int r3470), (3, .int r3461), (0, .ref (a 7)), (1, .int x0), (2, .int x1)]) hx hb dX3_bestOf_77 hl (by decide) rfl (fun ls hl => ?_)
            refine lv_iload hx hb dX3_bestOf_79 (lv_at hl 0 rfl) ?_
            refine lv_istore (lv' := [(8, .int r3479), (7, .int r3479), (6, .int r3477), (5, .int r3475), (4, .int r3470), (3, .int r3461), (0, .ref (a 7)), (1, .int x0), (2, .int x1)]) hx hb dX3_bestOf_81 hl (by decide) rfl (fun ls hl => ?_)
            refine lv_iconst (v := 2) hx hb dX3_bestOf_83 (by decide) ?_
            refine lv_iload hx hb dX3_bestOf_84 (lv_at hl 1 rfl) ?_
            refine wk_imul (f := 131096) hx hb dX3_bestOf_86 (by decide : Rg 0 2 (2 : Int32)) g3480 (by decide) (fun r3481 hr3481 er3481 qr3481 => ?_)
            refine lv_iconst (v := 2) hx hb dX3_bestOf_87 (by decide) ?_
            refine wk_iadd (e1 := 2) (f := 131098) hx hb dX3_bestOf_88 hr3481 (by decide : Rg 2 2 (2 : Int32)) (by decide) (fun r3482 hr3482 er3482 qr3482 => ?_)
            refine lv_iload_n hx hb dX3_bestOf_89 rfl (lv_at hl 7 rfl) ?_
            refine lz_ss (As := [.int x0]) (rest := [.int r3482]) ⟨hx, hb, hml, hown, hts⟩ (k_J6_bitCount_0f7a4 l D cI cS x0) hKK (hP.sub (ws' := []) [] rfl) (va_cwS 1 hts gX3_bestOf_J6_bitCount_0f7a4 rfl rfl rfl (by decide +kernel) ⟨by show 0 + 1 ≤ (n + 1) + 1; omega, by show 8 + (1 + 11) + 0 ≤ 40 * ((n + 1) + 1); omega⟩) rfl hl.1 rfl (Nat.le_of_ble_eq_true rfl) dX3_bestOf_90 ⟨Nat.le_of_ble_eq_true rfl, Nat.le_of_ble_eq_true rfl⟩ (fun r3483 hr3483 => ?_)
            refine lv_icmp_gt (tgt := 100) hx hb dX3_bestOf_93 (by decide) (fun c3484 => ?_) (fun c3484 => ?_)
            · have g3485 : Rg (-2147483648) 131097 r3483 := rg_ltl hr3483.1 hr3482 c3484 (by decide)
              refine lv_iconst (v := 0) hx hb dX3_bestOf_100 (by decide) ?_
              refine lv_istore (lv' := [(9, .int 0), (8, .int r3479), (7, .int r3479), (6, .int r3477), (5, .int r3475), (4, .int r3470), (3, .int r3461), (0, .ref (a 7)), (1, .int x0), (2, .int x1)]) hx hb dX3_bestOf_101 hl (by decide) rfl (fun ls hl => ?_)
              refine lv_iconst (v := 0) hx hb dX3_bestOf_103 (by decide) ?_
              refine lv_istore (lv' := [(10, .int 0), (9, .int 0), (8, .int r3479), (7, .int r3479), (6, .int r3477), (5, .int r3475), (4, .int r3470), (3, .int r3461), (0, .ref (a 7)), (1, .int x0), (2, .int x1)]) hx hb dX3_bestOf_104 hl (by decide) rfl (fun ls hl => ?_)
              exact lp106 12 r3461 r3475 r3477 r3479 r3479 (0 : Int32) (0 : Int32) u _ _ ls g3469 g3467 g3480 (show Rg 0 65549 r3479 from rg_w g3480 (by decide) (by decide)) (by decide : Rg 0 1 (0 : Int32)) (by decide : Rg 0 11 (0 : Int32)) (by have z1 := hr3479.2; have z2 := er3478; have z9 : (1 : Int32).toInt = 1 := (by decide); exact ⟨by omega, by omega⟩) hP hD hS (lv_sub (l' := [(0, .ref (a 7)), (1, .int x0), (2, .int x1), (3, .int r3461), (5, .int r3475), (6, .int r3477), (7, .int r3479), (8, .int r3479), (9, .int 0), (10, .int 0)]) hl [8, 9, 10, 7, 5, 4, 3, 2, 1, 0] rfl) (me_i (by decide : Rg 0 11 (0 : Int32)) (by decide))
            · have g3486 : Rg 2 2147483647 r3483 := rg_ler hr3482 hr3483.1 (rg_nlt c3484) (by decide)
              refine lv_iconst (v := 1) hx hb dX3_bestOf_96 (by decide) ?_
              refine lv_goto (tgt := 101) hx hb dX3_bestOf_97 (by decide) ?_
              refine lv_istore (lv' := [(9, .int 1), (8, .int r3479), (7, .int r3479), (6, .int r3477), (5, .int r3475), (4, .int r3470), (3, .int r3461), (0, .ref (a 7)), (1, .int x0), (2, .int x1)]) hx hb dX3_bestOf_101 hl (by decide) rfl (fun ls hl => ?_)
              refine lv_iconst (v := 0) hx hb dX3_bestOf_103 (by decide) ?_
              refine lv_istore (lv' := [(10, .int 0), (9, .int 1), (8, .int r3479), (7, .int r3479), (6, .int r3477), (5, .int r3475), (4, .int r3470), (3, .int r3461), (0, .ref (a 7)), (1, .int x0), (2, .int x1)]) hx hb dX3_bestOf_104 hl (by decide) rfl (fun ls hl => ?_)
              exact lp106 12 r3461 r3475 r3477 r3479 r3479 (1 : Int32) (0 : Int32) u _ _ ls g3469 g3467 g3480 (show Rg 0 65549 r3479 from rg_w g3480 (by decide) (by decide)) (by decide : Rg 0 1 (1 : Int32)) (by decide : Rg 0 11 (0 : Int32)) (by have z1 := hr3479.2; have z2 := er3478; have z9 : (1 : Int32).toInt = 1 := (by decide); exact ⟨by omega, by omega⟩) hP hD hS (lv_sub (l' := [(0, .ref (a 7)), (1, .int x0), (2, .int x1), (3, .int r3461), (5, .int r3475), (6, .int r3477), (7, .int r3479), (8, .int r3479), (9, .int 1), (10, .int 0)]) hl [8, 9, 10, 7, 5, 4, 3, 2, 1, 0] rfl) (me_i (by decide : Rg 0 11 (0 : Int32)) (by decide))
          · have g3487 : Rg 0 65535 r3470 := rg_ler (by decide : Rg 0 0 (0 : Int32)) hr3470.1 (rg_nlt c3471) (by decide)
            refine lv_iload hx hb dX3_bestOf_42 (lv_at hl 0 rfl) ?_
            subst hAe
            exact W.iret (v := r3470) hx hb hr (fun t ht hW => ⟨⟨_, u, rfl, ⟨(show Rg 0 65549 r3470 from rg_w g3487 (by decide) (by decide)), (by have z1 := px1; have z2 := g3487; omega)⟩, by rw [ht]; exact hP, hD⟩, hS.F ht⟩) hS.2.2 dX3_bestOf_44
        · have g3488 : Rg 13 13 x1 := rg_ltr (by decide : Rg 12 12 (12 : Int32)) px1 (rg_nle c3468) (by decide)
          refine lv_iconst (v := 0) hx hb dX3_bestOf_25 (by decide) ?_
          subst hAe
          exact W.iret (v := 0) hx hb hr (fun t ht hW => ⟨⟨_, u, rfl, ⟨(by decide : Rg 0 65549 (0 : Int32)), (by have z1 := px1; have z2 : (0 : Int32).toInt = 0 := (by decide); omega)⟩, by rw [ht]; exact hP, hD⟩, hS.F ht⟩) hS.2.2 dX3_bestOf_26
theorem k_X3_bestOf (l : Launch) (D : va_G) (cI cS : ClassId) (sz : Nat) (a : Nat → Nat) (na nc N : Nat) (L u0 : SU) (hL : TyX L) (hN : N = 0 ∨ N = 24576) (x0 x1 : Int32) (px1 : Rg 0 0 x1) : Met l yX3_bestOf wsX3_bestOf ({ frames := 13 + 1, cells := 0, slots := 0, locals := 40 * (13 + 1) }) (PQ D cI cS (wX cI cS a na nc N L u0) sz [.ref (a 7), .int x0, .int x1]) (QF (S := SU) D (wX cI cS a na nc N L u0) (wX cI cS a na nc N L) sz (fun r _ => Rg 0 65549 r ∧ r.toInt ≤ 65549 - x1.toInt)) 0 0 (va_A (wX cI cS a na nc N L u0) sz) := k_X3_bestOf_r l D cI cS a na nc N L hL hN 13 sz u0 x0 x1 (rg_w px1 (by decide) (by decide)) (by have z1 := px1; omega)
