set_option maxRecDepth 20000 in
theorem ggX12_grow_X12_wayLaid : GoodIn wsX12_grow wsX12_wayLaid := goodIn_r _ [29, 3, 2, 12, 30, 31, 32, 7, 33, 11, 23, 24, 25, 34, 35, 36, 37, 38, 39, 40, 41, 42, 43, 44, 45, 46, 47, 48, 49, 50, 51, 52, 53, 54, 55, 56, 57] rfl (by decide +kernel)
set_option maxRecDepth 20000 in
theorem gX12_grow_X12_wayLaid : GoodIn wsX12_grow (wsV RX12 166 RX12 yX12_wayLaid wsX12_wayLaid) := goodIn_app (goodIn_of _ (by decide +kernel)) ggX12_grow_X12_wayLaid
theorem dX12_grow_102 : decode cX12_grow 102 = .ok (.if_icmp .ge 35, 3) := by decide +kernel
theorem dX12_grow_105 : decode cX12_grow 105 = .ok (.iload 4, 2) := by decide +kernel
theorem dX12_grow_107 : decode cX12_grow 107 = .ok (.aload_n 0, 1) := by decide +kernel
theorem dX12_grow_108 : decode cX12_grow 108 = .ok (.getfield 44, 3) := by decide +kernel
theorem dX12_grow_111 : decode cX12_grow 111 = .ok (.bipush 40, 2) := by decide +kernel
theorem dX12_grow_113 : decode cX12_grow 113 = .ok (.iload_n 1, 1) := by decide +kernel
theorem dX12_grow_114 : decode cX12_grow 114 = .ok (.imul, 1) := by decide +kernel
theorem dX12_grow_115 : decode cX12_grow 115 = .ok (.iload 5, 2) := by decide +kernel
theorem dX12_grow_117 : decode cX12_grow 117 = .ok (.iadd, 1) := by decide +kernel
theorem dX12_grow_118 : decode cX12_grow 118 = .ok (.iaload, 1) := by decide +kernel
theorem dX12_grow_119 : decode cX12_grow 119 = .ok (.iconst (-1), 1) := by decide +kernel
theorem dX12_grow_12 : decode cX12_grow 12 = .ok (.aload_n 0, 1) := by decide +kernel
theorem dX12_grow_120 : decode cX12_grow 120 = .ok (.if_icmp .ne 7, 3) := by decide +kernel
theorem dX12_grow_123 : decode cX12_grow 123 = .ok (.iconst 0, 1) := by decide +kernel
theorem dX12_grow_124 : decode cX12_grow 124 = .ok (.goto 4, 3) := by decide +kernel
theorem dX12_grow_127 : decode cX12_grow 127 = .ok (.iconst 1, 1) := by decide +kernel
theorem dX12_grow_128 : decode cX12_grow 128 = .ok (.iadd, 1) := by decide +kernel
theorem dX12_grow_129 : decode cX12_grow 129 = .ok (.istore 4, 2) := by decide +kernel
theorem dX12_grow_13 : decode cX12_grow 13 = .ok (.invokevirtual 166, 3) := by decide +kernel
theorem dX12_grow_131 : decode cX12_grow 131 = .ok (.iinc 5 1, 3) := by decide +kernel
theorem dX12_grow_134 : decode cX12_grow 134 = .ok (.goto (-38), 3) := by decide +kernel
theorem dX12_grow_137 : decode cX12_grow 137 = .ok (.iload 4, 2) := by decide +kernel
theorem dX12_grow_139 : decode cX12_grow 139 = .ok (.iconst 2, 1) := by decide +kernel
theorem dX12_grow_140 : decode cX12_grow 140 = .ok (.idiv, 1) := by decide +kernel
theorem dX12_grow_141 : decode cX12_grow 141 = .ok (.ireturn, 1) := by decide +kernel
theorem dX12_grow_16 : decode cX12_grow 16 = .ok (.istore_n 3, 1) := by decide +kernel
theorem dX12_grow_17 : decode cX12_grow 17 = .ok (.iload_n 3, 1) := by decide +kernel
theorem dX12_grow_18 : decode cX12_grow 18 = .ok (.ifCond .ne 5, 3) := by decide +kernel
theorem dX12_grow_21 : decode cX12_grow 21 = .ok (.iconst (-1), 1) := by decide +kernel
theorem dX12_grow_22 : decode cX12_grow 22 = .ok (.ireturn, 1) := by decide +kernel
theorem dX12_grow_23 : decode cX12_grow 23 = .ok (.iconst 0, 1) := by decide +kernel
theorem dX12_grow_24 : decode cX12_grow 24 = .ok (.istore 4, 2) := by decide +kernel
theorem dX12_grow_26 : decode cX12_grow 26 = .ok (.iload 4, 2) := by decide +kernel
theorem dX12_grow_28 : decode cX12_grow 28 = .ok (.iload_n 3, 1) := by decide +kernel
theorem dX12_grow_29 : decode cX12_grow 29 = .ok (.if_icmp .ge 61, 3) := by decide +kernel
theorem dX12_grow_32 : decode cX12_grow 32 = .ok (.aload_n 0, 1) := by decide +kernel
theorem dX12_grow_33 : decode cX12_grow 33 = .ok (.getfield 44, 3) := by decide +kernel
theorem dX12_grow_36 : decode cX12_grow 36 = .ok (.bipush 40, 2) := by decide +kernel
theorem dX12_grow_38 : decode cX12_grow 38 = .ok (.iload_n 1, 1) := by decide +kernel
theorem dX12_grow_39 : decode cX12_grow 39 = .ok (.imul, 1) := by decide +kernel
theorem dX12_grow_40 : decode cX12_grow 40 = .ok (.aload_n 0, 1) := by decide +kernel
theorem dX12_grow_41 : decode cX12_grow 41 = .ok (.getfield 29, 3) := by decide +kernel
theorem dX12_grow_44 : decode cX12_grow 44 = .ok (.iload 4, 2) := by decide +kernel
theorem dX12_grow_46 : decode cX12_grow 46 = .ok (.iaload, 1) := by decide +kernel
theorem dX12_grow_47 : decode cX12_grow 47 = .ok (.iadd, 1) := by decide +kernel
theorem dX12_grow_48 : decode cX12_grow 48 = .ok (.aload_n 0, 1) := by decide +kernel
theorem dX12_grow_49 : decode cX12_grow 49 = .ok (.getfield 29, 3) := by decide +kernel
theorem dX12_grow_52 : decode cX12_grow 52 = .ok (.iload 4, 2) := by decide +kernel
theorem dX12_grow_54 : decode cX12_grow 54 = .ok (.iconst 1, 1) := by decide +kernel
theorem dX12_grow_55 : decode cX12_grow 55 = .ok (.iadd, 1) := by decide +kernel
theorem dX12_grow_56 : decode cX12_grow 56 = .ok (.iaload, 1) := by decide +kernel
theorem dX12_grow_57 : decode cX12_grow 57 = .ok (.iastore, 1) := by decide +kernel
theorem dX12_grow_58 : decode cX12_grow 58 = .ok (.aload_n 0, 1) := by decide +kernel
theorem dX12_grow_59 : decode cX12_grow 59 = .ok (.getfield 44, 3) := by decide +kernel
theorem dX12_grow_62 : decode cX12_grow 62 = .ok (.bipush 40, 2) := by decide +kernel
theorem dX12_grow_64 : decode cX12_grow 64 = .ok (.iload_n 1, 1) := by decide +kernel
theorem dX12_grow_65 : decode cX12_grow 65 = .ok (.imul, 1) := by decide +kernel
theorem dX12_grow_66 : decode cX12_grow 66 = .ok (.aload_n 0, 1) := by decide +kernel
theorem dX12_grow_67 : decode cX12_grow 67 = .ok (.getfield 29, 3) := by decide +kernel
theorem dX12_grow_70 : decode cX12_grow 70 = .ok (.iload 4, 2) := by decide +kernel
theorem dX12_grow_72 : decode cX12_grow 72 = .ok (.iconst 1, 1) := by decide +kernel
theorem dX12_grow_73 : decode cX12_grow 73 = .ok (.iadd, 1) := by decide +kernel
theorem dX12_grow_74 : decode cX12_grow 74 = .ok (.iaload, 1) := by decide +kernel
theorem dX12_grow_75 : decode cX12_grow 75 = .ok (.iadd, 1) := by decide +kernel
theorem dX12_grow_76 : decode cX12_grow 76 = .ok (.aload_n 0, 1) := by decide +kernel
theorem dX12_grow_77 : decode cX12_grow 77 = .ok (.getfield 29, 3) := by decide +kernel
theorem dX12_grow_80 : decode cX12_grow 80 = .ok (.iload 4, 2) := by decide +kernel
theorem dX12_grow_82 : decode cX12_grow 82 = .ok (.iaload, 1) := by decide +kernel
theorem dX12_grow_83 : decode cX12_grow 83 = .ok (.iastore, 1) := by decide +kernel
theorem dX12_grow_84 : decode cX12_grow 84 = .ok (.iinc 4 2, 3) := by decide +kernel
theorem dX12_grow_87 : decode cX12_grow 87 = .ok (.goto (-61), 3) := by decide +kernel
theorem dX12_grow_90 : decode cX12_grow 90 = .ok (.iconst 0, 1) := by decide +kernel
theorem dX12_grow_91 : decode cX12_grow 91 = .ok (.istore 4, 2) := by decide +kernel
theorem dX12_grow_93 : decode cX12_grow 93 = .ok (.iconst 0, 1) := by decide +kernel
theorem dX12_grow_94 : decode cX12_grow 94 = .ok (.istore 5, 2) := by decide +kernel
theorem dX12_grow_96 : decode cX12_grow 96 = .ok (.iload 5, 2) := by decide +kernel
theorem dX12_grow_98 : decode cX12_grow 98 = .ok (.aload_n 0, 1) := by decide +kernel
theorem dX12_grow_99 : decode cX12_grow 99 = .ok (.getfield 63, 3) := by decide +kernel
set_option maxHeartbeats 4000000 in
set_option maxRecDepth 100000 in
theorem w_X12_grow (l : Launch) (D : va_G) (cI cS : ClassId) (sz : Nat) (b : Nat → Nat) (L v0 : SU) (hL : TyL L) (hV : TyV v0) (x0 : Int32) : Met l yX12_grow wsX12_grow ({ frames := 9, cells := 0, slots := 0, locals := 360 }) (PQ D cI cS (wM cI b L v0) sz [.ref (b 0), .int x0]) (QF (S := SU) D (wM cI b L v0) (wM cI b L) sz (fun r u => TyV u ∧ Rg (-2147483648) 2147483647 r ∧ True)) 0 0 (va_A (wM cI b L v0) sz) := by
  refine Met.ofW (cc := cX12_grow) (maxL := 6) (ret := (some .int)) (by decide) rfl ?_
  intro p e s m args below meth c s₁ B hml hv
  obtain ⟨rfl, hsz, hP, hKK, hD0⟩ := hv
  have hx := B.exec
  have hb := B.bytes
  have hr := B.returns
  have hts := atoms_spec (ws := wsX12_grow) B.pre
  have hown : s.vm.findClass RX12 = some m.cls := findClass_of_methodNamed B.named
  have hlocks := B.notSynchronized
  have hK := hKK.1
  have hin12 : ∀ w ∈ wsX120, w ∈ wsX12_grow := by decide +kernel
  subst hsz
  have hD := hD0.self (sz := s.heap.size)
  obtain ⟨A, hAe⟩ : ∃ A, A = va_A (wM cI b L v0) s.heap.size := ⟨_, rfl⟩
  rw [← hAe] at hD
  have hA : ∀ q : Nat, s.heap.size ≤ q → A q := fun q h => by rw [hAe]; exact Or.inr h
  have hS : va_S A s.heap s.heap [] := va_S.rf
  have hl := lv_entry ([.ref (b 0), .int x0]) (n := 6) (Nat.le_of_ble_eq_true rfl)
  rw [lg_entry_eq]
  generalize (lg_sl ([.ref (b 0), .int x0]) ++ List.replicate (6 - (lg_sl ([.ref (b 0), .int x0])).length) Slot.unset).toArray = ls at hl ⊢
  have hl : lv_has ls 6 [(0, .ref (b 0)), (1, .int x0)] := hl
  obtain ⟨v, hv9⟩ : ∃ v : SU, v = v0 := ⟨_, rfl⟩
  rw [← hv9] at hP hD hV
  have lp96 : ∀ (n96 : Nat) (y96_l4 : Int32) (y96_l5 : Int32) (v : SU) (H : Heap) (locs : List Loc) (ls : Array Slot), Rg 0 3 x0 → Rg 0 12 y96_l5 → TyV v → va_P D cls (wM cI b L v) H → va_D A (wM cI b L v) → va_S A s.heap H locs → lv_has ls 6 [(0, .ref (b 0)), (1, .int x0), (4, .int y96_l4), (5, .int y96_l5)] → 12 - y96_l5.toInt < (n96 : Int) → W p l e (headSpec wsX12_grow ({ frames := 9, cells := 0, slots := 0, locals := 360 })).room s m ([.ref (b 0), .int x0]).toArray below meth c H locs 0 0 (MQ below (QF (S := SU) D (wM cI b L v0) (wM cI b L) s.heap.size (fun r u => TyV u ∧ Rg (-2147483648) 2147483647 r ∧ True)) ([.ref (b 0), .int x0]).toArray s 0 0 (va_A (wM cI b L v0) s.heap.size)) (F0 m 96 ls []) := by
    intro n96
    induction n96 with
    | zero =>
      intro y96_l4 y96_l5 v H locs ls g96_l1 g96_l5 hV hP hD hS hl hm96
      exact absurd rfl (me_z g96_l5 hm96)
    | succ n96 ih96 =>
      intro y96_l4 y96_l5 v H locs ls g96_l1 g96_l5 hV hP hD hS hl hm96
      refine lv_iload hx hb dX12_grow_96 (lv_at hl 3 rfl) ?_
      refine lv_aload_n hx hb dX12_grow_98 rfl (lv_at hl 0 rfl) ?_
      refine va_get (D := D) (ci := 12) (v := .int (L 0 0)) (C := RX12) (T := TX12) (N := 24) hx hb hts hin12 hown hK hP 0 rfl rfl 0 (by decide) (hts (.fieldLink RX12 63 "MissedPointsModel" "many" "I") (by decide +kernel)) (fun _ h9 => h9) rfl dX12_grow_99 ?_
      refine lv_icmp_ge (tgt := 137) hx hb dX12_grow_102 (by decide) (fun c27087 => ?_) (fun c27087 => ?_)
      · refine lv_iload hx hb dX12_grow_137 (lv_at hl 2 rfl) ?_
        refine lv_iconst (v := 2) hx hb dX12_grow_139 (by decide) ?_
        refine lv_idiv hx hb dX12_grow_140 (by decide) ?_
        refine wk_any (fun r27088 => ?_)
        subst hAe
        exact W.iret (v := r27088) hx hb hr (fun t ht hW => ⟨⟨_, v, rfl, ⟨hV, (rg_any r27088), trivial⟩, by rw [ht]; exact hP, hD⟩, hS.F ht⟩) hS.2.2 dX12_grow_141
      · have g27089 : Rg 1 12 (L 0 0) := rg_ltr g96_l5 hL.1 (rg_nle c27087) (by decide)
        have g27090 : Rg 0 11 y96_l5 := rg_ltl g96_l5 hL.1 (rg_nle c27087) (by decide)
        refine lv_iload hx hb dX12_grow_105 (lv_at hl 2 rfl) ?_
        refine lv_aload_n hx hb dX12_grow_107 rfl (lv_at hl 0 rfl) ?_
        refine va_get (D := D) (ci := 12) (v := .ref (b 11)) (C := RX12) (T := TX12) (N := 24) hx hb hts hin12 hown hK hP 0 rfl rfl 18 (by decide) (hts (.fieldLink RX12 44 "MissedPointsModel" "items" "[I") (by decide +kernel)) (fun _ h9 => h9) rfl dX12_grow_108 ?_
        refine lv_bipush (v := 40) hx hb dX12_grow_111 (by decide) ?_
        refine lv_iload_n hx hb dX12_grow_113 rfl (lv_at hl 1 rfl) ?_
        refine wk_imul (f := 120) hx hb dX12_grow_114 (by decide : Rg 0 40 (40 : Int32)) g96_l1 (by decide) (fun r27091 hr27091 er27091 qr27091 => ?_)
        refine lv_iload hx hb dX12_grow_115 (lv_at hl 3 rfl) ?_
        refine wk_iadd (e1 := 0) (f := 131) hx hb dX12_grow_117 hr27091 g27090 (by decide) (fun r27092 hr27092 er27092 qr27092 => ?_)
        refine wk_aldA hx hb hK hP 11 0 rfl rfl (rg_in hr27092 (by decide) (by decide)) dX12_grow_118 (fun r27093 => ?_)
        refine lv_iconst (v := (-1)) hx hb dX12_grow_119 (by decide) ?_
        refine lv_icmp_ne (tgt := 127) hx hb dX12_grow_120 (by decide) (fun c27094 => ?_) (fun c27094 => ?_)
        · refine lv_iconst (v := 1) hx hb dX12_grow_127 (by decide) ?_
          refine lv_iadd hx hb dX12_grow_128 ?_
          refine wk_topP (P := fun r => r = y96_l4 + (1 : Int32)) rfl (fun r27095 qr27095 => ?_)
          refine lv_istore (lv' := [(4, .int r27095), (0, .ref (b 0)), (1, .int x0), (5, .int y96_l5)]) hx hb dX12_grow_129 hl (by decide) rfl (fun ls hl => ?_)
          refine wk_iinc (lv' := fun r => [(5, .int r), (4, .int r27095), (0, .ref (b 0)), (1, .int x0)]) (e1 := 1) (f := 12) hx hb dX12_grow_131 hl (k := 3) rfl (by decide) g27090 (by decide) (fun _ => rfl) (fun r27096 ls hr27096 er27096 hl => ?_)
          refine lv_goto (tgt := 96) hx hb dX12_grow_134 (by decide) ?_
          exact ih96 r27095 r27096 v _ _ ls g96_l1 (show Rg 0 12 r27096 from rg_w hr27096 (by decide) (by decide)) hV hP hD hS (lv_sub (l' := [(0, .ref (b 0)), (1, .int x0), (4, .int r27095), (5, .int r27096)]) hl [2, 3, 1, 0] rfl) (me_up hm96 er27096 (by decide))
        · have g27097 : Rg (-1) (-1) r27093 := wk_eql (rg_any r27093) (by decide : Rg (-1) (-1) ((-1) : Int32)) c27094 (by decide)
          refine lv_iconst (v := 0) hx hb dX12_grow_123 (by decide) ?_
          refine lv_goto (tgt := 128) hx hb dX12_grow_124 (by decide) ?_
          refine wk_iadd (e1 := (-2147483648)) (f := 2147483647) hx hb dX12_grow_128 (rg_any y96_l4) (by decide : Rg 0 0 (0 : Int32)) (by decide) (fun r27098 hr27098 er27098 qr27098 => ?_)
          refine lv_istore (lv' := [(4, .int r27098), (0, .ref (b 0)), (1, .int x0), (5, .int y96_l5)]) hx hb dX12_grow_129 hl (by decide) rfl (fun ls hl => ?_)
          refine wk_iinc (lv' := fun r => [(5, .int r), (4, .int r27098), (0, .ref (b 0)), (1, .int x0)]) (e1 := 1) (f := 12) hx hb dX12_grow_131 hl (k := 3) rfl (by decide) g27090 (by decide) (fun _ => rfl) (fun r27099 ls hr27099 er27099 hl => ?_)
          refine lv_goto (tgt := 96) hx hb dX12_grow_134 (by decide) ?_
          exact ih96 r27098 r27099 v _ _ ls g96_l1 (show Rg 0 12 r27099 from rg_w hr27099 (by decide) (by decide)) hV hP hD hS (lv_sub (l' := [(0, .ref (b 0)), (1, .int x0), (4, .int r27098), (5, .int r27099)]) hl [2, 3, 1, 0] rfl) (me_up hm96 er27099 (by decide))
  have lp26 : ∀ (n26 : Nat) (y26_l3 : Int32) (y26_l4 : Int32) (v : SU) (H : Heap) (locs : List Loc) (ls : Array Slot), Rg 0 3 x0 → Rg 1 12 y26_l3 → Rg 0 12 y26_l4 → (y26_l3.toInt % 2 = 0 ∧ y26_l4.toInt % 2 = 0) → TyV v → va_P D cls (wM cI b L v) H → va_D A (wM cI b L v) → va_S A s.heap H locs → lv_has ls 6 [(0, .ref (b 0)), (1, .int x0), (3, .int y26_l3), (4, .int y26_l4)] → 12 - y26_l4.toInt < (n26 : Int) → W p l e (headSpec wsX12_grow ({ frames := 9, cells := 0, slots := 0, locals := 360 })).room s m ([.ref (b 0), .int x0]).toArray below meth c H locs 0 0 (MQ below (QF (S := SU) D (wM cI b L v0) (wM cI b L) s.heap.size (fun r u => TyV u ∧ Rg (-2147483648) 2147483647 r ∧ True)) ([.ref (b 0), .int x0]).toArray s 0 0 (va_A (wM cI b L v0) s.heap.size)) (F0 m 26 ls []) := by
    intro n26
    induction n26 with
    | zero =>
      intro y26_l3 y26_l4 v H locs ls g26_l1 g26_l3 g26_l4 x26_0 hV hP hD hS hl hm26
      exact absurd rfl (me_z g26_l4 hm26)
    | succ n26 ih26 =>
      intro y26_l3 y26_l4 v H locs ls g26_l1 g26_l3 g26_l4 x26_0 hV hP hD hS hl hm26
      refine lv_iload hx hb dX12_grow_26 (lv_at hl 3 rfl) ?_
      refine lv_iload_n hx hb dX12_grow_28 rfl (lv_at hl 2 rfl) ?_
      refine lv_icmp_ge (tgt := 90) hx hb dX12_grow_29 (by decide) (fun c27100 => ?_) (fun c27100 => ?_)
      · have g27101 : Rg 1 12 y26_l4 := rg_ler g26_l3 g26_l4 c27100 (by decide)
        refine lv_iconst (v := 0) hx hb dX12_grow_90 (by decide) ?_
        refine lv_istore (lv' := [(4, .int 0), (0, .ref (b 0)), (1, .int x0), (3, .int y26_l3)]) hx hb dX12_grow_91 hl (by decide) rfl (fun ls hl => ?_)
        refine lv_iconst (v := 0) hx hb dX12_grow_93 (by decide) ?_
        refine lv_istore (lv' := [(5, .int 0), (4, .int 0), (0, .ref (b 0)), (1, .int x0), (3, .int y26_l3)]) hx hb dX12_grow_94 hl (by decide) rfl (fun ls hl => ?_)
        exact lp96 13 (0 : Int32) (0 : Int32) v _ _ ls g26_l1 (by decide : Rg 0 12 (0 : Int32)) hV hP hD hS (lv_sub (l' := [(0, .ref (b 0)), (1, .int x0), (4, .int 0), (5, .int 0)]) hl [2, 3, 1, 0] rfl) (me_i (by decide : Rg 0 12 (0 : Int32)) (by decide))
      · have g27102 : Rg 0 11 y26_l4 := rg_ltl g26_l4 g26_l3 (rg_nle c27100) (by decide)
        have g27103 : Rg 0 10 y26_l4 := by have y90 : y26_l4.toInt < y26_l3.toInt := (lz_lt _ _).mp (rg_nle c27100); have y91 : Rg 0 11 y26_l4 := g27102; have y92 : Rg 0 3 x0 := g26_l1; have y93 : Rg 1 12 y26_l3 := g26_l3; have y94 : Rg 0 11 y26_l4 := g27102; have y95 : Rg 0 11 y26_l4 := g27102; have y9c6 : (0 : Int32).toInt = 0 := (by decide); have y9c7 : (1 : Int32).toInt = 1 := (by decide); exact ⟨by omega, by omega⟩
        refine lv_aload_n hx hb dX12_grow_32 rfl (lv_at hl 0 rfl) ?_
        refine va_get (D := D) (ci := 12) (v := .ref (b 11)) (C := RX12) (T := TX12) (N := 24) hx hb hts hin12 hown hK hP 0 rfl rfl 18 (by decide) (hts (.fieldLink RX12 44 "MissedPointsModel" "items" "[I") (by decide +kernel)) (fun _ h9 => h9) rfl dX12_grow_33 ?_
        refine lv_bipush (v := 40) hx hb dX12_grow_36 (by decide) ?_
        refine lv_iload_n hx hb dX12_grow_38 rfl (lv_at hl 1 rfl) ?_
        refine wk_imul (f := 120) hx hb dX12_grow_39 (by decide : Rg 0 40 (40 : Int32)) g26_l1 (by decide) (fun r27104 hr27104 er27104 qr27104 => ?_)
        refine lv_aload_n hx hb dX12_grow_40 rfl (lv_at hl 0 rfl) ?_
        refine va_get (D := D) (ci := 12) (v := .ref (b 6)) (C := RX12) (T := TX12) (N := 24) hx hb hts hin12 hown hK hP 0 rfl rfl 7 (by decide) (hts (.fieldLink RX12 29 "MissedPointsModel" "way" "[I") (by decide +kernel)) (fun _ h9 => h9) rfl dX12_grow_41 ?_
        refine lv_iload hx hb dX12_grow_44 (lv_at hl 3 rfl) ?_
        refine wk_ald hx hb hK hP 6 0 rfl rfl (rg_in g27103 (by decide) (by decide)) dX12_grow_46 hV.2.2.2.1 (fun r27105 hr27105 => ?_)
        refine wk_iadd (e1 := 0) (f := 131) hx hb dX12_grow_47 hr27104 hr27105 (by decide) (fun r27106 hr27106 er27106 qr27106 => ?_)
        refine lv_aload_n hx hb dX12_grow_48 rfl (lv_at hl 0 rfl) ?_
        refine va_get (D := D) (ci := 12) (v := .ref (b 6)) (C := RX12) (T := TX12) (N := 24) hx hb hts hin12 hown hK hP 0 rfl rfl 7 (by decide) (hts (.fieldLink RX12 29 "MissedPointsModel" "way" "[I") (by decide +kernel)) (fun _ h9 => h9) rfl dX12_grow_49 ?_
        refine lv_iload hx hb dX12_grow_52 (lv_at hl 3 rfl) ?_
        refine lv_iconst (v := 1) hx hb dX12_grow_54 (by decide) ?_
        refine wk_iadd (e1 := 1) (f := 11) hx hb dX12_grow_55 g27103 (by decide : Rg 1 1 (1 : Int32)) (by decide) (fun r27107 hr27107 er27107 qr27107 => ?_)
        refine wk_ald hx hb hK hP 6 0 rfl rfl (rg_in hr27107 (by decide) (by decide)) dX12_grow_56 hV.2.2.2.1 (fun r27108 hr27108 => ?_)
        refine ms_11 hx hb hK hP hD hS hV rfl (rg_in hr27106 (by decide) (by decide)) dX12_grow_57 (fun v H locs hV ev27109 hP hD hS => ?_)
        refine lv_aload_n hx hb dX12_grow_58 rfl (lv_at hl 0 rfl) ?_
        refine va_get (D := D) (ci := 12) (v := .ref (b 11)) (C := RX12) (T := TX12) (N := 24) hx hb hts hin12 hown hK hP 0 rfl rfl 18 (by decide) (hts (.fieldLink RX12 44 "MissedPointsModel" "items" "[I") (by decide +kernel)) (fun _ h9 => h9) rfl dX12_grow_59 ?_
        refine lv_bipush (v := 40) hx hb dX12_grow_62 (by decide) ?_
        refine lv_iload_n hx hb dX12_grow_64 rfl (lv_at hl 1 rfl) ?_
        refine wk_imul (f := 120) hx hb dX12_grow_65 (by decide : Rg 0 40 (40 : Int32)) g26_l1 (by decide) (fun r27110 hr27110 er27110 qr27110 => ?_)
        refine lv_aload_n hx hb dX12_grow_66 rfl (lv_at hl 0 rfl) ?_
        refine va_get (D := D) (ci := 12) (v := .ref (b 6)) (C := RX12) (T := TX12) (N := 24) hx hb hts hin12 hown hK hP 0 rfl rfl 7 (by decide) (hts (.fieldLink RX12 29 "MissedPointsModel" "way" "[I") (by decide +kernel)) (fun _ h9 => h9) rfl dX12_grow_67 ?_
        refine lv_iload hx hb dX12_grow_70 (lv_at hl 3 rfl) ?_
        refine lv_iconst (v := 1) hx hb dX12_grow_72 (by decide) ?_
        refine wk_iadd (e1 := 1) (f := 11) hx hb dX12_grow_73 g27103 (by decide : Rg 1 1 (1 : Int32)) (by decide) (fun r27111 hr27111 er27111 qr27111 => ?_)
        refine wk_ald hx hb hK hP 6 0 rfl rfl (rg_in hr27111 (by decide) (by decide)) dX12_grow_74 hV.2.2.2.1 (fun r27112 hr27112 => ?_)
        refine wk_iadd (e1 := 0) (f := 131) hx hb dX12_grow_75 hr27110 hr27112 (by decide) (fun r27113 hr27113 er27113 qr27113 => ?_)
        refine lv_aload_n hx hb dX12_grow_76 rfl (lv_at hl 0 rfl) ?_
        refine va_get (D := D) (ci := 12) (v := .ref (b 6)) (C := RX12) (T := TX12) (N := 24) hx hb hts hin12 hown hK hP 0 rfl rfl 7 (by decide) (hts (.fieldLink RX12 29 "MissedPointsModel" "way" "[I") (by decide +kernel)) (fun _ h9 => h9) rfl dX12_grow_77 ?_
        refine lv_iload hx hb dX12_grow_80 (lv_at hl 3 rfl) ?_
        refine wk_ald hx hb hK hP 6 0 rfl rfl (rg_in g27103 (by decide) (by decide)) dX12_grow_82 hV.2.2.2.1 (fun r27114 hr27114 => ?_)
        refine ms_11 hx hb hK hP hD hS hV rfl (rg_in hr27113 (by decide) (by decide)) dX12_grow_83 (fun v H locs hV ev27115 hP hD hS => ?_)
        refine wk_iinc (lv' := fun r => [(4, .int r), (0, .ref (b 0)), (1, .int x0), (3, .int y26_l3)]) (e1 := 2) (f := 12) hx hb dX12_grow_84 hl (k := 3) rfl (by decide) g27103 (by decide) (fun _ => rfl) (fun r27116 ls hr27116 er27116 hl => ?_)
        refine lv_goto (tgt := 26) hx hb dX12_grow_87 (by decide) ?_
        exact ih26 y26_l3 r27116 v _ _ ls g26_l1 g26_l3 (show Rg 0 12 r27116 from rg_w hr27116 (by decide) (by decide)) (show (y26_l3.toInt % 2 = 0 ∧ r27116.toInt % 2 = 0) from by have y90 : y26_l4.toInt < y26_l3.toInt := (lz_lt _ _).mp (rg_nle c27100); have y91 : Rg 0 10 y26_l4 := g27103; have y92 : Rg 0 3 x0 := g26_l1; have y93 : Rg 1 12 y26_l3 := g26_l3; have y94 : Rg 2 12 r27116 := hr27116; have y9c5 : (0 : Int32).toInt = 0 := (by decide); have y9c6 : (1 : Int32).toInt = 1 := (by decide); omega) hV hP hD hS (lv_sub (l' := [(0, .ref (b 0)), (1, .int x0), (3, .int y26_l3), (4, .int r27116)]) hl [1, 2, 3, 0] rfl) (me_up hm26 er27116 (by decide))
  refine lv_aload_n hx hb dX12_grow_0 rfl (lv_at hl 0 rfl) ?_
  refine lv_iload_n hx hb dX12_grow_1 rfl (lv_at hl 1 rfl) ?_
  refine wk_qi (wM cI b L) v (As := [.int x0]) (rest := []) ⟨hx, hb, hml, hown, hts⟩ (w_X12_wrongPairing l D cI cS _ b L v hL hV x0) hKK hP hD hS hA 0 (ci := 12) rfl rfl (cwV 1 hts gX12_grow_X12_wrongPairing rfl rfl rfl (by decide +kernel) ⟨Nat.le_of_ble_eq_true rfl, Nat.le_of_ble_eq_true rfl⟩) rfl hl.1 rfl (Nat.le_of_ble_eq_true rfl) dX12_grow_2 ⟨Nat.le_of_ble_eq_true rfl, Nat.le_of_ble_eq_true rfl⟩ (fun r27117 v H locs hr27117 hP hD hS => ?_)
  have hV := hr27117.1
  refine lv_istore_n (lv' := [(2, .int r27117), (0, .ref (b 0)), (1, .int x0)]) hx hb dX12_grow_5 rfl hl (by decide) rfl (fun ls hl => ?_)
  refine lv_iload_n hx hb dX12_grow_6 rfl (lv_at hl 0 rfl) ?_
  refine lv_if_eq (tgt := 12) hx hb dX12_grow_7 (by decide) (fun c27118 => ?_) (fun c27118 => ?_)
  · have g27119 : Rg 0 3 x0 := (hr27117.2.2 c27118)
    have g27120 : Rg 0 0 r27117 := wk_eql hr27117.2.1 (by decide : Rg 0 0 (0 : Int32)) c27118 (by decide)
    refine lv_aload_n hx hb dX12_grow_12 rfl (lv_at hl 1 rfl) ?_
    refine wk_qi (wM cI b L) v (As := []) (rest := []) ⟨hx, hb, hml, hown, hts⟩ (w_X12_wayLaid l D cI cS _ b L v hL hV) hKK hP hD hS hA 0 (ci := 12) rfl rfl (cwV 0 hts gX12_grow_X12_wayLaid rfl rfl rfl (by decide +kernel) ⟨Nat.le_of_ble_eq_true rfl, Nat.le_of_ble_eq_true rfl⟩) rfl hl.1 rfl (Nat.le_of_ble_eq_true rfl) dX12_grow_13 ⟨Nat.le_of_ble_eq_true rfl, Nat.le_of_ble_eq_true rfl⟩ (fun r27121 v H locs hr27121 hP hD hS => ?_)
    have hV := hr27121.1
    have ep27122 : r27121.toInt % 2 = 0 := hr27121.2.2
    refine lv_istore_n (lv' := [(3, .int r27121), (2, .int r27117), (0, .ref (b 0)), (1, .int x0)]) hx hb dX12_grow_16 rfl hl (by decide) rfl (fun ls hl => ?_)
    refine lv_iload_n hx hb dX12_grow_17 rfl (lv_at hl 0 rfl) ?_
    refine lv_if_ne (tgt := 23) hx hb dX12_grow_18 (by decide) (fun c27123 => ?_) (fun c27123 => ?_)
    · have g27124 : Rg 1 12 r27121 := rg_ne_lo (k := 0) hr27121.2.1 (by decide) c27123 (by decide)
      refine lv_iconst (v := 0) hx hb dX12_grow_23 (by decide) ?_
      refine lv_istore (lv' := [(4, .int 0), (3, .int r27121), (2, .int r27117), (0, .ref (b 0)), (1, .int x0)]) hx hb dX12_grow_24 hl (by decide) rfl (fun ls hl => ?_)
      exact lp26 13 r27121 (0 : Int32) v _ _ ls g27119 g27124 (by decide : Rg 0 12 (0 : Int32)) (show (r27121.toInt % 2 = 0 ∧ (0 : Int32).toInt % 2 = 0) from by have y90 : r27117.toInt = (0 : Int32).toInt := congrArg Int32.toInt c27118; have y91 : ¬ r27121.toInt = (0 : Int32).toInt := fun z => c27123 (Int32.toInt_inj.mp z); have y92 : Rg 0 3 x0 := g27119; have y93 : Rg 0 0 r27117 := g27120; have y94 : Rg 1 12 r27121 := g27124; have y95 : Rg 0 3 x0 := g27119; have y96 : Rg 0 0 r27117 := g27120; have y97 : Rg 1 12 r27121 := g27124; have y9c8 : (0 : Int32).toInt = 0 := (by decide); have y9c9 : (1 : Int32).toInt = 1 := (by decide); omega) hV hP hD hS (lv_sub (l' := [(0, .ref (b 0)), (1, .int x0), (3, .int r27121), (4, .int 0)]) hl [3, 4, 1, 0] rfl) (me_i (by decide : Rg 0 12 (0 : Int32)) (by decide))
    · have g27125 : Rg 0 0 r27121 := wk_eql hr27121.2.1 (by decide : Rg 0 0 (0 : Int32)) c27123 (by decide)
      refine lv_iconst (v := (-1)) hx hb dX12_grow_21 (by decide) ?_
      subst hAe
      exact W.iret (v := (-1)) hx hb hr (fun t ht hW => ⟨⟨_, v, rfl, ⟨hV, (by decide : Rg (-2147483648) 2147483647 ((-1) : Int32)), trivial⟩, by rw [ht]; exact hP, hD⟩, hS.F ht⟩) hS.2.2 dX12_grow_22
  · have g27126 : Rg (-11) (-1) r27117 := rg_ne_hi (k := 0) hr27117.2.1 (by decide) c27118 (by decide)
    refine lv_iload_n hx hb dX12_grow_10 rfl (lv_at hl 0 rfl) ?_
    subst hAe
    exact W.iret (v := r27117) hx hb hr (fun t ht hW => ⟨⟨_, v, rfl, ⟨hV, (rg_any r27117), trivial⟩, by rw [ht]; exact hP, hD⟩, hS.F ht⟩) hS.2.2 dX12_grow_11
set_option maxHeartbeats 4000000 in
set_option maxRecDepth 100000 in
theorem w_X12_reckons_W (l : Launch) (D : va_G) (cI cS : ClassId) (sz : Nat) (b : Nat → Nat) (L v0 : SU) (hL : TyL L) (hV : TyV v0) : Met l yX12_reckons wsX12_reckons ({ frames := 2, cells := 0, slots := 0, locals := 80 }) (PQ D cI cS (wM cI b L v0) sz [.ref (b 0)]) (QE (S := SU) D (wM cI b L v0) (wM cI b L) sz (fun u => TyV u ∧ (∀ s : Nat, (s : Int) ≤ (((1 : Int32) <<< (L 0 0 &&& 31)) - 1).toInt → Rg 1 479001600 (u 3 s)))) 0 0 (va_A (wM cI b L v0) sz) := by
  refine Met.ofW (cc := cX12_reckons) (maxL := 5) (ret := none) (by decide) rfl ?_
  intro p e s m args below meth c s₁ B hml hv
  obtain ⟨rfl, hsz, hP, hKK, hD0⟩ := hv
  have hx := B.exec
  have hb := B.bytes
  have hr := B.returns
  have hts := atoms_spec (ws := wsX12_reckons) B.pre
  have hown : s.vm.findClass RX12 = some m.cls := findClass_of_methodNamed B.named
  have hlocks := B.notSynchronized
  have hK := hKK.1
  have hin12 : ∀ w ∈ wsX120, w ∈ wsX12_reckons := by decide +kernel
  subst hsz
  have hD := hD0.self (sz := s.heap.size)
  obtain ⟨A, hAe⟩ : ∃ A, A = va_A (wM cI b L v0) s.heap.size := ⟨_, rfl⟩
  rw [← hAe] at hD
  have hA : ∀ q : Nat, s.heap.size ≤ q → A q := fun q h => by rw [hAe]; exact Or.inr h
  have hS : va_S A s.heap s.heap [] := va_S.rf
  have hl := lv_entry ([.ref (b 0)]) (n := 5) (Nat.le_of_ble_eq_true rfl)
  rw [lg_entry_eq]
  generalize (lg_sl ([.ref (b 0)]) ++ List.replicate (5 - (lg_sl ([.ref (b 0)])).length) Slot.unset).toArray = ls at hl ⊢
  have hl : lv_has ls 5 [(0, .ref (b 0))] := hl
  obtain ⟨v, hv9⟩ : ∃ v : SU, v = v0 := ⟨_, rfl⟩
  rw [← hv9] at hP hD hV
  have lp9 : ∀ (n9 : Nat) (y9_l1 : Int32) (v : SU) (H : Heap) (locs : List Loc) (ls : Array Slot), Rg 1 4096 y9_l1 → WI (v 3) y9_l1.toNatClampNeg → TyV v → va_P D cls (wM cI b L v) H → va_D A (wM cI b L v) → va_S A s.heap H locs → lv_has ls 5 [(0, .ref (b 0)), (1, .int y9_l1)] → 4096 - y9_l1.toInt < (n9 : Int) → W p l e (headSpec wsX12_reckons ({ frames := 2, cells := 0, slots := 0, locals := 80 })).room s m ([.ref (b 0)]).toArray below meth c H locs 0 0 (MQ below (QE (S := SU) D (wM cI b L v0) (wM cI b L) s.heap.size (fun u => TyV u ∧ (∀ s : Nat, (s : Int) ≤ (((1 : Int32) <<< (L 0 0 &&& 31)) - 1).toInt → Rg 1 479001600 (u 3 s)))) ([.ref (b 0)]).toArray s 0 0 (va_A (wM cI b L v0) s.heap.size)) (F0 m 9 ls []) := by
    intro n9
    induction n9 with
    | zero =>
      intro y9_l1 v H locs ls g9_l1 x9_0 hV hP hD hS hl hm9
      exact absurd rfl (me_z g9_l1 hm9)
    | succ n9 ih9 =>
      intro y9_l1 v H locs ls g9_l1 x9_0 hV hP hD hS hl hm9
      have lp155 : ∀ (n155 : Nat) (y155_l2 : Int32) (y155_l3 : Int32) (y155_l4 : Int32) (v : SU) (H : Heap) (locs : List Loc) (ls : Array Slot), Rg 1 4095 y9_l1 → Rg 0 11 y155_l2 → Rg 0 4095 y155_l3 → Rg 1 12 y155_l4 → X155 v y9_l1 y155_l2 y155_l3 y155_l4 (L 0 0) → TyV v → va_P D cls (wM cI b L v) H → va_D A (wM cI b L v) → va_S A s.heap H locs → lv_has ls 5 [(0, .ref (b 0)), (1, .int y9_l1), (2, .int y155_l2), (3, .int y155_l3), (4, .int y155_l4)] → 12 - y155_l4.toInt < (n155 : Int) → W p l e (headSpec wsX12_reckons ({ frames := 2, cells := 0, slots := 0, locals := 80 })).room s m ([.ref (b 0)]).toArray below meth c H locs 0 0 (MQ below (QE (S := SU) D (wM cI b L v0) (wM cI b L) s.heap.size (fun u => TyV u ∧ (∀ s : Nat, (s : Int) ≤ (((1 : Int32) <<< (L 0 0 &&& 31)) - 1).toInt → Rg 1 479001600 (u 3 s)))) ([.ref (b 0)]).toArray s 0 0 (va_A (wM cI b L v0) s.heap.size)) (F0 m 155 ls []) := by
        intro n155
        induction n155 with
        | zero =>
          intro y155_l2 y155_l3 y155_l4 v H locs ls g155_l1 g155_l2 g155_l3 g155_l4 x155_0 hV hP hD hS hl hm155
          exact absurd rfl (me_z g155_l4 hm155)
        | succ n155 ih155 =>
          intro y155_l2 y155_l3 y155_l4 v H locs ls g155_l1 g155_l2 g155_l3 g155_l4 x155_0 hV hP hD hS hl hm155
          refine lv_iload hx hb dX12_reckons_155 (lv_at hl 4 rfl) ?_
          refine lv_aload_n hx hb dX12_reckons_157 rfl (lv_at hl 0 rfl) ?_
          refine va_get (D := D) (ci := 12) (v := .int (L 0 0)) (C := RX12) (T := TX12) (N := 24) hx hb hts hin12 hown hK hP 0 rfl rfl 0 (by decide) (hts (.fieldLink RX12 63 "MissedPointsModel" "many" "I") (by decide +kernel)) (fun _ h9 => h9) rfl dX12_reckons_158 ?_
          refine lv_icmp_ge (tgt := 232) hx hb dX12_reckons_161 (by decide) (fun c28674 => ?_) (fun c28674 => ?_)
          · refine wk_iinc (lv' := fun r => [(1, .int r), (0, .ref (b 0)), (2, .int y155_l2), (3, .int y155_l3), (4, .int y155_l4)]) (e1 := 2) (f := 4096) hx hb dX12_reckons_232 hl (k := 1) rfl (by decide) g155_l1 (by decide) (fun _ => rfl) (fun r28675 ls hr28675 er28675 hl => ?_)
            refine lv_goto (tgt := 9) hx hb dX12_reckons_235 (by decide) ?_
            exact ih9 r28675 v _ _ ls (show Rg 1 4096 r28675 from rg_w hr28675 (by decide) (by decide)) (by exact rk_7 x155_0 ((lz_le _ _).mp c28674) (show Rg 0 12 y155_l4 from rg_w g155_l4 (by decide) (by decide)).2 er28675) hV hP hD hS (lv_sub (l' := [(0, .ref (b 0)), (1, .int r28675)]) hl [1, 0] rfl) (me_up hm9 er28675 (by decide))
          · have g28676 : Rg 2 12 (L 0 0) := rg_ltr g155_l4 hL.1 (rg_nle c28674) (by decide)
            have g28677 : Rg 1 11 y155_l4 := rg_ltl g155_l4 hL.1 (rg_nle c28674) (by decide)
            refine lv_iload_n hx hb dX12_reckons_164 rfl (lv_at hl 3 rfl) ?_
            refine lv_aload_n hx hb dX12_reckons_165 rfl (lv_at hl 0 rfl) ?_
            refine va_get (D := D) (ci := 12) (v := .ref (b 1)) (C := RX12) (T := TX12) (N := 24) hx hb hts hin12 hown hK hP 0 rfl rfl 2 (by decide) (hts (.fieldLink RX12 13 "MissedPointsModel" "near" "[I") (by decide +kernel)) (fun _ h9 => h9) rfl dX12_reckons_166 ?_
            refine lv_iload_n hx hb dX12_reckons_169 rfl (lv_at hl 2 rfl) ?_
            refine va_iald hx hb hK hP 1 0 rfl rfl (rg_in g155_l2 (by decide) (by decide)) dX12_reckons_170 ?_
            refine lz_top (y := (v 1 y155_l2.toNatClampNeg)) rfl ?_
            refine wk_iandl hx hb dX12_reckons_171 g155_l3 (by decide) (fun r28679 hr28679 qr28679 => ?_)
            refine lv_iload hx hb dX12_reckons_172 (lv_at hl 4 rfl) ?_
            refine lz_ss (As := [.int r28679, .int y155_l4]) (rest := []) ⟨hx, hb, hml, hown, hts⟩ (w_X12_has l D cI cS r28679 y155_l4) hKK (hP.sub (ws' := []) [] rfl) (va_cwS 2 hts gX12_reckons_X12_has rfl rfl rfl (by decide +kernel) ⟨Nat.le_of_ble_eq_true rfl, Nat.le_of_ble_eq_true rfl⟩) rfl hl.1 rfl (Nat.le_of_ble_eq_true rfl) dX12_reckons_174 ⟨Nat.le_of_ble_eq_true rfl, Nat.le_of_ble_eq_true rfl⟩ (fun r28680 hr28680 => ?_)
            refine lv_if_eq (tgt := 226) hx hb dX12_reckons_177 (by decide) (fun c28681 => ?_) (fun c28681 => ?_)
            · have g28682 : Rg 0 0 r28680 := wk_eql hr28680.1 (by decide : Rg 0 0 (0 : Int32)) c28681 (by decide)
              refine wk_iinc (lv' := fun r => [(4, .int r), (0, .ref (b 0)), (1, .int y9_l1), (2, .int y155_l2), (3, .int y155_l3)]) (e1 := 2) (f := 12) hx hb dX12_reckons_226 hl (k := 4) rfl (by decide) g28677 (by decide) (fun _ => rfl) (fun r28683 ls hr28683 er28683 hl => ?_)
              refine lv_goto (tgt := 155) hx hb dX12_reckons_229 (by decide) ?_
              exact ih155 y155_l2 y155_l3 r28683 v _ _ ls g155_l1 g155_l2 g155_l3 (show Rg 1 12 r28683 from rg_w hr28683 (by decide) (by decide)) (by exact rk_5 x155_0 er28683 (fun z => (hr28680.2.2 c28681) (by rw [qr28679]; exact z.1))) hV hP hD hS (lv_sub (l' := [(0, .ref (b 0)), (1, .int y9_l1), (2, .int y155_l2), (3, .int y155_l3), (4, .int r28683)]) hl [1, 2, 3, 4, 0] rfl) (me_up hm155 er28683 (by decide))
            · have g28684 : Rg 1 1 r28680 := rg_ne_lo (k := 0) hr28680.1 (by decide) c28681 (by decide)
              refine lv_aload_n hx hb dX12_reckons_180 rfl (lv_at hl 0 rfl) ?_
              refine va_get (D := D) (ci := 12) (v := .ref (b 2)) (C := RX12) (T := TX12) (N := 24) hx hb hts hin12 hown hK hP 0 rfl rfl 3 (by decide) (hts (.fieldLink RX12 17 "MissedPointsModel" "pairs" "[I") (by decide +kernel)) (fun _ h9 => h9) rfl dX12_reckons_181 ?_
              refine lv_iload_n hx hb dX12_reckons_184 rfl (lv_at hl 3 rfl) ?_
              refine lv_iconst (v := 1) hx hb dX12_reckons_185 (by decide) ?_
              refine lv_iload hx hb dX12_reckons_186 (lv_at hl 4 rfl) ?_
              refine wk_ishl1 (f := 2048) hx hb dX12_reckons_188 (show Rg 0 11 y155_l4 from rg_w g28677 (by decide) (by decide)) (by decide) (fun r28685 hr28685 qr28685 => ?_)
              refine lv_iconst (v := (-1)) hx hb dX12_reckons_189 (by decide) ?_
              refine lv_ixor hx hb dX12_reckons_190 ?_
              refine wk_topP (P := fun r => r = r28685 ^^^ ((-1) : Int32)) rfl (fun r28686 qr28686 => ?_)
              refine wk_iandl hx hb dX12_reckons_191 g155_l3 (by decide) (fun r28687 hr28687 qr28687 => ?_)
              refine va_iald hx hb hK hP 2 0 rfl rfl (rg_in hr28687 (by decide) (by decide)) dX12_reckons_192 ?_
              refine lz_top (y := (v 2 r28687.toNatClampNeg)) rfl ?_
              refine lv_iconst (v := 1) hx hb dX12_reckons_193 (by decide) ?_
              refine lv_iadd hx hb dX12_reckons_194 ?_
              refine wk_topP (P := fun r => r = (v 2 r28687.toNatClampNeg) + (1 : Int32)) rfl (fun r28689 qr28689 => ?_)
              refine lv_aload_n hx hb dX12_reckons_195 rfl (lv_at hl 0 rfl) ?_
              refine va_get (D := D) (ci := 12) (v := .ref (b 2)) (C := RX12) (T := TX12) (N := 24) hx hb hts hin12 hown hK hP 0 rfl rfl 3 (by decide) (hts (.fieldLink RX12 17 "MissedPointsModel" "pairs" "[I") (by decide +kernel)) (fun _ h9 => h9) rfl dX12_reckons_196 ?_
              refine lv_iload_n hx hb dX12_reckons_199 rfl (lv_at hl 1 rfl) ?_
              refine va_iald hx hb hK hP 2 0 rfl rfl (rg_in g155_l1 (by decide) (by decide)) dX12_reckons_200 ?_
              refine lz_top (y := (v 2 y9_l1.toNatClampNeg)) rfl ?_
              refine lv_icmp_ne (tgt := 226) hx hb dX12_reckons_201 (by decide) (fun c28691 => ?_) (fun c28691 => ?_)
              · refine wk_iinc (lv' := fun r => [(4, .int r), (0, .ref (b 0)), (1, .int y9_l1), (2, .int y155_l2), (3, .int y155_l3)]) (e1 := 2) (f := 12) hx hb dX12_reckons_226 hl (k := 4) rfl (by decide) g28677 (by decide) (fun _ => rfl) (fun r28692 ls hr28692 er28692 hl => ?_)
                refine lv_goto (tgt := 155) hx hb dX12_reckons_229 (by decide) ?_
                exact ih155 y155_l2 y155_l3 r28692 v _ _ ls g155_l1 g155_l2 g155_l3 (show Rg 1 12 r28692 from rg_w hr28692 (by decide) (by decide)) (by exact rk_5 x155_0 er28692 (fun z => c28691 (by rw [qr28689, (show r28687 = rmI y155_l3 y155_l4 from by rw [qr28687, qr28686, qr28685]; first | done | rfl)]; exact z.2))) hV hP hD hS (lv_sub (l' := [(0, .ref (b 0)), (1, .int y9_l1), (2, .int y155_l2), (3, .int y155_l3), (4, .int r28692)]) hl [1, 2, 3, 4, 0] rfl) (me_up hm155 er28692 (by decide))
              · refine lv_aload_n hx hb dX12_reckons_204 rfl (lv_at hl 0 rfl) ?_
                refine va_get (D := D) (ci := 12) (v := .ref (b 3)) (C := RX12) (T := TX12) (N := 24) hx hb hts hin12 hown hK hP 0 rfl rfl 4 (by decide) (hts (.fieldLink RX12 20 "MissedPointsModel" "greatestWays" "[I") (by decide +kernel)) (fun _ h9 => h9) rfl dX12_reckons_205 ?_
                refine lv_iload_n hx hb dX12_reckons_208 rfl (lv_at hl 1 rfl) ?_
                refine lv_dup2_11 hx hb dX12_reckons_209 rfl rfl ?_
                refine va_iald hx hb hK hP 3 0 rfl rfl (rg_in g155_l1 (by decide) (by decide)) dX12_reckons_210 ?_
                refine lz_top (y := (v 3 y9_l1.toNatClampNeg)) rfl ?_
                refine lv_aload_n hx hb dX12_reckons_211 rfl (lv_at hl 0 rfl) ?_
                refine va_get (D := D) (ci := 12) (v := .ref (b 3)) (C := RX12) (T := TX12) (N := 24) hx hb hts hin12 hown hK hP 0 rfl rfl 4 (by decide) (hts (.fieldLink RX12 20 "MissedPointsModel" "greatestWays" "[I") (by decide +kernel)) (fun _ h9 => h9) rfl dX12_reckons_212 ?_
                refine lv_iload_n hx hb dX12_reckons_215 rfl (lv_at hl 3 rfl) ?_
                refine lv_iconst (v := 1) hx hb dX12_reckons_216 (by decide) ?_
                refine lv_iload hx hb dX12_reckons_217 (lv_at hl 4 rfl) ?_
                refine wk_ishl1 (f := 2048) hx hb dX12_reckons_219 (show Rg 0 11 y155_l4 from rg_w g28677 (by decide) (by decide)) (by decide) (fun r28694 hr28694 qr28694 => ?_)
                refine lv_iconst (v := (-1)) hx hb dX12_reckons_220 (by decide) ?_
                refine lv_ixor hx hb dX12_reckons_221 ?_
                refine wk_topP (P := fun r => r = r28694 ^^^ ((-1) : Int32)) rfl (fun r28695 qr28695 => ?_)
                refine wk_iandl hx hb dX12_reckons_222 g155_l3 (by decide) (fun r28696 hr28696 qr28696 => ?_)
                refine va_iald hx hb hK hP 3 0 rfl rfl (rg_in hr28696 (by decide) (by decide)) dX12_reckons_223 ?_
                refine lz_top (y := (v 3 r28696.toNatClampNeg)) rfl ?_
                refine lv_iadd hx hb dX12_reckons_224 ?_
                refine wk_topP (P := fun r => r = (v 3 y9_l1.toNatClampNeg) + (v 3 r28696.toNatClampNeg)) rfl (fun r28698 qr28698 => ?_)
                refine ms_3 hx hb hK hP hD hS hV rfl (rg_in g155_l1 (by decide) (by decide)) dX12_reckons_225 (fun v H locs hV ev28699 hP hD hS => ?_)
                refine wk_iinc (lv' := fun r => [(4, .int r), (0, .ref (b 0)), (1, .int y9_l1), (2, .int y155_l2), (3, .int y155_l3)]) (e1 := 2) (f := 12) hx hb dX12_reckons_226 hl (k := 4) rfl (by decide) g28677 (by decide) (fun _ => rfl) (fun r28700 ls hr28700 er28700 hl => ?_)
                refine lv_goto (tgt := 155) hx hb dX12_reckons_229 (by decide) ?_
                exact ih155 y155_l2 y155_l3 r28700 v _ _ ls g155_l1 g155_l2 g155_l3 (show Rg 1 12 r28700 from rg_w hr28700 (by decide) (by decide)) (by exact rk_6 x155_0 er28700 (show Rg 0 11 y155_l4 from rg_w g28677 (by decide) (by decide)) (by rw [qr28698, (show r28696 = rmI y155_l3 y155_l4 from by rw [qr28696, qr28695, qr28694]; first | done | rfl)]) ev28699) hV hP hD hS (lv_sub (l' := [(0, .ref (b 0)), (1, .int y9_l1), (2, .int y155_l2), (3, .int y155_l3), (4, .int r28700)]) hl [1, 2, 3, 4, 0] rfl) (me_up hm155 er28700 (by decide))
      have lp45 : ∀ (n45 : Nat) (y45_l2 : Int32) (y45_l3 : Int32) (y45_l4 : Int32) (v : SU) (H : Heap) (locs : List Loc) (ls : Array Slot), Rg 1 4095 y9_l1 → Rg 0 11 y45_l2 → Rg 0 4095 y45_l3 → Rg 1 12 y45_l4 → X45 v y9_l1 y45_l2 y45_l3 y45_l4 (L 0 0) → TyV v → va_P D cls (wM cI b L v) H → va_D A (wM cI b L v) → va_S A s.heap H locs → lv_has ls 5 [(0, .ref (b 0)), (1, .int y9_l1), (2, .int y45_l2), (3, .int y45_l3), (4, .int y45_l4)] → 12 - y45_l4.toInt < (n45 : Int) → W p l e (headSpec wsX12_reckons ({ frames := 2, cells := 0, slots := 0, locals := 80 })).room s m ([.ref (b 0)]).toArray below meth c H locs 0 0 (MQ below (QE (S := SU) D (wM cI b L v0) (wM cI b L) s.heap.size (fun u => TyV u ∧ (∀ s : Nat, (s : Int) ≤ (((1 : Int32) <<< (L 0 0 &&& 31)) - 1).toInt → Rg 1 479001600 (u 3 s)))) ([.ref (b 0)]).toArray s 0 0 (va_A (wM cI b L v0) s.heap.size)) (F0 m 45 ls []) := by
        intro n45
        induction n45 with
        | zero =>
          intro y45_l2 y45_l3 y45_l4 v H locs ls g45_l1 g45_l2 g45_l3 g45_l4 x45_0 hV hP hD hS hl hm45
          exact absurd rfl (me_z g45_l4 hm45)
        | succ n45 ih45 =>
          intro y45_l2 y45_l3 y45_l4 v H locs ls g45_l1 g45_l2 g45_l3 g45_l4 x45_0 hV hP hD hS hl hm45
          refine lv_iload hx hb dX12_reckons_45 (lv_at hl 4 rfl) ?_
          refine lv_aload_n hx hb dX12_reckons_47 rfl (lv_at hl 0 rfl) ?_
          refine va_get (D := D) (ci := 12) (v := .int (L 0 0)) (C := RX12) (T := TX12) (N := 24) hx hb hts hin12 hown hK hP 0 rfl rfl 0 (by decide) (hts (.fieldLink RX12 63 "MissedPointsModel" "many" "I") (by decide +kernel)) (fun _ h9 => h9) rfl dX12_reckons_48 ?_
          refine lv_icmp_ge (tgt := 119) hx hb dX12_reckons_51 (by decide) (fun c28701 => ?_) (fun c28701 => ?_)
          · refine lv_aload_n hx hb dX12_reckons_119 rfl (lv_at hl 0 rfl) ?_
            refine va_get (D := D) (ci := 12) (v := .ref (b 3)) (C := RX12) (T := TX12) (N := 24) hx hb hts hin12 hown hK hP 0 rfl rfl 4 (by decide) (hts (.fieldLink RX12 20 "MissedPointsModel" "greatestWays" "[I") (by decide +kernel)) (fun _ h9 => h9) rfl dX12_reckons_120 ?_
            refine lv_iload_n hx hb dX12_reckons_123 rfl (lv_at hl 1 rfl) ?_
            refine lv_aload_n hx hb dX12_reckons_124 rfl (lv_at hl 0 rfl) ?_
            refine va_get (D := D) (ci := 12) (v := .ref (b 2)) (C := RX12) (T := TX12) (N := 24) hx hb hts hin12 hown hK hP 0 rfl rfl 3 (by decide) (hts (.fieldLink RX12 17 "MissedPointsModel" "pairs" "[I") (by decide +kernel)) (fun _ h9 => h9) rfl dX12_reckons_125 ?_
            refine lv_iload_n hx hb dX12_reckons_128 rfl (lv_at hl 3 rfl) ?_
            refine va_iald hx hb hK hP 2 0 rfl rfl (rg_in g45_l3 (by decide) (by decide)) dX12_reckons_129 ?_
            refine lz_top (y := (v 2 y45_l3.toNatClampNeg)) rfl ?_
            refine lv_aload_n hx hb dX12_reckons_130 rfl (lv_at hl 0 rfl) ?_
            refine va_get (D := D) (ci := 12) (v := .ref (b 2)) (C := RX12) (T := TX12) (N := 24) hx hb hts hin12 hown hK hP 0 rfl rfl 3 (by decide) (hts (.fieldLink RX12 17 "MissedPointsModel" "pairs" "[I") (by decide +kernel)) (fun _ h9 => h9) rfl dX12_reckons_131 ?_
            refine lv_iload_n hx hb dX12_reckons_134 rfl (lv_at hl 1 rfl) ?_
            refine va_iald hx hb hK hP 2 0 rfl rfl (rg_in g45_l1 (by decide) (by decide)) dX12_reckons_135 ?_
            refine lz_top (y := (v 2 y9_l1.toNatClampNeg)) rfl ?_
            refine lv_icmp_ne (tgt := 148) hx hb dX12_reckons_136 (by decide) (fun c28704 => ?_) (fun c28704 => ?_)
            · refine lv_iconst (v := 0) hx hb dX12_reckons_148 (by decide) ?_
              refine ms_3 hx hb hK hP hD hS hV rfl (rg_in g45_l1 (by decide) (by decide)) dX12_reckons_149 (fun v H locs hV ev28705 hP hD hS => ?_)
              refine lv_iload_n hx hb dX12_reckons_150 rfl (lv_at hl 2 rfl) ?_
              refine lv_iconst (v := 1) hx hb dX12_reckons_151 (by decide) ?_
              refine wk_iadd (e1 := 1) (f := 12) hx hb dX12_reckons_152 g45_l2 (by decide : Rg 1 1 (1 : Int32)) (by decide) (fun r28706 hr28706 er28706 qr28706 => ?_)
              refine lv_istore (lv' := [(4, .int r28706), (0, .ref (b 0)), (1, .int y9_l1), (2, .int y45_l2), (3, .int y45_l3)]) hx hb dX12_reckons_153 hl (by decide) rfl (fun ls hl => ?_)
              exact lp155 12 y45_l2 y45_l3 r28706 v _ _ ls g45_l1 g45_l2 g45_l3 hr28706 (by exact rk_4 x45_0 er28706 (Or.inr ⟨c28704, rfl⟩) ev28705) hV hP hD hS (lv_sub (l' := [(0, .ref (b 0)), (1, .int y9_l1), (2, .int y45_l2), (3, .int y45_l3), (4, .int r28706)]) hl [1, 2, 3, 4, 0] rfl) (me_i hr28706 (by decide))
            · refine lv_aload_n hx hb dX12_reckons_139 rfl (lv_at hl 0 rfl) ?_
              refine va_get (D := D) (ci := 12) (v := .ref (b 3)) (C := RX12) (T := TX12) (N := 24) hx hb hts hin12 hown hK hP 0 rfl rfl 4 (by decide) (hts (.fieldLink RX12 20 "MissedPointsModel" "greatestWays" "[I") (by decide +kernel)) (fun _ h9 => h9) rfl dX12_reckons_140 ?_
              refine lv_iload_n hx hb dX12_reckons_143 rfl (lv_at hl 3 rfl) ?_
              refine va_iald hx hb hK hP 3 0 rfl rfl (rg_in g45_l3 (by decide) (by decide)) dX12_reckons_144 ?_
              refine lz_top (y := (v 3 y45_l3.toNatClampNeg)) rfl ?_
              refine lv_goto (tgt := 149) hx hb dX12_reckons_145 (by decide) ?_
              refine ms_3 hx hb hK hP hD hS hV rfl (rg_in g45_l1 (by decide) (by decide)) dX12_reckons_149 (fun v H locs hV ev28708 hP hD hS => ?_)
              refine lv_iload_n hx hb dX12_reckons_150 rfl (lv_at hl 2 rfl) ?_
              refine lv_iconst (v := 1) hx hb dX12_reckons_151 (by decide) ?_
              refine wk_iadd (e1 := 1) (f := 12) hx hb dX12_reckons_152 g45_l2 (by decide : Rg 1 1 (1 : Int32)) (by decide) (fun r28709 hr28709 er28709 qr28709 => ?_)
              refine lv_istore (lv' := [(4, .int r28709), (0, .ref (b 0)), (1, .int y9_l1), (2, .int y45_l2), (3, .int y45_l3)]) hx hb dX12_reckons_153 hl (by decide) rfl (fun ls hl => ?_)
              exact lp155 12 y45_l2 y45_l3 r28709 v _ _ ls g45_l1 g45_l2 g45_l3 hr28709 (by exact rk_4 x45_0 er28709 (Or.inl ⟨c28704, rfl⟩) ev28708) hV hP hD hS (lv_sub (l' := [(0, .ref (b 0)), (1, .int y9_l1), (2, .int y45_l2), (3, .int y45_l3), (4, .int r28709)]) hl [1, 2, 3, 4, 0] rfl) (me_i hr28709 (by decide))
          · have g28710 : Rg 2 12 (L 0 0) := rg_ltr g45_l4 hL.1 (rg_nle c28701) (by decide)
            have g28711 : Rg 1 11 y45_l4 := rg_ltl g45_l4 hL.1 (rg_nle c28701) (by decide)
            refine lv_iload_n hx hb dX12_reckons_54 rfl (lv_at hl 3 rfl) ?_
            refine lv_aload_n hx hb dX12_reckons_55 rfl (lv_at hl 0 rfl) ?_
            refine va_get (D := D) (ci := 12) (v := .ref (b 1)) (C := RX12) (T := TX12) (N := 24) hx hb hts hin12 hown hK hP 0 rfl rfl 2 (by decide) (hts (.fieldLink RX12 13 "MissedPointsModel" "near" "[I") (by decide +kernel)) (fun _ h9 => h9) rfl dX12_reckons_56 ?_
            refine lv_iload_n hx hb dX12_reckons_59 rfl (lv_at hl 2 rfl) ?_
            refine va_iald hx hb hK hP 1 0 rfl rfl (rg_in g45_l2 (by decide) (by decide)) dX12_reckons_60 ?_
            refine lz_top (y := (v 1 y45_l2.toNatClampNeg)) rfl ?_
            refine wk_iandl hx hb dX12_reckons_61 g45_l3 (by decide) (fun r28713 hr28713 qr28713 => ?_)
            refine lv_iload hx hb dX12_reckons_62 (lv_at hl 4 rfl) ?_
            refine lz_ss (As := [.int r28713, .int y45_l4]) (rest := []) ⟨hx, hb, hml, hown, hts⟩ (w_X12_has l D cI cS r28713 y45_l4) hKK (hP.sub (ws' := []) [] rfl) (va_cwS 2 hts gX12_reckons_X12_has rfl rfl rfl (by decide +kernel) ⟨Nat.le_of_ble_eq_true rfl, Nat.le_of_ble_eq_true rfl⟩) rfl hl.1 rfl (Nat.le_of_ble_eq_true rfl) dX12_reckons_64 ⟨Nat.le_of_ble_eq_true rfl, Nat.le_of_ble_eq_true rfl⟩ (fun r28714 hr28714 => ?_)
            refine lv_if_eq (tgt := 113) hx hb dX12_reckons_67 (by decide) (fun c28715 => ?_) (fun c28715 => ?_)
            · have g28716 : Rg 0 0 r28714 := wk_eql hr28714.1 (by decide : Rg 0 0 (0 : Int32)) c28715 (by decide)
              refine wk_iinc (lv' := fun r => [(4, .int r), (0, .ref (b 0)), (1, .int y9_l1), (2, .int y45_l2), (3, .int y45_l3)]) (e1 := 2) (f := 12) hx hb dX12_reckons_113 hl (k := 4) rfl (by decide) g28711 (by decide) (fun _ => rfl) (fun r28717 ls hr28717 er28717 hl => ?_)
              refine lv_goto (tgt := 45) hx hb dX12_reckons_116 (by decide) ?_
              exact ih45 y45_l2 y45_l3 r28717 v _ _ ls g45_l1 g45_l2 g45_l3 (show Rg 1 12 r28717 from rg_w hr28717 (by decide) (by decide)) (by exact rk_2 x45_0 er28717) hV hP hD hS (lv_sub (l' := [(0, .ref (b 0)), (1, .int y9_l1), (2, .int y45_l2), (3, .int y45_l3), (4, .int r28717)]) hl [1, 2, 3, 4, 0] rfl) (me_up hm45 er28717 (by decide))
            · have g28718 : Rg 1 1 r28714 := rg_ne_lo (k := 0) hr28714.1 (by decide) c28715 (by decide)
              refine lv_aload_n hx hb dX12_reckons_70 rfl (lv_at hl 0 rfl) ?_
              refine va_get (D := D) (ci := 12) (v := .ref (b 2)) (C := RX12) (T := TX12) (N := 24) hx hb hts hin12 hown hK hP 0 rfl rfl 3 (by decide) (hts (.fieldLink RX12 17 "MissedPointsModel" "pairs" "[I") (by decide +kernel)) (fun _ h9 => h9) rfl dX12_reckons_71 ?_
              refine lv_iload_n hx hb dX12_reckons_74 rfl (lv_at hl 3 rfl) ?_
              refine lv_iconst (v := 1) hx hb dX12_reckons_75 (by decide) ?_
              refine lv_iload hx hb dX12_reckons_76 (lv_at hl 4 rfl) ?_
              refine wk_ishl1 (f := 2048) hx hb dX12_reckons_78 (show Rg 0 11 y45_l4 from rg_w g28711 (by decide) (by decide)) (by decide) (fun r28719 hr28719 qr28719 => ?_)
              refine lv_iconst (v := (-1)) hx hb dX12_reckons_79 (by decide) ?_
              refine lv_ixor hx hb dX12_reckons_80 ?_
              refine wk_topP (P := fun r => r = r28719 ^^^ ((-1) : Int32)) rfl (fun r28720 qr28720 => ?_)
              refine wk_iandl hx hb dX12_reckons_81 g45_l3 (by decide) (fun r28721 hr28721 qr28721 => ?_)
              refine va_iald hx hb hK hP 2 0 rfl rfl (rg_in hr28721 (by decide) (by decide)) dX12_reckons_82 ?_
              refine lz_top (y := (v 2 r28721.toNatClampNeg)) rfl ?_
              refine lv_aload_n hx hb dX12_reckons_83 rfl (lv_at hl 0 rfl) ?_
              refine va_get (D := D) (ci := 12) (v := .ref (b 2)) (C := RX12) (T := TX12) (N := 24) hx hb hts hin12 hown hK hP 0 rfl rfl 3 (by decide) (hts (.fieldLink RX12 17 "MissedPointsModel" "pairs" "[I") (by decide +kernel)) (fun _ h9 => h9) rfl dX12_reckons_84 ?_
              refine lv_iload_n hx hb dX12_reckons_87 rfl (lv_at hl 1 rfl) ?_
              refine va_iald hx hb hK hP 2 0 rfl rfl (rg_in g45_l1 (by decide) (by decide)) dX12_reckons_88 ?_
              refine lz_top (y := (v 2 y9_l1.toNatClampNeg)) rfl ?_
              refine lv_icmp_lt (tgt := 113) hx hb dX12_reckons_89 (by decide) (fun c28724 => ?_) (fun c28724 => ?_)
              · refine wk_iinc (lv' := fun r => [(4, .int r), (0, .ref (b 0)), (1, .int y9_l1), (2, .int y45_l2), (3, .int y45_l3)]) (e1 := 2) (f := 12) hx hb dX12_reckons_113 hl (k := 4) rfl (by decide) g28711 (by decide) (fun _ => rfl) (fun r28725 ls hr28725 er28725 hl => ?_)
                refine lv_goto (tgt := 45) hx hb dX12_reckons_116 (by decide) ?_
                exact ih45 y45_l2 y45_l3 r28725 v _ _ ls g45_l1 g45_l2 g45_l3 (show Rg 1 12 r28725 from rg_w hr28725 (by decide) (by decide)) (by exact rk_2 x45_0 er28725) hV hP hD hS (lv_sub (l' := [(0, .ref (b 0)), (1, .int y9_l1), (2, .int y45_l2), (3, .int y45_l3), (4, .int r28725)]) hl [1, 2, 3, 4, 0] rfl) (me_up hm45 er28725 (by decide))
              · refine lv_aload_n hx hb dX12_reckons_92 rfl (lv_at hl 0 rfl) ?_
                refine va_get (D := D) (ci := 12) (v := .ref (b 2)) (C := RX12) (T := TX12) (N := 24) hx hb hts hin12 hown hK hP 0 rfl rfl 3 (by decide) (hts (.fieldLink RX12 17 "MissedPointsModel" "pairs" "[I") (by decide +kernel)) (fun _ h9 => h9) rfl dX12_reckons_93 ?_
                refine lv_iload_n hx hb dX12_reckons_96 rfl (lv_at hl 1 rfl) ?_
                refine lv_aload_n hx hb dX12_reckons_97 rfl (lv_at hl 0 rfl) ?_
                refine va_get (D := D) (ci := 12) (v := .ref (b 2)) (C := RX12) (T := TX12) (N := 24) hx hb hts hin12 hown hK hP 0 rfl rfl 3 (by decide) (hts (.fieldLink RX12 17 "MissedPointsModel" "pairs" "[I") (by decide +kernel)) (fun _ h9 => h9) rfl dX12_reckons_98 ?_
                refine lv_iload_n hx hb dX12_reckons_101 rfl (lv_at hl 3 rfl) ?_
                refine lv_iconst (v := 1) hx hb dX12_reckons_102 (by decide) ?_
                refine lv_iload hx hb dX12_reckons_103 (lv_at hl 4 rfl) ?_
                refine wk_ishl1 (f := 2048) hx hb dX12_reckons_105 (show Rg 0 11 y45_l4 from rg_w g28711 (by decide) (by decide)) (by decide) (fun r28726 hr28726 qr28726 => ?_)
                refine lv_iconst (v := (-1)) hx hb dX12_reckons_106 (by decide) ?_
                refine lv_ixor hx hb dX12_reckons_107 ?_
                refine wk_topP (P := fun r => r = r28726 ^^^ ((-1) : Int32)) rfl (fun r28727 qr28727 => ?_)
                refine wk_iandl hx hb dX12_reckons_108 g45_l3 (by decide) (fun r28728 hr28728 qr28728 => ?_)
                refine va_iald hx hb hK hP 2 0 rfl rfl (rg_in hr28728 (by decide) (by decide)) dX12_reckons_109 ?_
                refine lz_top (y := (v 2 r28728.toNatClampNeg)) rfl ?_
                refine lv_iconst (v := 1) hx hb dX12_reckons_110 (by decide) ?_
                refine lv_iadd hx hb dX12_reckons_111 ?_
                refine wk_topP (P := fun r => r = (v 2 r28728.toNatClampNeg) + (1 : Int32)) rfl (fun r28730 qr28730 => ?_)
                refine ms_2 hx hb hK hP hD hS hV rfl (rg_in g45_l1 (by decide) (by decide)) (wk_nz g45_l1 (by decide)) dX12_reckons_112 (fun v H locs hV ev28731 hP hD hS => ?_)
                refine wk_iinc (lv' := fun r => [(4, .int r), (0, .ref (b 0)), (1, .int y9_l1), (2, .int y45_l2), (3, .int y45_l3)]) (e1 := 2) (f := 12) hx hb dX12_reckons_113 hl (k := 4) rfl (by decide) g28711 (by decide) (fun _ => rfl) (fun r28732 ls hr28732 er28732 hl => ?_)
                refine lv_goto (tgt := 45) hx hb dX12_reckons_116 (by decide) ?_
                exact ih45 y45_l2 y45_l3 r28732 v _ _ ls g45_l1 g45_l2 g45_l3 (show Rg 1 12 r28732 from rg_w hr28732 (by decide) (by decide)) (by exact rk_3 x45_0 er28732 (show Rg 0 11 y45_l4 from rg_w g28711 (by decide) (by decide)) ((lz_lt _ _).mp (rg_nle c28701)) (by rw [← qr28713]; exact hr28714.2.1 c28715) (by rw [qr28730, (show r28728 = rmI y45_l3 y45_l4 from by rw [qr28728, qr28727, qr28726]; first | done | rfl)]) ev28731) hV hP hD hS (lv_sub (l' := [(0, .ref (b 0)), (1, .int y9_l1), (2, .int y45_l2), (3, .int y45_l3), (4, .int r28732)]) hl [1, 2, 3, 4, 0] rfl) (me_up hm45 er28732 (by decide))
      refine lv_iload_n hx hb dX12_reckons_9 rfl (lv_at hl 1 rfl) ?_
      refine lv_aload_n hx hb dX12_reckons_10 rfl (lv_at hl 0 rfl) ?_
      refine wk_sv 0 (As := []) (rest := [.int y9_l1]) ⟨hx, hb, hml, hown, hts⟩ (w_X12_all l D cI cS b L v hL hV) hKK hP (ci := 12) rfl rfl (cwV 0 hts gX12_reckons_X12_all rfl rfl rfl (by decide +kernel) ⟨Nat.le_of_ble_eq_true rfl, Nat.le_of_ble_eq_true rfl⟩) rfl hl.1 rfl (Nat.le_of_ble_eq_true rfl) dX12_reckons_11 ⟨Nat.le_of_ble_eq_true rfl, Nat.le_of_ble_eq_true rfl⟩ (fun r28733 hr28733 => ?_)
      refine lv_icmp_gt (tgt := 238) hx hb dX12_reckons_14 (by decide) (fun c28734 => ?_) (fun c28734 => ?_)
      · subst hAe
        exact W.vret hx hb hr (fun t ht hW => ⟨⟨v, rfl, ⟨hV, (fun s9 hs9 => by have z1 := (lz_lt _ _).mp c28734; have z2 : y9_l1.toNatClampNeg = y9_l1.toInt.toNat := rfl; rw [← hr28733.2] at hs9; have z3 := x9_0 s9 (by omega); have z4 := g9_l1; have z5 := bdN_top (x := s9) (by omega); exact ⟨z3.1, by omega⟩)⟩, by rw [ht]; exact hP, hD⟩, hS.F ht⟩) hS.2.2 dX12_reckons_238
      · have g28735 : Rg 1 4095 r28733 := rg_ler g9_l1 hr28733.1 (rg_nlt c28734) (by decide)
        have g28736 : Rg 1 4095 y9_l1 := rg_lel g9_l1 hr28733.1 (rg_nlt c28734) (by decide)
        refine lv_iload_n hx hb dX12_reckons_17 rfl (lv_at hl 1 rfl) ?_
        refine lz_ss (As := [.int y9_l1]) (rest := []) ⟨hx, hb, hml, hown, hts⟩ (w_X12_first l D cI cS y9_l1 g28736) hKK (hP.sub (ws' := []) [] rfl) (va_cwS 1 hts gX12_reckons_X12_first rfl rfl rfl (by decide +kernel) ⟨Nat.le_of_ble_eq_true rfl, Nat.le_of_ble_eq_true rfl⟩) rfl hl.1 rfl (Nat.le_of_ble_eq_true rfl) dX12_reckons_18 ⟨Nat.le_of_ble_eq_true rfl, Nat.le_of_ble_eq_true rfl⟩ (fun r28737 hr28737 => ?_)
        refine lv_istore_n (lv' := [(2, .int r28737), (0, .ref (b 0)), (1, .int y9_l1)]) hx hb dX12_reckons_21 rfl hl (by decide) rfl (fun ls hl => ?_)
        refine lv_iload_n hx hb dX12_reckons_22 rfl (lv_at hl 2 rfl) ?_
        refine lv_iload_n hx hb dX12_reckons_23 rfl (lv_at hl 2 rfl) ?_
        refine lv_iconst (v := 1) hx hb dX12_reckons_24 (by decide) ?_
        refine wk_isub (e1 := 0) (f := 4094) hx hb dX12_reckons_25 g28736 (by decide : Rg 1 1 (1 : Int32)) (by decide) (fun r28738 hr28738 er28738 qr28738 => ?_)
        refine wk_iandr hx hb dX12_reckons_26 hr28738 (by decide) (fun r28739 hr28739 qr28739 => ?_)
        refine lv_istore_n (lv' := [(3, .int r28739), (2, .int r28737), (0, .ref (b 0)), (1, .int y9_l1)]) hx hb dX12_reckons_27 rfl hl (by decide) rfl (fun ls hl => ?_)
        refine lv_aload_n hx hb dX12_reckons_28 rfl (lv_at hl 2 rfl) ?_
        refine va_get (D := D) (ci := 12) (v := .ref (b 2)) (C := RX12) (T := TX12) (N := 24) hx hb hts hin12 hown hK hP 0 rfl rfl 3 (by decide) (hts (.fieldLink RX12 17 "MissedPointsModel" "pairs" "[I") (by decide +kernel)) (fun _ h9 => h9) rfl dX12_reckons_29 ?_
        refine lv_iload_n hx hb dX12_reckons_32 rfl (lv_at hl 3 rfl) ?_
        refine lv_aload_n hx hb dX12_reckons_33 rfl (lv_at hl 2 rfl) ?_
        refine va_get (D := D) (ci := 12) (v := .ref (b 2)) (C := RX12) (T := TX12) (N := 24) hx hb hts hin12 hown hK hP 0 rfl rfl 3 (by decide) (hts (.fieldLink RX12 17 "MissedPointsModel" "pairs" "[I") (by decide +kernel)) (fun _ h9 => h9) rfl dX12_reckons_34 ?_
        refine lv_iload_n hx hb dX12_reckons_37 rfl (lv_at hl 0 rfl) ?_
        refine va_iald hx hb hK hP 2 0 rfl rfl (rg_in hr28739 (by decide) (by decide)) dX12_reckons_38 ?_
        refine lz_top (y := (v 2 r28739.toNatClampNeg)) rfl ?_
        refine ms_2 hx hb hK hP hD hS hV rfl (rg_in g28736 (by decide) (by decide)) (wk_nz g28736 (by decide)) dX12_reckons_39 (fun v H locs hV ev28741 hP hD hS => ?_)
        refine lv_iload_n hx hb dX12_reckons_40 rfl (lv_at hl 1 rfl) ?_
        refine lv_iconst (v := 1) hx hb dX12_reckons_41 (by decide) ?_
        refine wk_iadd (e1 := 1) (f := 12) hx hb dX12_reckons_42 hr28737.1 (by decide : Rg 1 1 (1 : Int32)) (by decide) (fun r28742 hr28742 er28742 qr28742 => ?_)
        refine lv_istore (lv' := [(4, .int r28742), (3, .int r28739), (2, .int r28737), (0, .ref (b 0)), (1, .int y9_l1)]) hx hb dX12_reckons_43 hl (by decide) rfl (fun ls hl => ?_)
        exact lp45 12 r28737 r28739 r28742 v _ _ ls g28736 hr28737.1 (show Rg 0 4095 r28739 from rg_w hr28739 (by decide) (by decide)) hr28742 (by exact rk_1 x9_0 g28736 hr28737.2 (by rw [qr28739, qr28738]) ev28741 er28742) hV hP hD hS (lv_sub (l' := [(0, .ref (b 0)), (1, .int y9_l1), (2, .int r28737), (3, .int r28739), (4, .int r28742)]) hl [3, 4, 2, 1, 0] rfl) (me_i hr28742 (by decide))
  refine lv_aload_n hx hb dX12_reckons_0 rfl (lv_at hl 0 rfl) ?_
  refine va_get (D := D) (ci := 12) (v := .ref (b 3)) (C := RX12) (T := TX12) (N := 24) hx hb hts hin12 hown hK hP 0 rfl rfl 4 (by decide) (hts (.fieldLink RX12 20 "MissedPointsModel" "greatestWays" "[I") (by decide +kernel)) (fun _ h9 => h9) rfl dX12_reckons_1 ?_
  refine lv_iconst (v := 0) hx hb dX12_reckons_4 (by decide) ?_
  refine lv_iconst (v := 1) hx hb dX12_reckons_5 (by decide) ?_
  refine ms_3 hx hb hK hP hD hS hV rfl (rg_in (by decide : Rg 0 0 (0 : Int32)) (by decide) (by decide)) dX12_reckons_6 (fun v H locs hV ev28743 hP hD hS => ?_)
  refine lv_iconst (v := 1) hx hb dX12_reckons_7 (by decide) ?_
  refine lv_istore_n (lv' := [(1, .int 1), (0, .ref (b 0))]) hx hb dX12_reckons_8 rfl hl (by decide) rfl (fun ls hl => ?_)
  exact lp9 4096 (1 : Int32) v _ _ ls (by decide : Rg 1 4096 (1 : Int32)) (by exact WI.one ev28743) hV hP hD hS (lv_sub (l' := [(0, .ref (b 0)), (1, .int 1)]) hl [1, 0] rfl) (me_i (by decide : Rg 1 4096 (1 : Int32)) (by decide))
theorem dX12_common_0 : decode cX12_common 0 = .ok (.iload_n 0, 1) := by decide +kernel
theorem dX12_common_1 : decode cX12_common 1 = .ok (.istore_n 2, 1) := by decide +kernel
theorem dX12_common_10 : decode cX12_common 10 = .ok (.irem, 1) := by decide +kernel
theorem dX12_common_11 : decode cX12_common 11 = .ok (.istore 4, 2) := by decide +kernel
theorem dX12_common_13 : decode cX12_common 13 = .ok (.iload_n 3, 1) := by decide +kernel
theorem dX12_common_14 : decode cX12_common 14 = .ok (.istore_n 2, 1) := by decide +kernel
theorem dX12_common_15 : decode cX12_common 15 = .ok (.iload 4, 2) := by decide +kernel
theorem dX12_common_17 : decode cX12_common 17 = .ok (.istore_n 3, 1) := by decide +kernel
theorem dX12_common_18 : decode cX12_common 18 = .ok (.goto (-14), 3) := by decide +kernel
theorem dX12_common_2 : decode cX12_common 2 = .ok (.iload_n 1, 1) := by decide +kernel
theorem dX12_common_21 : decode cX12_common 21 = .ok (.iload_n 2, 1) := by decide +kernel
theorem dX12_common_22 : decode cX12_common 22 = .ok (.ireturn, 1) := by decide +kernel
theorem dX12_common_3 : decode cX12_common 3 = .ok (.istore_n 3, 1) := by decide +kernel
theorem dX12_common_4 : decode cX12_common 4 = .ok (.iload_n 3, 1) := by decide +kernel
theorem dX12_common_5 : decode cX12_common 5 = .ok (.ifCond .eq 16, 3) := by decide +kernel
theorem dX12_common_8 : decode cX12_common 8 = .ok (.iload_n 2, 1) := by decide +kernel
theorem dX12_common_9 : decode cX12_common 9 = .ok (.iload_n 3, 1) := by decide +kernel
set_option maxHeartbeats 4000000 in
set_option maxRecDepth 100000 in
theorem w_X12_common (l : Launch) (D : va_G) (cI cS : ClassId) (x0 x1 : Int32) (px0 : Rg 0 479001600 x0) (px1 : Rg 1 479001600 x1) : Met l yX12_common wsX12_common ({ frames := 0, cells := 0, slots := 0, locals := 0 }) (PS D cI cS [] [.int x0, .int x1]) (vp_Si (fun r => Rg 1 479001600 r ∧ True)) 0 0 (fun _ => False) := by
  refine Met.ofW (cc := cX12_common) (maxL := 5) (ret := (some .int)) (by decide) rfl ?_
  intro p e s m args below meth c s₁ B hml hv
  obtain ⟨rfl, hP, hKK⟩ := hv
  have hx := B.exec
  have hb := B.bytes
  have hr := B.returns
  have hts := atoms_spec (ws := wsX12_common) B.pre
  have hown : s.vm.findClass RX12 = some m.cls := findClass_of_methodNamed B.named
  have hlocks := B.notSynchronized
  have hK := hKK.1
  have hl := lv_entry ([.int x0, .int x1]) (n := 5) (Nat.le_of_ble_eq_true rfl)
  rw [lg_entry_eq]
  generalize (lg_sl ([.int x0, .int x1]) ++ List.replicate (5 - (lg_sl ([.int x0, .int x1])).length) Slot.unset).toArray = ls at hl ⊢
  have hl : lv_has ls 5 [(0, .int x0), (1, .int x1)] := hl
  have lp4 : ∀ (n4 : Nat) (y4_l2 : Int32) (y4_l3 : Int32) (ls : Array Slot), Rg 0 479001600 y4_l2 → Rg 0 479001600 y4_l3 → (1 ≤ y4_l2.toInt ∨ 1 ≤ y4_l3.toInt) → lv_has ls 5 [(2, .int y4_l2), (3, .int y4_l3)] → y4_l3.toInt < (n4 : Int) → W p l e (headSpec wsX12_common ({ frames := 0, cells := 0, slots := 0, locals := 0 })).room s m ([.int x0, .int x1]).toArray below meth c s.heap [] 0 0 (MQ below (vp_Si (fun r => Rg 1 479001600 r ∧ True)) ([.int x0, .int x1]).toArray s 0 0 (fun _ => False)) (F0 m 4 ls []) := by
    intro n4
    induction n4 with
    | zero =>
      intro y4_l2 y4_l3 ls g4_l2 g4_l3 x4_0 hl hm4
      exact absurd rfl (me_0 g4_l3 (by decide) hm4)
    | succ n4 ih4 =>
      intro y4_l2 y4_l3 ls g4_l2 g4_l3 x4_0 hl hm4
      refine lv_iload_n hx hb dX12_common_4 rfl (lv_at hl 1 rfl) ?_
      refine lv_if_eq (tgt := 21) hx hb dX12_common_5 (by decide) (fun c28753 => ?_) (fun c28753 => ?_)
      · have g28754 : Rg 0 0 y4_l3 := wk_eql g4_l3 (by decide : Rg 0 0 (0 : Int32)) c28753 (by decide)
        have g28755 : Rg 1 479001600 y4_l2 := by have y90 : y4_l3.toInt = (0 : Int32).toInt := congrArg Int32.toInt c28753; have y91 : Rg 0 0 y4_l3 := g28754; have y92 : Rg 0 479001600 y4_l2 := g4_l2; have y93 : Rg 0 0 y4_l3 := g28754; have y94 : Rg 0 479001600 y4_l2 := g4_l2; have y9c5 : (0 : Int32).toInt = 0 := (by decide); have y9c6 : (1 : Int32).toInt = 1 := (by decide); exact ⟨by omega, by omega⟩
        refine lv_iload_n hx hb dX12_common_21 rfl (lv_at hl 0 rfl) ?_
        exact W.iret (v := y4_l2) hx hb hr (fun t ht hW => ⟨_, rfl, ⟨g28755, trivial⟩, ht⟩) (fun q hq => absurd hq List.not_mem_nil) dX12_common_22
      · have g28756 : Rg 1 479001600 y4_l3 := rg_ne_lo (k := 0) g4_l3 (by decide) c28753 (by decide)
        refine lv_iload_n hx hb dX12_common_8 rfl (lv_at hl 0 rfl) ?_
        refine lv_iload_n hx hb dX12_common_9 rfl (lv_at hl 1 rfl) ?_
        refine lv_irem hx hb dX12_common_10 (wk_nz g28756 (by decide)) ?_
        refine wk_remv g4_l2 g28756 (by decide) (fun r28757 hr28757 er28757 => ?_)
        refine lv_istore (lv' := [(4, .int r28757), (2, .int y4_l2), (3, .int y4_l3)]) hx hb dX12_common_11 hl (by decide) rfl (fun ls hl => ?_)
        refine lv_iload_n hx hb dX12_common_13 rfl (lv_at hl 2 rfl) ?_
        refine lv_istore_n (lv' := [(2, .int y4_l3), (4, .int r28757), (3, .int y4_l3)]) hx hb dX12_common_14 rfl hl (by decide) rfl (fun ls hl => ?_)
        refine lv_iload hx hb dX12_common_15 (lv_at hl 1 rfl) ?_
        refine lv_istore_n (lv' := [(3, .int r28757), (2, .int y4_l3), (4, .int r28757)]) hx hb dX12_common_17 rfl hl (by decide) rfl (fun ls hl => ?_)
        refine lv_goto (tgt := 4) hx hb dX12_common_18 (by decide) ?_
        exact ih4 y4_l3 r28757 ls (show Rg 0 479001600 y4_l3 from rg_w g28756 (by decide) (by decide)) (show Rg 0 479001600 r28757 from rg_w hr28757 (by decide) (by decide)) (show (1 ≤ y4_l3.toInt ∨ 1 ≤ r28757.toInt) from by have y90 : ¬ y4_l3.toInt = (0 : Int32).toInt := fun z => c28753 (Int32.toInt_inj.mp z); have y91 : Rg 1 479001600 y4_l3 := g28756; have y92 : Rg 1 479001600 y4_l3 := g28756; have y93 : Rg 0 479001599 r28757 := hr28757; have y94 : Rg 0 479001599 r28757 := hr28757; have y9c5 : (0 : Int32).toInt = 0 := (by decide); have y9c6 : (1 : Int32).toInt = 1 := (by decide); omega) (lv_sub (l' := [(2, .int y4_l3), (3, .int r28757)]) hl [1, 0] rfl) (me_lt hm4 er28757)
  refine lv_iload_n hx hb dX12_common_0 rfl (lv_at hl 0 rfl) ?_
  refine lv_istore_n (lv' := [(2, .int x0), (0, .int x0), (1, .int x1)]) hx hb dX12_common_1 rfl hl (by decide) rfl (fun ls hl => ?_)
  refine lv_iload_n hx hb dX12_common_2 rfl (lv_at hl 2 rfl) ?_
  refine lv_istore_n (lv' := [(3, .int x1), (2, .int x0), (0, .int x0), (1, .int x1)]) hx hb dX12_common_3 rfl hl (by decide) rfl (fun ls hl => ?_)
  exact lp4 479001601 x0 x1 ls px0 (show Rg 0 479001600 x1 from rg_w px1 (by decide) (by decide)) (show (1 ≤ x0.toInt ∨ 1 ≤ x1.toInt) from by have y90 : Rg 0 479001600 x0 := px0; have y91 : Rg 1 479001600 x1 := px1; have y92 : Rg 0 479001600 x0 := px0; have y93 : Rg 1 479001600 x1 := px1; have y9c4 : (0 : Int32).toInt = 0 := (by decide); have y9c5 : (1 : Int32).toInt = 1 := (by decide); omega) (lv_sub (l' := [(2, .int x0), (3, .int x1)]) hl [1, 0] rfl) (me_k (show Rg 0 479001600 x1 from rg_w px1 (by decide) (by decide)) (by decide))
set_option maxRecDepth 20000 in
theorem ggX12_alone_X12_all : GoodIn wsX12_alone wsX12_all := goodIn_r _ [20, 7, 34, 35, 36, 37, 38, 39, 40, 41, 42, 43, 44, 45, 46, 47, 48, 49, 50, 51, 52, 53, 54, 55, 56, 57] rfl (by decide +kernel)
set_option maxRecDepth 20000 in
theorem gX12_alone_X12_all : GoodIn wsX12_alone (wsV RX12 70 RX12 yX12_all wsX12_all) := goodIn_app (goodIn_of _ (by decide +kernel)) ggX12_alone_X12_all
set_option maxRecDepth 20000 in
theorem ggX12_alone_X12_common : GoodIn wsX12_alone wsX12_common := goodIn_r _ [33] rfl (by decide +kernel)
set_option maxRecDepth 20000 in
theorem gX12_alone_X12_common : GoodIn wsX12_alone (va_wsS RX12 122 yX12_common wsX12_common) := goodIn_app (goodIn_of _ (by decide +kernel)) ggX12_alone_X12_common
set_option maxRecDepth 20000 in
theorem ggX12_alone_X12_in : GoodIn wsX12_alone wsX12_in := goodIn_r _ [10] rfl (by decide +kernel)
set_option maxRecDepth 20000 in
theorem gX12_alone_X12_in : GoodIn wsX12_alone (va_wsS RX12 66 yX12_in wsX12_in) := goodIn_app (goodIn_of _ (by decide +kernel)) ggX12_alone_X12_in
set_option maxRecDepth 20000 in
theorem ggX12_alone_X12_isLoose : GoodIn wsX12_alone wsX12_isLoose := goodIn_r _ [30, 15, 17, 18, 19, 5, 20, 7, 34, 35, 36, 37, 38, 39, 40, 41, 42, 43, 44, 45, 46, 47, 48, 49, 50, 51, 52, 53, 54, 55, 56, 57] rfl (by decide +kernel)
set_option maxRecDepth 20000 in
theorem gX12_alone_X12_isLoose : GoodIn wsX12_alone (wsV RX12 119 RX12 yX12_isLoose wsX12_isLoose) := goodIn_app (goodIn_of _ (by decide +kernel)) ggX12_alone_X12_isLoose
set_option maxRecDepth 20000 in
theorem ggX12_alone_X12_reckons : GoodIn wsX12_alone wsX12_reckons := goodIn_r _ [14, 1, 15, 7, 16, 17, 18, 19, 5, 20, 21, 22, 23, 24, 25, 26, 34, 35, 36, 37, 38, 39, 40, 41, 42, 43, 44, 45, 46, 47, 48, 49, 50, 51, 52, 53, 54, 55, 56, 57] rfl (by decide +kernel)
set_option maxRecDepth 20000 in
theorem gX12_alone_X12_reckons : GoodIn wsX12_alone (wsV RX12 107 RX12 yX12_reckons wsX12_reckons) := goodIn_app (goodIn_of _ (by decide +kernel)) ggX12_alone_X12_reckons
theorem dX12_alone_10 : decode cX12_alone 10 = .ok (.iconst 1, 1) := by decide +kernel
theorem dX12_alone_11 : decode cX12_alone 11 = .ok (.invokestatic 66, 3) := by decide +kernel
theorem dX12_alone_14 : decode cX12_alone 14 = .ok (.ifCond .ne 6, 3) := by decide +kernel
theorem dX12_alone_20 : decode cX12_alone 20 = .ok (.aload_n 0, 1) := by decide +kernel
theorem dX12_alone_21 : decode cX12_alone 21 = .ok (.invokevirtual 107, 3) := by decide +kernel
theorem dX12_alone_24 : decode cX12_alone 24 = .ok (.aload_n 0, 1) := by decide +kernel
theorem dX12_alone_25 : decode cX12_alone 25 = .ok (.iload_n 1, 1) := by decide +kernel
theorem dX12_alone_26 : decode cX12_alone 26 = .ok (.invokevirtual 119, 3) := by decide +kernel
theorem dX12_alone_29 : decode cX12_alone 29 = .ok (.ifCond .eq 21, 3) := by decide +kernel
theorem dX12_alone_32 : decode cX12_alone 32 = .ok (.aload_n 0, 1) := by decide +kernel
theorem dX12_alone_33 : decode cX12_alone 33 = .ok (.getfield 20, 3) := by decide +kernel
theorem dX12_alone_36 : decode cX12_alone 36 = .ok (.aload_n 0, 1) := by decide +kernel
theorem dX12_alone_37 : decode cX12_alone 37 = .ok (.invokevirtual 70, 3) := by decide +kernel
theorem dX12_alone_40 : decode cX12_alone 40 = .ok (.iconst 1, 1) := by decide +kernel
theorem dX12_alone_41 : decode cX12_alone 41 = .ok (.iload_n 1, 1) := by decide +kernel
theorem dX12_alone_42 : decode cX12_alone 42 = .ok (.ishl, 1) := by decide +kernel
theorem dX12_alone_43 : decode cX12_alone 43 = .ok (.iconst (-1), 1) := by decide +kernel
theorem dX12_alone_44 : decode cX12_alone 44 = .ok (.ixor, 1) := by decide +kernel
theorem dX12_alone_45 : decode cX12_alone 45 = .ok (.iand, 1) := by decide +kernel
theorem dX12_alone_46 : decode cX12_alone 46 = .ok (.iaload, 1) := by decide +kernel
theorem dX12_alone_47 : decode cX12_alone 47 = .ok (.goto 4, 3) := by decide +kernel
theorem dX12_alone_50 : decode cX12_alone 50 = .ok (.iconst 0, 1) := by decide +kernel
theorem dX12_alone_51 : decode cX12_alone 51 = .ok (.istore_n 3, 1) := by decide +kernel
theorem dX12_alone_52 : decode cX12_alone 52 = .ok (.aload_n 0, 1) := by decide +kernel
theorem dX12_alone_53 : decode cX12_alone 53 = .ok (.getfield 20, 3) := by decide +kernel
theorem dX12_alone_56 : decode cX12_alone 56 = .ok (.aload_n 0, 1) := by decide +kernel
theorem dX12_alone_57 : decode cX12_alone 57 = .ok (.invokevirtual 70, 3) := by decide +kernel
theorem dX12_alone_60 : decode cX12_alone 60 = .ok (.iaload, 1) := by decide +kernel
theorem dX12_alone_61 : decode cX12_alone 61 = .ok (.istore 4, 2) := by decide +kernel
theorem dX12_alone_63 : decode cX12_alone 63 = .ok (.iload_n 2, 1) := by decide +kernel
theorem dX12_alone_64 : decode cX12_alone 64 = .ok (.ifCond .ne 7, 3) := by decide +kernel
theorem dX12_alone_67 : decode cX12_alone 67 = .ok (.iload_n 3, 1) := by decide +kernel
theorem dX12_alone_68 : decode cX12_alone 68 = .ok (.goto 5, 3) := by decide +kernel
theorem dX12_alone_71 : decode cX12_alone 71 = .ok (.iload 4, 2) := by decide +kernel
theorem dX12_alone_73 : decode cX12_alone 73 = .ok (.iload_n 3, 1) := by decide +kernel
theorem dX12_alone_74 : decode cX12_alone 74 = .ok (.iload 4, 2) := by decide +kernel
theorem dX12_alone_76 : decode cX12_alone 76 = .ok (.invokestatic 122, 3) := by decide +kernel
theorem dX12_alone_79 : decode cX12_alone 79 = .ok (.idiv, 1) := by decide +kernel
theorem dX12_alone_8 : decode cX12_alone 8 = .ok (.iload_n 2, 1) := by decide +kernel
theorem dX12_alone_80 : decode cX12_alone 80 = .ok (.ireturn, 1) := by decide +kernel
theorem dX12_alone_9 : decode cX12_alone 9 = .ok (.iconst 0, 1) := by decide +kernel
set_option maxHeartbeats 4000000 in
set_option maxRecDepth 100000 in
theorem w_X12_alone (l : Launch) (D : va_G) (cI cS : ClassId) (sz : Nat) (b : Nat → Nat) (L v0 : SU) (hL : TyL L) (hV : TyV v0) (x0 x1 : Int32) : Met l yX12_alone wsX12_alone ({ frames := 3, cells := 0, slots := 0, locals := 120 }) (PQ D cI cS (wM cI b L v0) sz [.ref (b 0), .int x0, .int x1]) (QF (S := SU) D (wM cI b L v0) (wM cI b L) sz (fun r u => TyV u ∧ Rg (-2147483648) 2147483647 r ∧ True)) 0 0 (va_A (wM cI b L v0) sz) := by
  refine Met.ofW (cc := cX12_alone) (maxL := 5) (ret := (some .int)) (by decide) rfl ?_
  intro p e s m args below meth c s₁ B hml hv
  obtain ⟨rfl, hsz, hP, hKK, hD0⟩ := hv
  have hx := B.exec
  have hb := B.bytes
  have hr := B.returns
  have hts := atoms_spec (ws := wsX12_alone) B.pre
  have hown : s.vm.findClass RX12 = some m.cls := findClass_of_methodNamed B.named
  have hlocks := B.notSynchronized
  have hK := hKK.1
  have hin12 : ∀ w ∈ wsX120, w ∈ wsX12_alone := by decide +kernel
  subst hsz
  have hD := hD0.self (sz := s.heap.size)
  obtain ⟨A, hAe⟩ : ∃ A, A = va_A (wM cI b L v0) s.heap.size := ⟨_, rfl⟩
  rw [← hAe] at hD
  have hA : ∀ q : Nat, s.heap.size ≤ q → A q := fun q h => by rw [hAe]; exact Or.inr h
  have hS : va_S A s.heap s.heap [] := va_S.rf
  have hl := lv_entry ([.ref (b 0), .int x0, .int x1]) (n := 5) (Nat.le_of_ble_eq_true rfl)
  rw [lg_entry_eq]
  generalize (lg_sl ([.ref (b 0), .int x0, .int x1]) ++ List.replicate (5 - (lg_sl ([.ref (b 0), .int x0, .int x1])).length) Slot.unset).toArray = ls at hl ⊢
  have hl : lv_has ls 5 [(0, .ref (b 0)), (1, .int x0), (2, .int x1)] := hl
  obtain ⟨v, hv9⟩ : ∃ v : SU, v = v0 := ⟨_, rfl⟩
  rw [← hv9] at hP hD hV
  refine lv_aload_n hx hb dX12_alone_0 rfl (lv_at hl 0 rfl) ?_
  refine lv_iload_n hx hb dX12_alone_1 rfl (lv_at hl 1 rfl) ?_
  refine wk_sv 0 (As := [.int x0]) (rest := []) ⟨hx, hb, hml, hown, hts⟩ (w_X12_isPoint l D cI cS b L v hL hV x0) hKK hP (ci := 12) rfl rfl (cwV 1 hts gX12_alone_X12_isPoint rfl rfl rfl (by decide +kernel) ⟨Nat.le_of_ble_eq_true rfl, Nat.le_of_ble_eq_true rfl⟩) rfl hl.1 rfl (Nat.le_of_ble_eq_true rfl) dX12_alone_2 ⟨Nat.le_of_ble_eq_true rfl, Nat.le_of_ble_eq_true rfl⟩ (fun r28802 hr28802 => ?_)
  refine lv_if_eq (tgt := 17) hx hb dX12_alone_5 (by decide) (fun c28803 => ?_) (fun c28803 => ?_)
  · have zt28804 : (x0.toInt < 0 ∨ (L 0 0).toInt - 1 < x0.toInt) := hr28802.2.2 c28803
    have g28805 : Rg 0 0 r28802 := wk_eql hr28802.1 (by decide : Rg 0 0 (0 : Int32)) c28803 (by decide)
    refine lv_bipush (v := (-2)) hx hb dX12_alone_17 (by decide) ?_
    subst hAe
    exact W.iret (v := (-2)) hx hb hr (fun t ht hW => ⟨⟨_, v, rfl, ⟨hV, (by decide : Rg (-2147483648) 2147483647 ((-2) : Int32)), trivial⟩, by rw [ht]; exact hP, hD⟩, hS.F ht⟩) hS.2.2 dX12_alone_19
  · have g28806 : Rg 0 11 x0 := (hr28802.2.1 c28803)
    have g28807 : Rg 1 1 r28802 := rg_ne_lo (k := 0) hr28802.1 (by decide) c28803 (by decide)
    refine lv_iload_n hx hb dX12_alone_8 rfl (lv_at hl 2 rfl) ?_
    refine lv_iconst (v := 0) hx hb dX12_alone_9 (by decide) ?_
    refine lv_iconst (v := 1) hx hb dX12_alone_10 (by decide) ?_
    refine lz_ss (As := [.int x1, .int 0, .int 1]) (rest := []) ⟨hx, hb, hml, hown, hts⟩ (w_X12_in l D cI cS x1 (0 : Int32) (1 : Int32)) hKK (hP.sub (ws' := []) [] rfl) (va_cwS 3 hts gX12_alone_X12_in rfl rfl rfl (by decide +kernel) ⟨Nat.le_of_ble_eq_true rfl, Nat.le_of_ble_eq_true rfl⟩) rfl hl.1 rfl (Nat.le_of_ble_eq_true rfl) dX12_alone_11 ⟨Nat.le_of_ble_eq_true rfl, Nat.le_of_ble_eq_true rfl⟩ (fun r28808 hr28808 => ?_)
    refine lv_if_ne (tgt := 20) hx hb dX12_alone_14 (by decide) (fun c28809 => ?_) (fun c28809 => ?_)
    · have zn28810 : (0 : Int32).toInt ≤ x1.toInt ∧ x1.toInt ≤ (1 : Int32).toInt := (hr28808.2.2 c28809)
      have g28811 : Rg 0 1 x1 := wk_in3 (rg_any x1) (by decide : Rg 0 0 (0 : Int32)) (by decide : Rg 1 1 (1 : Int32)) (hr28808.2.2 c28809) (by decide)
      have g28812 : Rg 1 1 r28808 := rg_ne_lo (k := 0) hr28808.1 (by decide) c28809 (by decide)
      refine lv_aload_n hx hb dX12_alone_20 rfl (lv_at hl 0 rfl) ?_
      refine wk_qv (wM cI b L) v (As := []) (rest := []) ⟨hx, hb, hml, hown, hts⟩ (w_X12_reckons_W l D cI cS _ b L v hL hV) hKK hP hD hS hA 0 (ci := 12) rfl rfl (cwV 0 hts gX12_alone_X12_reckons rfl rfl rfl (by decide +kernel) ⟨Nat.le_of_ble_eq_true rfl, Nat.le_of_ble_eq_true rfl⟩) rfl hl.1 rfl (Nat.le_of_ble_eq_true rfl) dX12_alone_21 ⟨Nat.le_of_ble_eq_true rfl, Nat.le_of_ble_eq_true rfl⟩ (fun v H locs hr28813 hP hD hS => ?_)
      have hV := hr28813.1
      have hWW := hr28813.2
      refine lv_aload_n hx hb dX12_alone_24 rfl (lv_at hl 0 rfl) ?_
      refine lv_iload_n hx hb dX12_alone_25 rfl (lv_at hl 1 rfl) ?_
      refine wk_sv 0 (As := [.int x0]) (rest := []) ⟨hx, hb, hml, hown, hts⟩ (w_X12_isLoose l D cI cS b L v hL hV x0) hKK hP (ci := 12) rfl rfl (cwV 1 hts gX12_alone_X12_isLoose rfl rfl rfl (by decide +kernel) ⟨Nat.le_of_ble_eq_true rfl, Nat.le_of_ble_eq_true rfl⟩) rfl hl.1 rfl (Nat.le_of_ble_eq_true rfl) dX12_alone_26 ⟨Nat.le_of_ble_eq_true rfl, Nat.le_of_ble_eq_true rfl⟩ (fun r28814 hr28814 => ?_)
      refine lv_if_eq (tgt := 50) hx hb dX12_alone_29 (by decide) (fun c28815 => ?_) (fun c28815 => ?_)
      · have g28816 : Rg 0 0 r28814 := wk_eql hr28814.1 (by decide : Rg 0 0 (0 : Int32)) c28815 (by decide)
        refine lv_iconst (v := 0) hx hb dX12_alone_50 (by decide) ?_
        refine lv_istore_n (lv' := [(3, .int 0), (0, .ref (b 0)), (1, .int x0), (2, .int x1)]) hx hb dX12_alone_51 rfl hl (by decide) rfl (fun ls hl => ?_)
        refine lv_aload_n hx hb dX12_alone_52 rfl (lv_at hl 1 rfl) ?_
        refine va_get (D := D) (ci := 12) (v := .ref (b 3)) (C := RX12) (T := TX12) (N := 24) hx hb hts hin12 hown hK hP 0 rfl rfl 4 (by decide) (hts (.fieldLink RX12 20 "MissedPointsModel" "greatestWays" "[I") (by decide +kernel)) (fun _ h9 => h9) rfl dX12_alone_53 ?_
        refine lv_aload_n hx hb dX12_alone_56 rfl (lv_at hl 1 rfl) ?_
        refine wk_sv 0 (As := []) (rest := [.ref (b 3)]) ⟨hx, hb, hml, hown, hts⟩ (w_X12_all l D cI cS b L v hL hV) hKK hP (ci := 12) rfl rfl (cwV 0 hts gX12_alone_X12_all rfl rfl rfl (by decide +kernel) ⟨Nat.le_of_ble_eq_true rfl, Nat.le_of_ble_eq_true rfl⟩) rfl hl.1 rfl (Nat.le_of_ble_eq_true rfl) dX12_alone_57 ⟨Nat.le_of_ble_eq_true rfl, Nat.le_of_ble_eq_true rfl⟩ (fun r28817 hr28817 => ?_)
        refine va_iald hx hb hK hP 3 0 rfl rfl (rg_in hr28817.1 (by decide) (by decide)) dX12_alone_60 ?_
        refine lz_top (y := (v 3 r28817.toNatClampNeg)) rfl ?_
        have g28819 : Rg 1 479001600 (v 3 r28817.toNatClampNeg) := hWW _ (by rw [← hr28817.2]; exact cl_le hr28817.1.1 (Int.le_refl _))
        refine lv_istore (lv' := [(4, .int (v 3 r28817.toNatClampNeg)), (3, .int 0), (0, .ref (b 0)), (1, .int x0), (2, .int x1)]) hx hb dX12_alone_61 hl (by decide) rfl (fun ls hl => ?_)
        refine lv_iload_n hx hb dX12_alone_63 rfl (lv_at hl 4 rfl) ?_
        refine lv_if_ne (tgt := 71) hx hb dX12_alone_64 (by decide) (fun c28820 => ?_) (fun c28820 => ?_)
        · have g28821 : Rg 1 1 x1 := rg_ne_lo (k := 0) g28811 (by decide) c28820 (by decide)
          refine lv_iload hx hb dX12_alone_71 (lv_at hl 0 rfl) ?_
          refine lv_iload_n hx hb dX12_alone_73 rfl (lv_at hl 1 rfl) ?_
          refine lv_iload hx hb dX12_alone_74 (lv_at hl 0 rfl) ?_
          refine lz_ss (As := [.int 0, .int (v 3 r28817.toNatClampNeg)]) (rest := [.int (v 3 r28817.toNatClampNeg)]) ⟨hx, hb, hml, hown, hts⟩ (w_X12_common l D cI cS (0 : Int32) (v 3 r28817.toNatClampNeg) (by decide : Rg 0 479001600 (0 : Int32)) g28819) hKK (hP.sub (ws' := []) [] rfl) (va_cwS 2 hts gX12_alone_X12_common rfl rfl rfl (by decide +kernel) ⟨Nat.le_of_ble_eq_true rfl, Nat.le_of_ble_eq_true rfl⟩) rfl hl.1 rfl (Nat.le_of_ble_eq_true rfl) dX12_alone_76 ⟨Nat.le_of_ble_eq_true rfl, Nat.le_of_ble_eq_true rfl⟩ (fun r28822 hr28822 => ?_)
          refine lv_idiv hx hb dX12_alone_79 (wk_nz hr28822.1 (by decide)) ?_
          refine wk_any (fun r28823 => ?_)
          subst hAe
          exact W.iret (v := r28823) hx hb hr (fun t ht hW => ⟨⟨_, v, rfl, ⟨hV, (rg_any r28823), trivial⟩, by rw [ht]; exact hP, hD⟩, hS.F ht⟩) hS.2.2 dX12_alone_80
        · have g28824 : Rg 0 0 x1 := wk_eql g28811 (by decide : Rg 0 0 (0 : Int32)) c28820 (by decide)
          refine lv_iload_n hx hb dX12_alone_67 rfl (lv_at hl 1 rfl) ?_
          refine lv_goto (tgt := 73) hx hb dX12_alone_68 (by decide) ?_
          refine lv_iload_n hx hb dX12_alone_73 rfl (lv_at hl 1 rfl) ?_
          refine lv_iload hx hb dX12_alone_74 (lv_at hl 0 rfl) ?_
          refine lz_ss (As := [.int 0, .int (v 3 r28817.toNatClampNeg)]) (rest := [.int 0]) ⟨hx, hb, hml, hown, hts⟩ (w_X12_common l D cI cS (0 : Int32) (v 3 r28817.toNatClampNeg) (by decide : Rg 0 479001600 (0 : Int32)) g28819) hKK (hP.sub (ws' := []) [] rfl) (va_cwS 2 hts gX12_alone_X12_common rfl rfl rfl (by decide +kernel) ⟨Nat.le_of_ble_eq_true rfl, Nat.le_of_ble_eq_true rfl⟩) rfl hl.1 rfl (Nat.le_of_ble_eq_true rfl) dX12_alone_76 ⟨Nat.le_of_ble_eq_true rfl, Nat.le_of_ble_eq_true rfl⟩ (fun r28825 hr28825 => ?_)
          refine lv_idiv hx hb dX12_alone_79 (wk_nz hr28825.1 (by decide)) ?_
          refine wk_any (fun r28826 => ?_)
          subst hAe
          exact W.iret (v := r28826) hx hb hr (fun t ht hW => ⟨⟨_, v, rfl, ⟨hV, (rg_any r28826), trivial⟩, by rw [ht]; exact hP, hD⟩, hS.F ht⟩) hS.2.2 dX12_alone_80
      · have g28827 : Rg 1 1 r28814 := rg_ne_lo (k := 0) hr28814.1 (by decide) c28815 (by decide)
        refine lv_aload_n hx hb dX12_alone_32 rfl (lv_at hl 0 rfl) ?_
        refine va_get (D := D) (ci := 12) (v := .ref (b 3)) (C := RX12) (T := TX12) (N := 24) hx hb hts hin12 hown hK hP 0 rfl rfl 4 (by decide) (hts (.fieldLink RX12 20 "MissedPointsModel" "greatestWays" "[I") (by decide +kernel)) (fun _ h9 => h9) rfl dX12_alone_33 ?_
        refine lv_aload_n hx hb dX12_alone_36 rfl (lv_at hl 0 rfl) ?_
        refine wk_sv 0 (As := []) (rest := [.ref (b 3)]) ⟨hx, hb, hml, hown, hts⟩ (w_X12_all l D cI cS b L v hL hV) hKK hP (ci := 12) rfl rfl (cwV 0 hts gX12_alone_X12_all rfl rfl rfl (by decide +kernel) ⟨Nat.le_of_ble_eq_true rfl, Nat.le_of_ble_eq_true rfl⟩) rfl hl.1 rfl (Nat.le_of_ble_eq_true rfl) dX12_alone_37 ⟨Nat.le_of_ble_eq_true rfl, Nat.le_of_ble_eq_true rfl⟩ (fun r28828 hr28828 => ?_)
        refine lv_iconst (v := 1) hx hb dX12_alone_40 (by decide) ?_
        refine lv_iload_n hx hb dX12_alone_41 rfl (lv_at hl 1 rfl) ?_
        refine wk_ishl1 (f := 2048) hx hb dX12_alone_42 g28806 (by decide) (fun r28829 hr28829 qr28829 => ?_)
        refine lv_iconst (v := (-1)) hx hb dX12_alone_43 (by decide) ?_
        refine lv_ixor hx hb dX12_alone_44 ?_
        refine wk_topP (P := fun r => r = r28829 ^^^ ((-1) : Int32)) rfl (fun r28830 qr28830 => ?_)
        refine wk_iandl hx hb dX12_alone_45 hr28828.1 (by decide) (fun r28831 hr28831 qr28831 => ?_)
        refine va_iald hx hb hK hP 3 0 rfl rfl (rg_in hr28831 (by decide) (by decide)) dX12_alone_46 ?_
        refine lz_top (y := (v 3 r28831.toNatClampNeg)) rfl ?_
        have g28833 : Rg 1 479001600 (v 3 r28831.toNatClampNeg) := hWW _ (by rw [← hr28828.2]; exact cl_le hr28831.1 ((by rw [qr28831]; exact an_le hr28828.1.1)))
        refine lv_goto (tgt := 51) hx hb dX12_alone_47 (by decide) ?_
        refine lv_istore_n (lv' := [(3, .int (v 3 r28831.toNatClampNeg)), (0, .ref (b 0)), (1, .int x0), (2, .int x1)]) hx hb dX12_alone_51 rfl hl (by decide) rfl (fun ls hl => ?_)
        refine lv_aload_n hx hb dX12_alone_52 rfl (lv_at hl 1 rfl) ?_
        refine va_get (D := D) (ci := 12) (v := .ref (b 3)) (C := RX12) (T := TX12) (N := 24) hx hb hts hin12 hown hK hP 0 rfl rfl 4 (by decide) (hts (.fieldLink RX12 20 "MissedPointsModel" "greatestWays" "[I") (by decide +kernel)) (fun _ h9 => h9) rfl dX12_alone_53 ?_
        refine lv_aload_n hx hb dX12_alone_56 rfl (lv_at hl 1 rfl) ?_
        refine wk_sv 0 (As := []) (rest := [.ref (b 3)]) ⟨hx, hb, hml, hown, hts⟩ (w_X12_all l D cI cS b L v hL hV) hKK hP (ci := 12) rfl rfl (cwV 0 hts gX12_alone_X12_all rfl rfl rfl (by decide +kernel) ⟨Nat.le_of_ble_eq_true rfl, Nat.le_of_ble_eq_true rfl⟩) rfl hl.1 rfl (Nat.le_of_ble_eq_true rfl) dX12_alone_57 ⟨Nat.le_of_ble_eq_true rfl, Nat.le_of_ble_eq_true rfl⟩ (fun r28834 hr28834 => ?_)
        refine va_iald hx hb hK hP 3 0 rfl rfl (rg_in hr28834.1 (by decide) (by decide)) dX12_alone_60 ?_
        refine lz_top (y := (v 3 r28834.toNatClampNeg)) rfl ?_
        have g28836 : Rg 1 479001600 (v 3 r28834.toNatClampNeg) := hWW _ (by rw [← hr28834.2]; exact cl_le hr28834.1.1 (Int.le_refl _))
        refine lv_istore (lv' := [(4, .int (v 3 r28834.toNatClampNeg)), (3, .int (v 3 r28831.toNatClampNeg)), (0, .ref (b 0)), (1, .int x0), (2, .int x1)]) hx hb dX12_alone_61 hl (by decide) rfl (fun ls hl => ?_)
        refine lv_iload_n hx hb dX12_alone_63 rfl (lv_at hl 4 rfl) ?_
        refine lv_if_ne (tgt := 71) hx hb dX12_alone_64 (by decide) (fun c28837 => ?_) (fun c28837 => ?_)
        · have g28838 : Rg 1 1 x1 := rg_ne_lo (k := 0) g28811 (by decide) c28837 (by decide)
          refine lv_iload hx hb dX12_alone_71 (lv_at hl 0 rfl) ?_
          refine lv_iload_n hx hb dX12_alone_73 rfl (lv_at hl 1 rfl) ?_
          refine lv_iload hx hb dX12_alone_74 (lv_at hl 0 rfl) ?_
          refine lz_ss (As := [.int (v 3 r28831.toNatClampNeg), .int (v 3 r28834.toNatClampNeg)]) (rest := [.int (v 3 r28834.toNatClampNeg)]) ⟨hx, hb, hml, hown, hts⟩ (w_X12_common l D cI cS (v 3 r28831.toNatClampNeg) (v 3 r28834.toNatClampNeg) (show Rg 0 479001600 (v 3 r28831.toNatClampNeg) from rg_w g28833 (by decide) (by decide)) g28836) hKK (hP.sub (ws' := []) [] rfl) (va_cwS 2 hts gX12_alone_X12_common rfl rfl rfl (by decide +kernel) ⟨Nat.le_of_ble_eq_true rfl, Nat.le_of_ble_eq_true rfl⟩) rfl hl.1 rfl (Nat.le_of_ble_eq_true rfl) dX12_alone_76 ⟨Nat.le_of_ble_eq_true rfl, Nat.le_of_ble_eq_true rfl⟩ (fun r28839 hr28839 => ?_)
          refine lv_idiv hx hb dX12_alone_79 (wk_nz hr28839.1 (by decide)) ?_
          refine wk_any (fun r28840 => ?_)
          subst hAe
          exact W.iret (v := r28840) hx hb hr (fun t ht hW => ⟨⟨_, v, rfl, ⟨hV, (rg_any r28840), trivial⟩, by rw [ht]; exact hP, hD⟩, hS.F ht⟩) hS.2.2 dX12_alone_80
        · have g28841 : Rg 0 0 x1 := wk_eql g28811 (by decide : Rg 0 0 (0 : Int32)) c28837 (by decide)
          refine lv_iload_n hx hb dX12_alone_67 rfl (lv_at hl 1 rfl) ?_
          refine lv_goto (tgt := 73) hx hb dX12_alone_68 (by decide) ?_
          refine lv_iload_n hx hb dX12_alone_73 rfl (lv_at hl 1 rfl) ?_
          refine lv_iload hx hb dX12_alone_74 (lv_at hl 0 rfl) ?_
          refine lz_ss (As := [.int (v 3 r28831.toNatClampNeg), .int (v 3 r28834.toNatClampNeg)]) (rest := [.int (v 3 r28831.toNatClampNeg)]) ⟨hx, hb, hml, hown, hts⟩ (w_X12_common l D cI cS (v 3 r28831.toNatClampNeg) (v 3 r28834.toNatClampNeg) (show Rg 0 479001600 (v 3 r28831.toNatClampNeg) from rg_w g28833 (by decide) (by decide)) g28836) hKK (hP.sub (ws' := []) [] rfl) (va_cwS 2 hts gX12_alone_X12_common rfl rfl rfl (by decide +kernel) ⟨Nat.le_of_ble_eq_true rfl, Nat.le_of_ble_eq_true rfl⟩) rfl hl.1 rfl (Nat.le_of_ble_eq_true rfl) dX12_alone_76 ⟨Nat.le_of_ble_eq_true rfl, Nat.le_of_ble_eq_true rfl⟩ (fun r28842 hr28842 => ?_)
          refine lv_idiv hx hb dX12_alone_79 (wk_nz hr28842.1 (by decide)) ?_
          refine wk_any (fun r28843 => ?_)
          subst hAe
          exact W.iret (v := r28843) hx hb hr (fun t ht hW => ⟨⟨_, v, rfl, ⟨hV, (rg_any r28843), trivial⟩, by rw [ht]; exact hP, hD⟩, hS.F ht⟩) hS.2.2 dX12_alone_80
    · have zt28844 : (x1.toInt < (0 : Int32).toInt ∨ (1 : Int32).toInt < x1.toInt) := hr28808.2.1 c28809
      have g28845 : Rg 0 0 r28808 := wk_eql hr28808.1 (by decide : Rg 0 0 (0 : Int32)) c28809 (by decide)
      refine lv_bipush (v := (-2)) hx hb dX12_alone_17 (by decide) ?_
      subst hAe
      exact W.iret (v := (-2)) hx hb hr (fun t ht hW => ⟨⟨_, v, rfl, ⟨hV, (by decide : Rg (-2147483648) 2147483647 ((-2) : Int32)), trivial⟩, by rw [ht]; exact hP, hD⟩, hS.F ht⟩) hS.2.2 dX12_alone_19
theorem w_X12_bits_E (l : Launch) (D : va_G) (cI cS : ClassId) (x0 : Int32) (px0 : Rg 0 4095 x0) : Met l yX12_bits wsX12_bits ({ frames := 0, cells := 0, slots := 0, locals := 0 }) (PS D cI cS [] [.int x0]) (vp_Si (fun r => Rg 0 12 r ∧ r = bc x0)) 0 0 (fun _ => False) := by
  have h9 := bc_rng px0
  obtain ⟨n, hn, rfl, e⟩ := rg_nat px0.1
  have h2 := px0.2
  refine met_si (c_bits l D cI cS n (by omega)) (fun r hr => ⟨?_, hr⟩)
  rw [hr]
  exact h9
set_option maxHeartbeats 4000000 in
set_option maxRecDepth 100000 in
theorem w_X12_isCritical_E (l : Launch) (D : va_G) (cI cS : ClassId) (b : Nat → Nat) (L v : SU) (hL : TyL L) (hV : TyV v) (x0 : Int32) (px0 : Rg 0 4095 x0) : Met l yX12_isCritical wsX12_isCritical ({ frames := 1, cells := 0, slots := 0, locals := 40 }) (PS D cI cS (wM cI b L v) [.ref (b 0), .int x0]) (vp_Si (fun r => Rg 0 1 r ∧ ((r ≠ 0 → CRT v (L 0 0) x0) ∧ (r = 0 → ¬ CRT v (L 0 0) x0)))) 0 0 (fun _ => False) := by
  refine Met.ofW (cc := cX12_isCritical) (maxL := 4) (ret := (some .boolean)) (by decide) rfl ?_
  intro p e s m args below meth c s₁ B hml hv
  obtain ⟨rfl, hP, hKK⟩ := hv
  have hx := B.exec
  have hb := B.bytes
  have hr := B.returns
  have hts := atoms_spec (ws := wsX12_isCritical) B.pre
  have hown : s.vm.findClass RX12 = some m.cls := findClass_of_methodNamed B.named
  have hlocks := B.notSynchronized
  have hK := hKK.1
  have hin12 : ∀ w ∈ wsX120, w ∈ wsX12_isCritical := by decide +kernel
  have hl := lv_entry ([.ref (b 0), .int x0]) (n := 4) (Nat.le_of_ble_eq_true rfl)
  rw [lg_entry_eq]
  generalize (lg_sl ([.ref (b 0), .int x0]) ++ List.replicate (4 - (lg_sl ([.ref (b 0), .int x0])).length) Slot.unset).toArray = ls at hl ⊢
  have hl : lv_has ls 4 [(0, .ref (b 0)), (1, .int x0)] := hl
  have lp18 : ∀ (n18 : Nat) (y18_l2 : Int32) (y18_l3 : Int32) (ls : Array Slot), Rg 0 4095 x0 → Rg 0 1 y18_l2 → Rg 0 12 y18_l3 → ICx v (L 0 0) x0 y18_l2 y18_l3 → lv_has ls 4 [(0, .ref (b 0)), (1, .int x0), (2, .int y18_l2), (3, .int y18_l3)] → 12 - y18_l3.toInt < (n18 : Int) → W p l e (headSpec wsX12_isCritical ({ frames := 1, cells := 0, slots := 0, locals := 40 })).room s m ([.ref (b 0), .int x0]).toArray below meth c s.heap [] 0 0 (MQ below (vp_Si (fun r => Rg 0 1 r ∧ ((r ≠ 0 → CRT v (L 0 0) x0) ∧ (r = 0 → ¬ CRT v (L 0 0) x0)))) ([.ref (b 0), .int x0]).toArray s 0 0 (fun _ => False)) (F0 m 18 ls []) := by
    intro n18
    induction n18 with
    | zero =>
      intro y18_l2 y18_l3 ls g18_l1 g18_l2 g18_l3 x18_0 hl hm18
      exact absurd rfl (me_z g18_l3 hm18)
    | succ n18 ih18 =>
      intro y18_l2 y18_l3 ls g18_l1 g18_l2 g18_l3 x18_0 hl hm18
      refine lv_iload_n hx hb dX12_isCritical_18 rfl (lv_at hl 3 rfl) ?_
      refine lv_aload_n hx hb dX12_isCritical_19 rfl (lv_at hl 0 rfl) ?_
      refine va_get (D := D) (ci := 12) (v := .int (L 0 0)) (C := RX12) (T := TX12) (N := 24) hx hb hts hin12 hown hK hP 0 rfl rfl 0 (by decide) (hts (.fieldLink RX12 63 "MissedPointsModel" "many" "I") (by decide +kernel)) (fun _ h9 => h9) rfl dX12_isCritical_20 ?_
      refine lv_icmp_ge (tgt := 73) hx hb dX12_isCritical_23 (by decide) (fun c29086 => ?_) (fun c29086 => ?_)
      · refine lv_iload_n hx hb dX12_isCritical_73 rfl (lv_at hl 2 rfl) ?_
        exact W.zret (v := y18_l2) hx hb hr (wk_nb g18_l2) (fun t ht hW => ⟨_, rfl, ⟨g18_l2, (ic_5 x18_0 ((lz_le _ _).mp c29086))⟩, ht⟩) (fun q hq => absurd hq List.not_mem_nil) dX12_isCritical_74
      · have g29087 : Rg 1 12 (L 0 0) := rg_ltr g18_l3 hL.1 (rg_nle c29086) (by decide)
        have g29088 : Rg 0 11 y18_l3 := rg_ltl g18_l3 hL.1 (rg_nle c29086) (by decide)
        refine lv_iload_n hx hb dX12_isCritical_26 rfl (lv_at hl 2 rfl) ?_
        refine lv_if_eq (tgt := 65) hx hb dX12_isCritical_27 (by decide) (fun c29089 => ?_) (fun c29089 => ?_)
        · have g29090 : Rg 0 0 y18_l2 := wk_eql g18_l2 (by decide : Rg 0 0 (0 : Int32)) c29089 (by decide)
          refine lv_iconst (v := 0) hx hb dX12_isCritical_65 (by decide) ?_
          refine lv_istore_n (lv' := [(2, .int 0), (0, .ref (b 0)), (1, .int x0), (3, .int y18_l3)]) hx hb dX12_isCritical_66 rfl hl (by decide) rfl (fun ls hl => ?_)
          refine wk_iinc (lv' := fun r => [(3, .int r), (2, .int 0), (0, .ref (b 0)), (1, .int x0)]) (e1 := 1) (f := 12) hx hb dX12_isCritical_67 hl (k := 3) rfl (by decide) g29088 (by decide) (fun _ => rfl) (fun r29091 ls hr29091 er29091 hl => ?_)
          refine lv_goto (tgt := 18) hx hb dX12_isCritical_70 (by decide) ?_
          exact ih18 (0 : Int32) r29091 ls g18_l1 (by decide : Rg 0 1 (0 : Int32)) (show Rg 0 12 r29091 from rg_w hr29091 (by decide) (by decide)) (by exact ic_2 x18_0 c29089) (lv_sub (l' := [(0, .ref (b 0)), (1, .int x0), (2, .int 0), (3, .int r29091)]) hl [2, 3, 1, 0] rfl) (me_up hm18 er29091 (by decide))
        · have g29092 : Rg 1 1 y18_l2 := rg_ne_lo (k := 0) g18_l2 (by decide) c29089 (by decide)
          refine lv_iload_n hx hb dX12_isCritical_30 rfl (lv_at hl 1 rfl) ?_
          refine lv_iload_n hx hb dX12_isCritical_31 rfl (lv_at hl 3 rfl) ?_
          refine lz_ss (As := [.int x0, .int y18_l3]) (rest := []) ⟨hx, hb, hml, hown, hts⟩ (w_X12_has l D cI cS x0 y18_l3) hKK (hP.sub (ws' := []) [] rfl) (va_cwS 2 hts gX12_isCritical_X12_has rfl rfl rfl (by decide +kernel) ⟨Nat.le_of_ble_eq_true rfl, Nat.le_of_ble_eq_true rfl⟩) rfl hl.1 rfl (Nat.le_of_ble_eq_true rfl) dX12_isCritical_32 ⟨Nat.le_of_ble_eq_true rfl, Nat.le_of_ble_eq_true rfl⟩ (fun r29093 hr29093 => ?_)
          refine lv_if_eq (tgt := 61) hx hb dX12_isCritical_35 (by decide) (fun c29094 => ?_) (fun c29094 => ?_)
          · have g29095 : Rg 0 0 r29093 := wk_eql hr29093.1 (by decide : Rg 0 0 (0 : Int32)) c29094 (by decide)
            refine lv_iconst (v := 1) hx hb dX12_isCritical_61 (by decide) ?_
            refine lv_goto (tgt := 66) hx hb dX12_isCritical_62 (by decide) ?_
            refine lv_istore_n (lv' := [(2, .int 1), (0, .ref (b 0)), (1, .int x0), (3, .int y18_l3)]) hx hb dX12_isCritical_66 rfl hl (by decide) rfl (fun ls hl => ?_)
            refine wk_iinc (lv' := fun r => [(3, .int r), (2, .int 1), (0, .ref (b 0)), (1, .int x0)]) (e1 := 1) (f := 12) hx hb dX12_isCritical_67 hl (k := 3) rfl (by decide) g29088 (by decide) (fun _ => rfl) (fun r29096 ls hr29096 er29096 hl => ?_)
            refine lv_goto (tgt := 18) hx hb dX12_isCritical_70 (by decide) ?_
            exact ih18 (1 : Int32) r29096 ls g18_l1 (by decide : Rg 0 1 (1 : Int32)) (show Rg 0 12 r29096 from rg_w hr29096 (by decide) (by decide)) (by exact ic_3 x18_0 c29089 er29096 (fun z => absurd z (hr29093.2.2 c29094))) (lv_sub (l' := [(0, .ref (b 0)), (1, .int x0), (2, .int 1), (3, .int r29096)]) hl [2, 3, 1, 0] rfl) (me_up hm18 er29096 (by decide))
          · have g29097 : Rg 1 1 r29093 := rg_ne_lo (k := 0) hr29093.1 (by decide) c29094 (by decide)
            refine lv_iconst (v := 2) hx hb dX12_isCritical_38 (by decide) ?_
            refine lv_aload_n hx hb dX12_isCritical_39 rfl (lv_at hl 0 rfl) ?_
            refine va_get (D := D) (ci := 12) (v := .ref (b 2)) (C := RX12) (T := TX12) (N := 24) hx hb hts hin12 hown hK hP 0 rfl rfl 3 (by decide) (hts (.fieldLink RX12 17 "MissedPointsModel" "pairs" "[I") (by decide +kernel)) (fun _ h9 => h9) rfl dX12_isCritical_40 ?_
            refine lv_iload_n hx hb dX12_isCritical_43 rfl (lv_at hl 1 rfl) ?_
            refine lv_iconst (v := 1) hx hb dX12_isCritical_44 (by decide) ?_
            refine lv_iload_n hx hb dX12_isCritical_45 rfl (lv_at hl 3 rfl) ?_
            refine wk_ishl1 (f := 2048) hx hb dX12_isCritical_46 g29088 (by decide) (fun r29098 hr29098 qr29098 => ?_)
            refine lv_iconst (v := (-1)) hx hb dX12_isCritical_47 (by decide) ?_
            refine lv_ixor hx hb dX12_isCritical_48 ?_
            refine wk_topP (P := fun r => r = r29098 ^^^ ((-1) : Int32)) rfl (fun r29099 qr29099 => ?_)
            refine wk_iandl hx hb dX12_isCritical_49 g18_l1 (by decide) (fun r29100 hr29100 qr29100 => ?_)
            refine va_iald hx hb hK hP 2 0 rfl rfl (rg_in hr29100 (by decide) (by decide)) dX12_isCritical_50 ?_
            refine lz_top (y := (v 2 r29100.toNatClampNeg)) rfl ?_
            refine lv_imul hx hb dX12_isCritical_51 ?_
            refine wk_topP (P := fun r => r = (2 : Int32) * (v 2 r29100.toNatClampNeg)) rfl (fun r29102 qr29102 => ?_)
            refine lv_iload_n hx hb dX12_isCritical_52 rfl (lv_at hl 1 rfl) ?_
            refine lz_ss (As := [.int x0]) (rest := [.int r29102]) ⟨hx, hb, hml, hown, hts⟩ (w_X12_bits_E l D cI cS x0 g18_l1) hKK (hP.sub (ws' := []) [] rfl) (va_cwS 1 hts gX12_isCritical_X12_bits rfl rfl rfl (by decide +kernel) ⟨Nat.le_of_ble_eq_true rfl, Nat.le_of_ble_eq_true rfl⟩) rfl hl.1 rfl (Nat.le_of_ble_eq_true rfl) dX12_isCritical_53 ⟨Nat.le_of_ble_eq_true rfl, Nat.le_of_ble_eq_true rfl⟩ (fun r29103 hr29103 => ?_)
            refine lv_iconst (v := 1) hx hb dX12_isCritical_56 (by decide) ?_
            refine wk_isub (e1 := (-1)) (f := 11) hx hb dX12_isCritical_57 hr29103.1 (by decide : Rg 1 1 (1 : Int32)) (by decide) (fun r29104 hr29104 er29104 qr29104 => ?_)
            refine lv_icmp_ne (tgt := 65) hx hb dX12_isCritical_58 (by decide) (fun c29105 => ?_) (fun c29105 => ?_)
            · refine lv_iconst (v := 0) hx hb dX12_isCritical_65 (by decide) ?_
              refine lv_istore_n (lv' := [(2, .int 0), (0, .ref (b 0)), (1, .int x0), (3, .int y18_l3)]) hx hb dX12_isCritical_66 rfl hl (by decide) rfl (fun ls hl => ?_)
              refine wk_iinc (lv' := fun r => [(3, .int r), (2, .int 0), (0, .ref (b 0)), (1, .int x0)]) (e1 := 1) (f := 12) hx hb dX12_isCritical_67 hl (k := 3) rfl (by decide) g29088 (by decide) (fun _ => rfl) (fun r29106 ls hr29106 er29106 hl => ?_)
              refine lv_goto (tgt := 18) hx hb dX12_isCritical_70 (by decide) ?_
              exact ih18 (0 : Int32) r29106 ls g18_l1 (by decide : Rg 0 1 (0 : Int32)) (show Rg 0 12 r29106 from rg_w hr29106 (by decide) (by decide)) (by exact ic_4 (p := y18_l3) (show Rg 0 12 y18_l3 from rg_w g29088 (by decide) (by decide)).1 ((lz_lt _ _).mp (rg_nle c29086)) (hr29093.2.1 c29094) (fun z => c29105 (by rw [qr29102, qr29104, (show r29100 = rmI x0 y18_l3 from by rw [qr29100, qr29099, qr29098]; first | done | rfl), hr29103.2]; exact z))) (lv_sub (l' := [(0, .ref (b 0)), (1, .int x0), (2, .int 0), (3, .int r29106)]) hl [2, 3, 1, 0] rfl) (me_up hm18 er29106 (by decide))
            · have g29107 : Rg (-1) 11 r29102 := wk_eql (rg_any r29102) hr29104 c29105 (by decide)
              refine lv_iconst (v := 1) hx hb dX12_isCritical_61 (by decide) ?_
              refine lv_goto (tgt := 66) hx hb dX12_isCritical_62 (by decide) ?_
              refine lv_istore_n (lv' := [(2, .int 1), (0, .ref (b 0)), (1, .int x0), (3, .int y18_l3)]) hx hb dX12_isCritical_66 rfl hl (by decide) rfl (fun ls hl => ?_)
              refine wk_iinc (lv' := fun r => [(3, .int r), (2, .int 1), (0, .ref (b 0)), (1, .int x0)]) (e1 := 1) (f := 12) hx hb dX12_isCritical_67 hl (k := 3) rfl (by decide) g29088 (by decide) (fun _ => rfl) (fun r29108 ls hr29108 er29108 hl => ?_)
              refine lv_goto (tgt := 18) hx hb dX12_isCritical_70 (by decide) ?_
              exact ih18 (1 : Int32) r29108 ls g18_l1 (by decide : Rg 0 1 (1 : Int32)) (show Rg 0 12 r29108 from rg_w hr29108 (by decide) (by decide)) (by exact ic_3 x18_0 c29089 er29108 (fun _ => (by have z1 := c29105; rw [qr29102, qr29104, (show r29100 = rmI x0 y18_l3 from by rw [qr29100, qr29099, qr29098]; first | done | rfl), hr29103.2] at z1; exact z1))) (lv_sub (l' := [(0, .ref (b 0)), (1, .int x0), (2, .int 1), (3, .int r29108)]) hl [2, 3, 1, 0] rfl) (me_up hm18 er29108 (by decide))
  refine lv_iload_n hx hb dX12_isCritical_0 rfl (lv_at hl 1 rfl) ?_
  refine lz_ss (As := [.int x0]) (rest := []) ⟨hx, hb, hml, hown, hts⟩ (w_X12_bits_E l D cI cS x0 px0) hKK (hP.sub (ws' := []) [] rfl) (va_cwS 1 hts gX12_isCritical_X12_bits rfl rfl rfl (by decide +kernel) ⟨Nat.le_of_ble_eq_true rfl, Nat.le_of_ble_eq_true rfl⟩) rfl hl.1 rfl (Nat.le_of_ble_eq_true rfl) dX12_isCritical_1 ⟨Nat.le_of_ble_eq_true rfl, Nat.le_of_ble_eq_true rfl⟩ (fun r29109 hr29109 => ?_)
  refine lv_iconst (v := 2) hx hb dX12_isCritical_4 (by decide) ?_
  refine lv_irem hx hb dX12_isCritical_5 (by decide) ?_
  refine wk_topP (P := fun r => Rg 0 1 r ∧ r.toInt = r29109.toInt % 2) ⟨rg_w (rg_remn (kk := 2) (n := 2) hr29109.1 (by decide) (by decide)) (by decide) (by decide), rg_remE (kk := 2) (n := 2) hr29109.1.1 (by decide) (by decide)⟩ (fun r29110 hr29110 => ?_)
  refine lv_iconst (v := 1) hx hb dX12_isCritical_6 (by decide) ?_
  refine lv_icmp_ne (tgt := 14) hx hb dX12_isCritical_7 (by decide) (fun c29111 => ?_) (fun c29111 => ?_)
  · have g29112 : Rg 0 0 r29110 := rg_ne_hi (k := 1) hr29110.1 (by decide) c29111 (by decide)
    refine lv_iconst (v := 0) hx hb dX12_isCritical_14 (by decide) ?_
    refine lv_istore_n (lv' := [(2, .int 0), (0, .ref (b 0)), (1, .int x0)]) hx hb dX12_isCritical_15 rfl hl (by decide) rfl (fun ls hl => ?_)
    refine lv_iconst (v := 0) hx hb dX12_isCritical_16 (by decide) ?_
    refine lv_istore_n (lv' := [(3, .int 0), (2, .int 0), (0, .ref (b 0)), (1, .int x0)]) hx hb dX12_isCritical_17 rfl hl (by decide) rfl (fun ls hl => ?_)
    exact lp18 13 (0 : Int32) (0 : Int32) ls px0 (by decide : Rg 0 1 (0 : Int32)) (by decide : Rg 0 12 (0 : Int32)) (by exact ic_1 (fun z => c29111 (Int32.toInt_inj.mp (by have z1 := hr29110.2; rw [hr29109.2] at z1; have z3 : (1 : Int32).toInt = 1 := (by decide); omega)))) (lv_sub (l' := [(0, .ref (b 0)), (1, .int x0), (2, .int 0), (3, .int 0)]) hl [2, 3, 1, 0] rfl) (me_i (by decide : Rg 0 12 (0 : Int32)) (by decide))
  · have g29113 : Rg 1 1 r29110 := wk_eql hr29110.1 (by decide : Rg 1 1 (1 : Int32)) c29111 (by decide)
    refine lv_iconst (v := 1) hx hb dX12_isCritical_10 (by decide) ?_
    refine lv_goto (tgt := 15) hx hb dX12_isCritical_11 (by decide) ?_
    refine lv_istore_n (lv' := [(2, .int 1), (0, .ref (b 0)), (1, .int x0)]) hx hb dX12_isCritical_15 rfl hl (by decide) rfl (fun ls hl => ?_)
    refine lv_iconst (v := 0) hx hb dX12_isCritical_16 (by decide) ?_
    refine lv_istore_n (lv' := [(3, .int 0), (2, .int 1), (0, .ref (b 0)), (1, .int x0)]) hx hb dX12_isCritical_17 rfl hl (by decide) rfl (fun ls hl => ?_)
    exact lp18 13 (1 : Int32) (0 : Int32) ls px0 (by decide : Rg 0 1 (1 : Int32)) (by decide : Rg 0 12 (0 : Int32)) (by exact ic_0 (by have z1 := hr29110.2; rw [hr29109.2] at z1; have z2 := congrArg Int32.toInt c29111; have z3 : (1 : Int32).toInt = 1 := (by decide); omega) (by decide)) (lv_sub (l' := [(0, .ref (b 0)), (1, .int x0), (2, .int 1), (3, .int 0)]) hl [2, 3, 1, 0] rfl) (me_i (by decide : Rg 0 12 (0 : Int32)) (by decide))
set_option maxRecDepth 20000 in
theorem ggX12_earOf_X12_bits : GoodIn wsX12_earOf wsX12_bits := goodIn_r _ [5] rfl (by decide +kernel)
set_option maxRecDepth 20000 in
theorem gX12_earOf_X12_bits : GoodIn wsX12_earOf (va_wsS RX12 85 yX12_bits wsX12_bits) := goodIn_app (goodIn_of _ (by decide +kernel)) ggX12_earOf_X12_bits
set_option maxRecDepth 20000 in
theorem ggX12_earOf_X12_isCritical : GoodIn wsX12_earOf wsX12_isCritical := goodIn_r _ [9, 10, 1, 2, 3, 4, 5, 11, 12, 13, 14, 15, 16, 17, 18, 19, 20, 21, 22, 23, 24, 25, 26, 27, 28, 29, 30, 31, 32, 33, 34, 35, 36, 37] rfl (by decide +kernel)
set_option maxRecDepth 20000 in
theorem gX12_earOf_X12_isCritical : GoodIn wsX12_earOf (wsV RX12 144 RX12 yX12_isCritical wsX12_isCritical) := goodIn_app (goodIn_of _ (by decide +kernel)) ggX12_earOf_X12_isCritical
theorem dX12_earOf_0 : decode cX12_earOf 0 = .ok (.iload_n 1, 1) := by decide +kernel
theorem dX12_earOf_1 : decode cX12_earOf 1 = .ok (.iload_n 2, 1) := by decide +kernel
theorem dX12_earOf_10 : decode cX12_earOf 10 = .ok (.istore 5, 2) := by decide +kernel
theorem dX12_earOf_100 : decode cX12_earOf 100 = .ok (.istore 4, 2) := by decide +kernel
theorem dX12_earOf_102 : decode cX12_earOf 102 = .ok (.iinc 5 1, 3) := by decide +kernel
theorem dX12_earOf_105 : decode cX12_earOf 105 = .ok (.goto (-93), 3) := by decide +kernel
theorem dX12_earOf_108 : decode cX12_earOf 108 = .ok (.iload 4, 2) := by decide +kernel
theorem dX12_earOf_110 : decode cX12_earOf 110 = .ok (.ireturn, 1) := by decide +kernel
theorem dX12_earOf_12 : decode cX12_earOf 12 = .ok (.iload 5, 2) := by decide +kernel
theorem dX12_earOf_14 : decode cX12_earOf 14 = .ok (.iload_n 3, 1) := by decide +kernel
theorem dX12_earOf_15 : decode cX12_earOf 15 = .ok (.if_icmp .gt 93, 3) := by decide +kernel
theorem dX12_earOf_18 : decode cX12_earOf 18 = .ok (.iload 5, 2) := by decide +kernel
theorem dX12_earOf_2 : decode cX12_earOf 2 = .ok (.iconst (-1), 1) := by decide +kernel
theorem dX12_earOf_20 : decode cX12_earOf 20 = .ok (.iload_n 3, 1) := by decide +kernel
theorem dX12_earOf_21 : decode cX12_earOf 21 = .ok (.iconst (-1), 1) := by decide +kernel
theorem dX12_earOf_22 : decode cX12_earOf 22 = .ok (.ixor, 1) := by decide +kernel
theorem dX12_earOf_23 : decode cX12_earOf 23 = .ok (.iand, 1) := by decide +kernel
theorem dX12_earOf_24 : decode cX12_earOf 24 = .ok (.ifCond .ne 78, 3) := by decide +kernel
theorem dX12_earOf_27 : decode cX12_earOf 27 = .ok (.iload 5, 2) := by decide +kernel
theorem dX12_earOf_29 : decode cX12_earOf 29 = .ok (.invokestatic 85, 3) := by decide +kernel
theorem dX12_earOf_3 : decode cX12_earOf 3 = .ok (.ixor, 1) := by decide +kernel
theorem dX12_earOf_32 : decode cX12_earOf 32 = .ok (.iconst 2, 1) := by decide +kernel
theorem dX12_earOf_33 : decode cX12_earOf 33 = .ok (.if_icmp .lt 69, 3) := by decide +kernel
theorem dX12_earOf_36 : decode cX12_earOf 36 = .ok (.iload 4, 2) := by decide +kernel
theorem dX12_earOf_38 : decode cX12_earOf 38 = .ok (.ifCond .eq 19, 3) := by decide +kernel
theorem dX12_earOf_4 : decode cX12_earOf 4 = .ok (.iand, 1) := by decide +kernel
theorem dX12_earOf_41 : decode cX12_earOf 41 = .ok (.iload 5, 2) := by decide +kernel
theorem dX12_earOf_43 : decode cX12_earOf 43 = .ok (.invokestatic 85, 3) := by decide +kernel
theorem dX12_earOf_46 : decode cX12_earOf 46 = .ok (.iload 4, 2) := by decide +kernel
theorem dX12_earOf_48 : decode cX12_earOf 48 = .ok (.invokestatic 85, 3) := by decide +kernel
theorem dX12_earOf_5 : decode cX12_earOf 5 = .ok (.istore_n 3, 1) := by decide +kernel
theorem dX12_earOf_51 : decode cX12_earOf 51 = .ok (.if_icmp .lt 6, 3) := by decide +kernel
theorem dX12_earOf_54 : decode cX12_earOf 54 = .ok (.goto 48, 3) := by decide +kernel
theorem dX12_earOf_57 : decode cX12_earOf 57 = .ok (.aload_n 0, 1) := by decide +kernel
theorem dX12_earOf_58 : decode cX12_earOf 58 = .ok (.iload_n 2, 1) := by decide +kernel
theorem dX12_earOf_59 : decode cX12_earOf 59 = .ok (.iload 5, 2) := by decide +kernel
theorem dX12_earOf_6 : decode cX12_earOf 6 = .ok (.iconst 0, 1) := by decide +kernel
theorem dX12_earOf_61 : decode cX12_earOf 61 = .ok (.ior, 1) := by decide +kernel
theorem dX12_earOf_62 : decode cX12_earOf 62 = .ok (.invokevirtual 144, 3) := by decide +kernel
theorem dX12_earOf_65 : decode cX12_earOf 65 = .ok (.ifCond .eq 33, 3) := by decide +kernel
theorem dX12_earOf_68 : decode cX12_earOf 68 = .ok (.iconst 2, 1) := by decide +kernel
theorem dX12_earOf_69 : decode cX12_earOf 69 = .ok (.aload_n 0, 1) := by decide +kernel
theorem dX12_earOf_7 : decode cX12_earOf 7 = .ok (.istore 4, 2) := by decide +kernel
theorem dX12_earOf_70 : decode cX12_earOf 70 = .ok (.getfield 17, 3) := by decide +kernel
theorem dX12_earOf_73 : decode cX12_earOf 73 = .ok (.iload_n 3, 1) := by decide +kernel
theorem dX12_earOf_74 : decode cX12_earOf 74 = .ok (.iload 5, 2) := by decide +kernel
theorem dX12_earOf_76 : decode cX12_earOf 76 = .ok (.iconst (-1), 1) := by decide +kernel
theorem dX12_earOf_77 : decode cX12_earOf 77 = .ok (.ixor, 1) := by decide +kernel
theorem dX12_earOf_78 : decode cX12_earOf 78 = .ok (.iand, 1) := by decide +kernel
theorem dX12_earOf_79 : decode cX12_earOf 79 = .ok (.iaload, 1) := by decide +kernel
theorem dX12_earOf_80 : decode cX12_earOf 80 = .ok (.imul, 1) := by decide +kernel
theorem dX12_earOf_81 : decode cX12_earOf 81 = .ok (.iload_n 3, 1) := by decide +kernel
theorem dX12_earOf_82 : decode cX12_earOf 82 = .ok (.iload 5, 2) := by decide +kernel
theorem dX12_earOf_84 : decode cX12_earOf 84 = .ok (.iconst (-1), 1) := by decide +kernel
theorem dX12_earOf_85 : decode cX12_earOf 85 = .ok (.ixor, 1) := by decide +kernel
theorem dX12_earOf_86 : decode cX12_earOf 86 = .ok (.iand, 1) := by decide +kernel
theorem dX12_earOf_87 : decode cX12_earOf 87 = .ok (.invokestatic 85, 3) := by decide +kernel
theorem dX12_earOf_9 : decode cX12_earOf 9 = .ok (.iconst 1, 1) := by decide +kernel
theorem dX12_earOf_90 : decode cX12_earOf 90 = .ok (.if_icmp .ne 8, 3) := by decide +kernel
theorem dX12_earOf_93 : decode cX12_earOf 93 = .ok (.iload 5, 2) := by decide +kernel
theorem dX12_earOf_95 : decode cX12_earOf 95 = .ok (.goto 5, 3) := by decide +kernel
theorem dX12_earOf_98 : decode cX12_earOf 98 = .ok (.iload 4, 2) := by decide +kernel
set_option maxHeartbeats 4000000 in
set_option maxRecDepth 100000 in
theorem w_X12_earOf (l : Launch) (D : va_G) (cI cS : ClassId) (b : Nat → Nat) (L v : SU) (hL : TyL L) (hV : TyV v) (x0 x1 : Int32) (px0 : Rg 0 4095 x0) (px1 : Rg 0 4095 x1) : Met l yX12_earOf wsX12_earOf ({ frames := 2, cells := 0, slots := 0, locals := 80 }) (PS D cI cS (wM cI b L v) [.ref (b 0), .int x0, .int x1]) (vp_Si (fun r => Rg 0 4095 r ∧ ERp v (L 0 0) x0 x1 r)) 0 0 (fun _ => False) := by
  refine Met.ofW (cc := cX12_earOf) (maxL := 6) (ret := (some .int)) (by decide) rfl ?_
  intro p e s m args below meth c s₁ B hml hv
  obtain ⟨rfl, hP, hKK⟩ := hv
  have hx := B.exec
  have hb := B.bytes
  have hr := B.returns
  have hts := atoms_spec (ws := wsX12_earOf) B.pre
  have hown : s.vm.findClass RX12 = some m.cls := findClass_of_methodNamed B.named
  have hlocks := B.notSynchronized
  have hK := hKK.1
  have hin12 : ∀ w ∈ wsX120, w ∈ wsX12_earOf := by decide +kernel
  have hl := lv_entry ([.ref (b 0), .int x0, .int x1]) (n := 6) (Nat.le_of_ble_eq_true rfl)
  rw [lg_entry_eq]
  generalize (lg_sl ([.ref (b 0), .int x0, .int x1]) ++ List.replicate (6 - (lg_sl ([.ref (b 0), .int x0, .int x1])).length) Slot.unset).toArray = ls at hl ⊢
  have hl : lv_has ls 6 [(0, .ref (b 0)), (1, .int x0), (2, .int x1)] := hl
  have lp12 : ∀ (n12 : Nat) (y12_l3 : Int32) (y12_l4 : Int32) (y12_l5 : Int32) (ls : Array Slot), Rg 0 4095 x1 → Rg 0 4095 y12_l3 → Rg 0 4095 y12_l4 → Rg 1 4096 y12_l5 → (y12_l3 = x0 &&& (x1 ^^^ (-1)) ∧ EX v (L 0 0) x1 y12_l3 y12_l4 y12_l5) → lv_has ls 6 [(0, .ref (b 0)), (2, .int x1), (3, .int y12_l3), (4, .int y12_l4), (5, .int y12_l5)] → 4096 - y12_l5.toInt < (n12 : Int) → W p l e (headSpec wsX12_earOf ({ frames := 2, cells := 0, slots := 0, locals := 80 })).room s m ([.ref (b 0), .int x0, .int x1]).toArray below meth c s.heap [] 0 0 (MQ below (vp_Si (fun r => Rg 0 4095 r ∧ ERp v (L 0 0) x0 x1 r)) ([.ref (b 0), .int x0, .int x1]).toArray s 0 0 (fun _ => False)) (F0 m 12 ls []) := by
    intro n12
    induction n12 with
    | zero =>
      intro y12_l3 y12_l4 y12_l5 ls g12_l2 g12_l3 g12_l4 g12_l5 x12_0 hl hm12
      exact absurd rfl (me_z g12_l5 hm12)
    | succ n12 ih12 =>
      intro y12_l3 y12_l4 y12_l5 ls g12_l2 g12_l3 g12_l4 g12_l5 x12_0 hl hm12
      refine lv_iload hx hb dX12_earOf_12 (lv_at hl 4 rfl) ?_
      refine lv_iload_n hx hb dX12_earOf_14 rfl (lv_at hl 2 rfl) ?_
      refine lv_icmp_gt (tgt := 108) hx hb dX12_earOf_15 (by decide) (fun c30279 => ?_) (fun c30279 => ?_)
      · refine lv_iload hx hb dX12_earOf_108 (lv_at hl 3 rfl) ?_
        exact W.iret (v := y12_l4) hx hb hr (fun t ht hW => ⟨_, rfl, ⟨g12_l4, (by have z1 := x12_0.2; have z2 := (lz_lt _ _).mp c30279; rw [x12_0.1] at z1 z2; exact ⟨z1.1, fun a => z1.2 z2 a⟩)⟩, ht⟩) (fun q hq => absurd hq List.not_mem_nil) dX12_earOf_110
      · have g30280 : Rg 1 4095 y12_l3 := rg_ler g12_l5 g12_l3 (rg_nlt c30279) (by decide)
        have g30281 : Rg 1 4095 y12_l5 := rg_lel g12_l5 g12_l3 (rg_nlt c30279) (by decide)
        refine lv_iload hx hb dX12_earOf_18 (lv_at hl 4 rfl) ?_
        refine lv_iload_n hx hb dX12_earOf_20 rfl (lv_at hl 2 rfl) ?_
        refine lv_iconst (v := (-1)) hx hb dX12_earOf_21 (by decide) ?_
        refine lv_ixor hx hb dX12_earOf_22 ?_
        refine wk_topP (P := fun r => r = y12_l3 ^^^ ((-1) : Int32)) rfl (fun r30282 qr30282 => ?_)
        refine wk_iandl hx hb dX12_earOf_23 g30281 (by decide) (fun r30283 hr30283 qr30283 => ?_)
        refine lv_if_ne (tgt := 102) hx hb dX12_earOf_24 (by decide) (fun c30284 => ?_) (fun c30284 => ?_)
        · have g30285 : Rg 1 4095 r30283 := rg_ne_lo (k := 0) hr30283 (by decide) c30284 (by decide)
          refine wk_iinc (lv' := fun r => [(5, .int r), (0, .ref (b 0)), (2, .int x1), (3, .int y12_l3), (4, .int y12_l4)]) (e1 := 2) (f := 4096) hx hb dX12_earOf_102 hl (k := 4) rfl (by decide) g30281 (by decide) (fun _ => rfl) (fun r30286 ls hr30286 er30286 hl => ?_)
          refine lv_goto (tgt := 12) hx hb dX12_earOf_105 (by decide) ?_
          exact ih12 y12_l3 y12_l4 r30286 ls g12_l2 (show Rg 0 4095 y12_l3 from rg_w g30280 (by decide) (by decide)) g12_l4 (show Rg 1 4096 r30286 from rg_w hr30286 (by decide) (by decide)) (by exact ⟨x12_0.1, ex_1 x12_0.2 er30286 (fun z => absurd (by rw [qr30283, qr30282, ← z]; exact bit_s _) c30284)⟩) (lv_sub (l' := [(0, .ref (b 0)), (2, .int x1), (3, .int y12_l3), (4, .int y12_l4), (5, .int r30286)]) hl [1, 2, 3, 4, 0] rfl) (me_up hm12 er30286 (by decide))
        · have g30287 : Rg 0 0 r30283 := wk_eql hr30283 (by decide : Rg 0 0 (0 : Int32)) c30284 (by decide)
          refine lv_iload hx hb dX12_earOf_27 (lv_at hl 4 rfl) ?_
          refine lz_ss (As := [.int y12_l5]) (rest := []) ⟨hx, hb, hml, hown, hts⟩ (w_X12_bits_E l D cI cS y12_l5 (show Rg 0 4095 y12_l5 from rg_w g30281 (by decide) (by decide))) hKK (hP.sub (ws' := []) [] rfl) (va_cwS 1 hts gX12_earOf_X12_bits rfl rfl rfl (by decide +kernel) ⟨Nat.le_of_ble_eq_true rfl, Nat.le_of_ble_eq_true rfl⟩) rfl hl.1 rfl (Nat.le_of_ble_eq_true rfl) dX12_earOf_29 ⟨Nat.le_of_ble_eq_true rfl, Nat.le_of_ble_eq_true rfl⟩ (fun r30288 hr30288 => ?_)
          refine lv_iconst (v := 2) hx hb dX12_earOf_32 (by decide) ?_
          refine lv_icmp_lt (tgt := 102) hx hb dX12_earOf_33 (by decide) (fun c30289 => ?_) (fun c30289 => ?_)
          · have g30290 : Rg 0 1 r30288 := rg_ltl hr30288.1 (by decide : Rg 2 2 (2 : Int32)) c30289 (by decide)
            refine wk_iinc (lv' := fun r => [(5, .int r), (0, .ref (b 0)), (2, .int x1), (3, .int y12_l3), (4, .int y12_l4)]) (e1 := 2) (f := 4096) hx hb dX12_earOf_102 hl (k := 4) rfl (by decide) g30281 (by decide) (fun _ => rfl) (fun r30291 ls hr30291 er30291 hl => ?_)
            refine lv_goto (tgt := 12) hx hb dX12_earOf_105 (by decide) ?_
            exact ih12 y12_l3 y12_l4 r30291 ls g12_l2 (show Rg 0 4095 y12_l3 from rg_w g30280 (by decide) (by decide)) g12_l4 (show Rg 1 4096 r30291 from rg_w hr30291 (by decide) (by decide)) (by exact ⟨x12_0.1, ex_1 x12_0.2 er30291 (fun z h0 _ w _ => absurd (whl_2 w (rg_ne_lo (k := 0) g12_l3 (by decide) h0 (by decide))) (by have z1 := (lz_lt _ _).mp c30289; have z2 : (2 : Int32).toInt = 2 := (by decide); rw [hr30288.2] at z1; rw [z]; omega))⟩) (lv_sub (l' := [(0, .ref (b 0)), (2, .int x1), (3, .int y12_l3), (4, .int y12_l4), (5, .int r30291)]) hl [1, 2, 3, 4, 0] rfl) (me_up hm12 er30291 (by decide))
          · have g30292 : Rg 2 12 r30288 := rg_ler (by decide : Rg 2 2 (2 : Int32)) hr30288.1 (rg_nlt c30289) (by decide)
            refine lv_iload hx hb dX12_earOf_36 (lv_at hl 3 rfl) ?_
            refine lv_if_eq (tgt := 57) hx hb dX12_earOf_38 (by decide) (fun c30293 => ?_) (fun c30293 => ?_)
            · have g30294 : Rg 0 0 y12_l4 := wk_eql g12_l4 (by decide : Rg 0 0 (0 : Int32)) c30293 (by decide)
              refine lv_aload_n hx hb dX12_earOf_57 rfl (lv_at hl 0 rfl) ?_
              refine lv_iload_n hx hb dX12_earOf_58 rfl (lv_at hl 1 rfl) ?_
              refine lv_iload hx hb dX12_earOf_59 (lv_at hl 4 rfl) ?_
              refine wk_ior 12 (e1 := 1) (f := 4095) hx hb dX12_earOf_61 g12_l2 g30281 (by decide) (fun r30295 hr30295 qr30295 => ?_)
              refine wk_sv 0 (As := [.int r30295]) (rest := []) ⟨hx, hb, hml, hown, hts⟩ (w_X12_isCritical_E l D cI cS b L v hL hV r30295 (show Rg 0 4095 r30295 from rg_w hr30295 (by decide) (by decide))) hKK hP (ci := 12) rfl rfl (cwV 1 hts gX12_earOf_X12_isCritical rfl rfl rfl (by decide +kernel) ⟨Nat.le_of_ble_eq_true rfl, Nat.le_of_ble_eq_true rfl⟩) rfl hl.1 rfl (Nat.le_of_ble_eq_true rfl) dX12_earOf_62 ⟨Nat.le_of_ble_eq_true rfl, Nat.le_of_ble_eq_true rfl⟩ (fun r30296 hr30296 => ?_)
              refine lv_if_eq (tgt := 98) hx hb dX12_earOf_65 (by decide) (fun c30297 => ?_) (fun c30297 => ?_)
              · have g30298 : Rg 0 0 r30296 := wk_eql hr30296.1 (by decide : Rg 0 0 (0 : Int32)) c30297 (by decide)
                refine lv_iload hx hb dX12_earOf_98 (lv_at hl 3 rfl) ?_
                refine lv_istore (lv' := [(4, .int y12_l4), (0, .ref (b 0)), (2, .int x1), (3, .int y12_l3), (5, .int y12_l5)]) hx hb dX12_earOf_100 hl (by decide) rfl (fun ls hl => ?_)
                refine wk_iinc (lv' := fun r => [(5, .int r), (4, .int y12_l4), (0, .ref (b 0)), (2, .int x1), (3, .int y12_l3)]) (e1 := 2) (f := 4096) hx hb dX12_earOf_102 hl (k := 4) rfl (by decide) g30281 (by decide) (fun _ => rfl) (fun r30299 ls hr30299 er30299 hl => ?_)
                refine lv_goto (tgt := 12) hx hb dX12_earOf_105 (by decide) ?_
                exact ih12 y12_l3 y12_l4 r30299 ls g12_l2 (show Rg 0 4095 y12_l3 from rg_w g30280 (by decide) (by decide)) (show Rg 0 4095 y12_l4 from rg_w g30294 (by decide) (by decide)) (show Rg 1 4096 r30299 from rg_w hr30299 (by decide) (by decide)) (by exact ⟨x12_0.1, ex_1 x12_0.2 er30299 (fun z _ c _ _ => absurd (by rw [qr30295, ← z]; exact c) (hr30296.2.2 c30297))⟩) (lv_sub (l' := [(0, .ref (b 0)), (2, .int x1), (3, .int y12_l3), (4, .int y12_l4), (5, .int r30299)]) hl [2, 3, 4, 1, 0] rfl) (me_up hm12 er30299 (by decide))
              · have g30300 : Rg 1 1 r30296 := rg_ne_lo (k := 0) hr30296.1 (by decide) c30297 (by decide)
                refine lv_iconst (v := 2) hx hb dX12_earOf_68 (by decide) ?_
                refine lv_aload_n hx hb dX12_earOf_69 rfl (lv_at hl 0 rfl) ?_
                refine va_get (D := D) (ci := 12) (v := .ref (b 2)) (C := RX12) (T := TX12) (N := 24) hx hb hts hin12 hown hK hP 0 rfl rfl 3 (by decide) (hts (.fieldLink RX12 17 "MissedPointsModel" "pairs" "[I") (by decide +kernel)) (fun _ h9 => h9) rfl dX12_earOf_70 ?_
                refine lv_iload_n hx hb dX12_earOf_73 rfl (lv_at hl 2 rfl) ?_
                refine lv_iload hx hb dX12_earOf_74 (lv_at hl 4 rfl) ?_
                refine lv_iconst (v := (-1)) hx hb dX12_earOf_76 (by decide) ?_
                refine lv_ixor hx hb dX12_earOf_77 ?_
                refine wk_topP (P := fun r => r = y12_l5 ^^^ ((-1) : Int32)) rfl (fun r30301 qr30301 => ?_)
                refine wk_iandl hx hb dX12_earOf_78 g30280 (by decide) (fun r30302 hr30302 qr30302 => ?_)
                refine va_iald hx hb hK hP 2 0 rfl rfl (rg_in hr30302 (by decide) (by decide)) dX12_earOf_79 ?_
                refine lz_top (y := (v 2 r30302.toNatClampNeg)) rfl ?_
                refine lv_imul hx hb dX12_earOf_80 ?_
                refine wk_topP (P := fun r => r = (2 : Int32) * (v 2 r30302.toNatClampNeg)) rfl (fun r30304 qr30304 => ?_)
                refine lv_iload_n hx hb dX12_earOf_81 rfl (lv_at hl 2 rfl) ?_
                refine lv_iload hx hb dX12_earOf_82 (lv_at hl 4 rfl) ?_
                refine lv_iconst (v := (-1)) hx hb dX12_earOf_84 (by decide) ?_
                refine lv_ixor hx hb dX12_earOf_85 ?_
                refine wk_topP (P := fun r => r = y12_l5 ^^^ ((-1) : Int32)) rfl (fun r30305 qr30305 => ?_)
                refine wk_iandl hx hb dX12_earOf_86 g30280 (by decide) (fun r30306 hr30306 qr30306 => ?_)
                refine lz_ss (As := [.int r30306]) (rest := [.int r30304]) ⟨hx, hb, hml, hown, hts⟩ (w_X12_bits_E l D cI cS r30306 hr30306) hKK (hP.sub (ws' := []) [] rfl) (va_cwS 1 hts gX12_earOf_X12_bits rfl rfl rfl (by decide +kernel) ⟨Nat.le_of_ble_eq_true rfl, Nat.le_of_ble_eq_true rfl⟩) rfl hl.1 rfl (Nat.le_of_ble_eq_true rfl) dX12_earOf_87 ⟨Nat.le_of_ble_eq_true rfl, Nat.le_of_ble_eq_true rfl⟩ (fun r30307 hr30307 => ?_)
                refine lv_icmp_ne (tgt := 98) hx hb dX12_earOf_90 (by decide) (fun c30308 => ?_) (fun c30308 => ?_)
                · refine lv_iload hx hb dX12_earOf_98 (lv_at hl 3 rfl) ?_
                  refine lv_istore (lv' := [(4, .int y12_l4), (0, .ref (b 0)), (2, .int x1), (3, .int y12_l3), (5, .int y12_l5)]) hx hb dX12_earOf_100 hl (by decide) rfl (fun ls hl => ?_)
                  refine wk_iinc (lv' := fun r => [(5, .int r), (4, .int y12_l4), (0, .ref (b 0)), (2, .int x1), (3, .int y12_l3)]) (e1 := 2) (f := 4096) hx hb dX12_earOf_102 hl (k := 4) rfl (by decide) g30281 (by decide) (fun _ => rfl) (fun r30309 ls hr30309 er30309 hl => ?_)
                  refine lv_goto (tgt := 12) hx hb dX12_earOf_105 (by decide) ?_
                  exact ih12 y12_l3 y12_l4 r30309 ls g12_l2 (show Rg 0 4095 y12_l3 from rg_w g30280 (by decide) (by decide)) (show Rg 0 4095 y12_l4 from rg_w g30294 (by decide) (by decide)) (show Rg 1 4096 r30309 from rg_w hr30309 (by decide) (by decide)) (by exact ⟨x12_0.1, ex_1 x12_0.2 er30309 (fun z _ _ _ w => absurd w (fun w2 => c30308 (by rw [qr30304, (show r30302 = y12_l3 &&& (y12_l5 ^^^ (-1)) from by rw [qr30302, qr30301]), hr30307.2, (show r30306 = y12_l3 &&& (y12_l5 ^^^ (-1)) from by rw [qr30306, qr30305]), show y12_l3 &&& (y12_l5 ^^^ (-1)) = 0 from by rw [← z]; exact bit_s _]; exact w2)))⟩) (lv_sub (l' := [(0, .ref (b 0)), (2, .int x1), (3, .int y12_l3), (4, .int y12_l4), (5, .int r30309)]) hl [2, 3, 4, 1, 0] rfl) (me_up hm12 er30309 (by decide))
                · have g30310 : Rg 0 12 r30304 := wk_eql (rg_any r30304) hr30307.1 c30308 (by decide)
                  refine lv_iload hx hb dX12_earOf_93 (lv_at hl 4 rfl) ?_
                  refine lv_goto (tgt := 100) hx hb dX12_earOf_95 (by decide) ?_
                  refine lv_istore (lv' := [(4, .int y12_l5), (0, .ref (b 0)), (2, .int x1), (3, .int y12_l3), (5, .int y12_l5)]) hx hb dX12_earOf_100 hl (by decide) rfl (fun ls hl => ?_)
                  refine wk_iinc (lv' := fun r => [(5, .int r), (4, .int y12_l5), (0, .ref (b 0)), (2, .int x1), (3, .int y12_l3)]) (e1 := 2) (f := 4096) hx hb dX12_earOf_102 hl (k := 4) rfl (by decide) g30281 (by decide) (fun _ => rfl) (fun r30311 ls hr30311 er30311 hl => ?_)
                  refine lv_goto (tgt := 12) hx hb dX12_earOf_105 (by decide) ?_
                  exact ih12 y12_l3 y12_l5 r30311 ls g12_l2 (show Rg 0 4095 y12_l3 from rg_w g30280 (by decide) (by decide)) (show Rg 0 4095 y12_l5 from rg_w g30281 (by decide) (by decide)) (show Rg 1 4096 r30311 from rg_w hr30311 (by decide) (by decide)) (by exact ⟨x12_0.1, ex_2 g30281 (by rw [← qr30282, ← qr30283]; exact c30284) (by have z1 := c30308; rw [qr30304, (show r30302 = y12_l3 &&& (y12_l5 ^^^ (-1)) from by rw [qr30302, qr30301]), hr30307.2, (show r30306 = y12_l3 &&& (y12_l5 ^^^ (-1)) from by rw [qr30306, qr30305])] at z1; exact z1)⟩) (lv_sub (l' := [(0, .ref (b 0)), (2, .int x1), (3, .int y12_l3), (4, .int y12_l5), (5, .int r30311)]) hl [2, 3, 4, 1, 0] rfl) (me_up hm12 er30311 (by decide))
            · have g30312 : Rg 1 4095 y12_l4 := rg_ne_lo (k := 0) g12_l4 (by decide) c30293 (by decide)
              refine lv_iload hx hb dX12_earOf_41 (lv_at hl 4 rfl) ?_
              refine lz_ss (As := [.int y12_l5]) (rest := []) ⟨hx, hb, hml, hown, hts⟩ (w_X12_bits_E l D cI cS y12_l5 (show Rg 0 4095 y12_l5 from rg_w g30281 (by decide) (by decide))) hKK (hP.sub (ws' := []) [] rfl) (va_cwS 1 hts gX12_earOf_X12_bits rfl rfl rfl (by decide +kernel) ⟨Nat.le_of_ble_eq_true rfl, Nat.le_of_ble_eq_true rfl⟩) rfl hl.1 rfl (Nat.le_of_ble_eq_true rfl) dX12_earOf_43 ⟨Nat.le_of_ble_eq_true rfl, Nat.le_of_ble_eq_true rfl⟩ (fun r30313 hr30313 => ?_)
              refine lv_iload hx hb dX12_earOf_46 (lv_at hl 3 rfl) ?_
              refine lz_ss (As := [.int y12_l4]) (rest := [.int r30313]) ⟨hx, hb, hml, hown, hts⟩ (w_X12_bits_E l D cI cS y12_l4 (show Rg 0 4095 y12_l4 from rg_w g30312 (by decide) (by decide))) hKK (hP.sub (ws' := []) [] rfl) (va_cwS 1 hts gX12_earOf_X12_bits rfl rfl rfl (by decide +kernel) ⟨Nat.le_of_ble_eq_true rfl, Nat.le_of_ble_eq_true rfl⟩) rfl hl.1 rfl (Nat.le_of_ble_eq_true rfl) dX12_earOf_48 ⟨Nat.le_of_ble_eq_true rfl, Nat.le_of_ble_eq_true rfl⟩ (fun r30314 hr30314 => ?_)
              refine lv_icmp_lt (tgt := 57) hx hb dX12_earOf_51 (by decide) (fun c30315 => ?_) (fun c30315 => ?_)
              · have g30316 : Rg 0 11 r30313 := rg_ltl hr30313.1 hr30314.1 c30315 (by decide)
                have g30317 : Rg 1 12 r30314 := rg_ltr hr30313.1 hr30314.1 c30315 (by decide)
                refine lv_aload_n hx hb dX12_earOf_57 rfl (lv_at hl 0 rfl) ?_
                refine lv_iload_n hx hb dX12_earOf_58 rfl (lv_at hl 1 rfl) ?_
                refine lv_iload hx hb dX12_earOf_59 (lv_at hl 4 rfl) ?_
                refine wk_ior 12 (e1 := 1) (f := 4095) hx hb dX12_earOf_61 g12_l2 g30281 (by decide) (fun r30318 hr30318 qr30318 => ?_)
                refine wk_sv 0 (As := [.int r30318]) (rest := []) ⟨hx, hb, hml, hown, hts⟩ (w_X12_isCritical_E l D cI cS b L v hL hV r30318 (show Rg 0 4095 r30318 from rg_w hr30318 (by decide) (by decide))) hKK hP (ci := 12) rfl rfl (cwV 1 hts gX12_earOf_X12_isCritical rfl rfl rfl (by decide +kernel) ⟨Nat.le_of_ble_eq_true rfl, Nat.le_of_ble_eq_true rfl⟩) rfl hl.1 rfl (Nat.le_of_ble_eq_true rfl) dX12_earOf_62 ⟨Nat.le_of_ble_eq_true rfl, Nat.le_of_ble_eq_true rfl⟩ (fun r30319 hr30319 => ?_)
                refine lv_if_eq (tgt := 98) hx hb dX12_earOf_65 (by decide) (fun c30320 => ?_) (fun c30320 => ?_)
                · have g30321 : Rg 0 0 r30319 := wk_eql hr30319.1 (by decide : Rg 0 0 (0 : Int32)) c30320 (by decide)
                  refine lv_iload hx hb dX12_earOf_98 (lv_at hl 3 rfl) ?_
                  refine lv_istore (lv' := [(4, .int y12_l4), (0, .ref (b 0)), (2, .int x1), (3, .int y12_l3), (5, .int y12_l5)]) hx hb dX12_earOf_100 hl (by decide) rfl (fun ls hl => ?_)
                  refine wk_iinc (lv' := fun r => [(5, .int r), (4, .int y12_l4), (0, .ref (b 0)), (2, .int x1), (3, .int y12_l3)]) (e1 := 2) (f := 4096) hx hb dX12_earOf_102 hl (k := 4) rfl (by decide) g30281 (by decide) (fun _ => rfl) (fun r30322 ls hr30322 er30322 hl => ?_)
                  refine lv_goto (tgt := 12) hx hb dX12_earOf_105 (by decide) ?_
                  exact ih12 y12_l3 y12_l4 r30322 ls g12_l2 (show Rg 0 4095 y12_l3 from rg_w g30280 (by decide) (by decide)) (show Rg 0 4095 y12_l4 from rg_w g30312 (by decide) (by decide)) (show Rg 1 4096 r30322 from rg_w hr30322 (by decide) (by decide)) (by exact ⟨x12_0.1, ex_1 x12_0.2 er30322 (fun z _ c _ _ => absurd (by rw [qr30318, ← z]; exact c) (hr30319.2.2 c30320))⟩) (lv_sub (l' := [(0, .ref (b 0)), (2, .int x1), (3, .int y12_l3), (4, .int y12_l4), (5, .int r30322)]) hl [2, 3, 4, 1, 0] rfl) (me_up hm12 er30322 (by decide))
                · have g30323 : Rg 1 1 r30319 := rg_ne_lo (k := 0) hr30319.1 (by decide) c30320 (by decide)
                  refine lv_iconst (v := 2) hx hb dX12_earOf_68 (by decide) ?_
                  refine lv_aload_n hx hb dX12_earOf_69 rfl (lv_at hl 0 rfl) ?_
                  refine va_get (D := D) (ci := 12) (v := .ref (b 2)) (C := RX12) (T := TX12) (N := 24) hx hb hts hin12 hown hK hP 0 rfl rfl 3 (by decide) (hts (.fieldLink RX12 17 "MissedPointsModel" "pairs" "[I") (by decide +kernel)) (fun _ h9 => h9) rfl dX12_earOf_70 ?_
                  refine lv_iload_n hx hb dX12_earOf_73 rfl (lv_at hl 2 rfl) ?_
                  refine lv_iload hx hb dX12_earOf_74 (lv_at hl 4 rfl) ?_
                  refine lv_iconst (v := (-1)) hx hb dX12_earOf_76 (by decide) ?_
                  refine lv_ixor hx hb dX12_earOf_77 ?_
                  refine wk_topP (P := fun r => r = y12_l5 ^^^ ((-1) : Int32)) rfl (fun r30324 qr30324 => ?_)
                  refine wk_iandl hx hb dX12_earOf_78 g30280 (by decide) (fun r30325 hr30325 qr30325 => ?_)
                  refine va_iald hx hb hK hP 2 0 rfl rfl (rg_in hr30325 (by decide) (by decide)) dX12_earOf_79 ?_
                  refine lz_top (y := (v 2 r30325.toNatClampNeg)) rfl ?_
                  refine lv_imul hx hb dX12_earOf_80 ?_
                  refine wk_topP (P := fun r => r = (2 : Int32) * (v 2 r30325.toNatClampNeg)) rfl (fun r30327 qr30327 => ?_)
                  refine lv_iload_n hx hb dX12_earOf_81 rfl (lv_at hl 2 rfl) ?_
                  refine lv_iload hx hb dX12_earOf_82 (lv_at hl 4 rfl) ?_
                  refine lv_iconst (v := (-1)) hx hb dX12_earOf_84 (by decide) ?_
                  refine lv_ixor hx hb dX12_earOf_85 ?_
                  refine wk_topP (P := fun r => r = y12_l5 ^^^ ((-1) : Int32)) rfl (fun r30328 qr30328 => ?_)
                  refine wk_iandl hx hb dX12_earOf_86 g30280 (by decide) (fun r30329 hr30329 qr30329 => ?_)
                  refine lz_ss (As := [.int r30329]) (rest := [.int r30327]) ⟨hx, hb, hml, hown, hts⟩ (w_X12_bits_E l D cI cS r30329 hr30329) hKK (hP.sub (ws' := []) [] rfl) (va_cwS 1 hts gX12_earOf_X12_bits rfl rfl rfl (by decide +kernel) ⟨Nat.le_of_ble_eq_true rfl, Nat.le_of_ble_eq_true rfl⟩) rfl hl.1 rfl (Nat.le_of_ble_eq_true rfl) dX12_earOf_87 ⟨Nat.le_of_ble_eq_true rfl, Nat.le_of_ble_eq_true rfl⟩ (fun r30330 hr30330 => ?_)
                  refine lv_icmp_ne (tgt := 98) hx hb dX12_earOf_90 (by decide) (fun c30331 => ?_) (fun c30331 => ?_)
                  · refine lv_iload hx hb dX12_earOf_98 (lv_at hl 3 rfl) ?_
                    refine lv_istore (lv' := [(4, .int y12_l4), (0, .ref (b 0)), (2, .int x1), (3, .int y12_l3), (5, .int y12_l5)]) hx hb dX12_earOf_100 hl (by decide) rfl (fun ls hl => ?_)
                    refine wk_iinc (lv' := fun r => [(5, .int r), (4, .int y12_l4), (0, .ref (b 0)), (2, .int x1), (3, .int y12_l3)]) (e1 := 2) (f := 4096) hx hb dX12_earOf_102 hl (k := 4) rfl (by decide) g30281 (by decide) (fun _ => rfl) (fun r30332 ls hr30332 er30332 hl => ?_)
                    refine lv_goto (tgt := 12) hx hb dX12_earOf_105 (by decide) ?_
                    exact ih12 y12_l3 y12_l4 r30332 ls g12_l2 (show Rg 0 4095 y12_l3 from rg_w g30280 (by decide) (by decide)) (show Rg 0 4095 y12_l4 from rg_w g30312 (by decide) (by decide)) (show Rg 1 4096 r30332 from rg_w hr30332 (by decide) (by decide)) (by exact ⟨x12_0.1, ex_1 x12_0.2 er30332 (fun z _ _ _ w => absurd w (fun w2 => c30331 (by rw [qr30327, (show r30325 = y12_l3 &&& (y12_l5 ^^^ (-1)) from by rw [qr30325, qr30324]), hr30330.2, (show r30329 = y12_l3 &&& (y12_l5 ^^^ (-1)) from by rw [qr30329, qr30328]), show y12_l3 &&& (y12_l5 ^^^ (-1)) = 0 from by rw [← z]; exact bit_s _]; exact w2)))⟩) (lv_sub (l' := [(0, .ref (b 0)), (2, .int x1), (3, .int y12_l3), (4, .int y12_l4), (5, .int r30332)]) hl [2, 3, 4, 1, 0] rfl) (me_up hm12 er30332 (by decide))
                  · have g30333 : Rg 0 12 r30327 := wk_eql (rg_any r30327) hr30330.1 c30331 (by decide)
                    refine lv_iload hx hb dX12_earOf_93 (lv_at hl 4 rfl) ?_
                    refine lv_goto (tgt := 100) hx hb dX12_earOf_95 (by decide) ?_
                    refine lv_istore (lv' := [(4, .int y12_l5), (0, .ref (b 0)), (2, .int x1), (3, .int y12_l3), (5, .int y12_l5)]) hx hb dX12_earOf_100 hl (by decide) rfl (fun ls hl => ?_)
                    refine wk_iinc (lv' := fun r => [(5, .int r), (4, .int y12_l5), (0, .ref (b 0)), (2, .int x1), (3, .int y12_l3)]) (e1 := 2) (f := 4096) hx hb dX12_earOf_102 hl (k := 4) rfl (by decide) g30281 (by decide) (fun _ => rfl) (fun r30334 ls hr30334 er30334 hl => ?_)
                    refine lv_goto (tgt := 12) hx hb dX12_earOf_105 (by decide) ?_
                    exact ih12 y12_l3 y12_l5 r30334 ls g12_l2 (show Rg 0 4095 y12_l3 from rg_w g30280 (by decide) (by decide)) (show Rg 0 4095 y12_l5 from rg_w g30281 (by decide) (by decide)) (show Rg 1 4096 r30334 from rg_w hr30334 (by decide) (by decide)) (by exact ⟨x12_0.1, ex_2 g30281 (by rw [← qr30282, ← qr30283]; exact c30284) (by have z1 := c30331; rw [qr30327, (show r30325 = y12_l3 &&& (y12_l5 ^^^ (-1)) from by rw [qr30325, qr30324]), hr30330.2, (show r30329 = y12_l3 &&& (y12_l5 ^^^ (-1)) from by rw [qr30329, qr30328])] at z1; exact z1)⟩) (lv_sub (l' := [(0, .ref (b 0)), (2, .int x1), (3, .int y12_l3), (4, .int y12_l5), (5, .int r30334)]) hl [2, 3, 4, 1, 0] rfl) (me_up hm12 er30334 (by decide))
              · refine lv_goto (tgt := 102) hx hb dX12_earOf_54 (by decide) ?_
                refine wk_iinc (lv' := fun r => [(5, .int r), (0, .ref (b 0)), (2, .int x1), (3, .int y12_l3), (4, .int y12_l4)]) (e1 := 2) (f := 4096) hx hb dX12_earOf_102 hl (k := 4) rfl (by decide) g30281 (by decide) (fun _ => rfl) (fun r30335 ls hr30335 er30335 hl => ?_)
                refine lv_goto (tgt := 12) hx hb dX12_earOf_105 (by decide) ?_
                exact ih12 y12_l3 y12_l4 r30335 ls g12_l2 (show Rg 0 4095 y12_l3 from rg_w g30280 (by decide) (by decide)) (show Rg 0 4095 y12_l4 from rg_w g30312 (by decide) (by decide)) (show Rg 1 4096 r30335 from rg_w hr30335 (by decide) (by decide)) (by exact ⟨x12_0.1, ex_1 x12_0.2 er30335 (fun _ _ _ _ _ => c30293)⟩) (lv_sub (l' := [(0, .ref (b 0)), (2, .int x1), (3, .int y12_l3), (4, .int y12_l4), (5, .int r30335)]) hl [1, 2, 3, 4, 0] rfl) (me_up hm12 er30335 (by decide))
  refine lv_iload_n hx hb dX12_earOf_0 rfl (lv_at hl 1 rfl) ?_
  refine lv_iload_n hx hb dX12_earOf_1 rfl (lv_at hl 2 rfl) ?_
  refine lv_iconst (v := (-1)) hx hb dX12_earOf_2 (by decide) ?_
  refine lv_ixor hx hb dX12_earOf_3 ?_
  refine wk_topP (P := fun r => r = x1 ^^^ ((-1) : Int32)) rfl (fun r30336 qr30336 => ?_)
  refine wk_iandl hx hb dX12_earOf_4 px0 (by decide) (fun r30337 hr30337 qr30337 => ?_)
  refine lv_istore_n (lv' := [(3, .int r30337), (0, .ref (b 0)), (1, .int x0), (2, .int x1)]) hx hb dX12_earOf_5 rfl hl (by decide) rfl (fun ls hl => ?_)
  refine lv_iconst (v := 0) hx hb dX12_earOf_6 (by decide) ?_
  refine lv_istore (lv' := [(4, .int 0), (3, .int r30337), (0, .ref (b 0)), (1, .int x0), (2, .int x1)]) hx hb dX12_earOf_7 hl (by decide) rfl (fun ls hl => ?_)
  refine lv_iconst (v := 1) hx hb dX12_earOf_9 (by decide) ?_
  refine lv_istore (lv' := [(5, .int 1), (4, .int 0), (3, .int r30337), (0, .ref (b 0)), (1, .int x0), (2, .int x1)]) hx hb dX12_earOf_10 hl (by decide) rfl (fun ls hl => ?_)
  exact lp12 4096 r30337 (0 : Int32) (1 : Int32) ls px1 hr30337 (by decide : Rg 0 4095 (0 : Int32)) (by decide : Rg 1 4096 (1 : Int32)) (by exact ⟨by rw [qr30337, qr30336], ex_0 hr30337.1 (by decide)⟩) (lv_sub (l' := [(0, .ref (b 0)), (2, .int x1), (3, .int r30337), (4, .int 0), (5, .int 1)]) hl [3, 5, 2, 1, 0] rfl) (me_i (by decide : Rg 1 4096 (1 : Int32)) (by decide))
set_option maxRecDepth 20000 in
theorem ggX12_ear_X12_earOf : GoodIn wsX12_ear wsX12_earOf := goodIn_r _ [34, 16, 28, 29, 4, 30, 24, 25, 26, 27, 10, 21, 22, 23, 35, 36, 37, 38, 39, 40, 41, 42, 43, 44, 45, 46, 47, 48, 49, 50, 51, 52, 53, 54, 55, 56, 57, 58] rfl (by decide +kernel)
set_option maxRecDepth 20000 in
theorem gX12_ear_X12_earOf : GoodIn wsX12_ear (wsV RX12 147 RX12 yX12_earOf wsX12_earOf) := goodIn_app (goodIn_of _ (by decide +kernel)) ggX12_ear_X12_earOf
theorem dX12_ear_10 : decode cX12_ear 10 = .ok (.ireturn, 1) := by decide +kernel
theorem dX12_ear_26 : decode cX12_ear 26 = .ok (.iload_n 1, 1) := by decide +kernel
theorem dX12_ear_27 : decode cX12_ear 27 = .ok (.iload_n 1, 1) := by decide +kernel
theorem dX12_ear_28 : decode cX12_ear 28 = .ok (.ineg, 1) := by decide +kernel
theorem dX12_ear_29 : decode cX12_ear 29 = .ok (.iand, 1) := by decide +kernel
theorem dX12_ear_30 : decode cX12_ear 30 = .ok (.istore_n 3, 1) := by decide +kernel
theorem dX12_ear_31 : decode cX12_ear 31 = .ok (.iconst 0, 1) := by decide +kernel
theorem dX12_ear_32 : decode cX12_ear 32 = .ok (.istore 4, 2) := by decide +kernel
theorem dX12_ear_34 : decode cX12_ear 34 = .ok (.iload_n 3, 1) := by decide +kernel
theorem dX12_ear_35 : decode cX12_ear 35 = .ok (.iload_n 1, 1) := by decide +kernel
theorem dX12_ear_36 : decode cX12_ear 36 = .ok (.if_icmp .eq 31, 3) := by decide +kernel
theorem dX12_ear_39 : decode cX12_ear 39 = .ok (.aload_n 0, 1) := by decide +kernel
theorem dX12_ear_40 : decode cX12_ear 40 = .ok (.iload_n 1, 1) := by decide +kernel
theorem dX12_ear_41 : decode cX12_ear 41 = .ok (.iload_n 3, 1) := by decide +kernel
theorem dX12_ear_42 : decode cX12_ear 42 = .ok (.invokevirtual 147, 3) := by decide +kernel
theorem dX12_ear_45 : decode cX12_ear 45 = .ok (.istore 5, 2) := by decide +kernel
theorem dX12_ear_47 : decode cX12_ear 47 = .ok (.iload 4, 2) := by decide +kernel
theorem dX12_ear_49 : decode cX12_ear 49 = .ok (.iload_n 2, 1) := by decide +kernel
theorem dX12_ear_50 : decode cX12_ear 50 = .ok (.if_icmp .ne 6, 3) := by decide +kernel
theorem dX12_ear_53 : decode cX12_ear 53 = .ok (.iload 5, 2) := by decide +kernel
theorem dX12_ear_55 : decode cX12_ear 55 = .ok (.ireturn, 1) := by decide +kernel
theorem dX12_ear_56 : decode cX12_ear 56 = .ok (.iload_n 3, 1) := by decide +kernel
theorem dX12_ear_57 : decode cX12_ear 57 = .ok (.iload 5, 2) := by decide +kernel
theorem dX12_ear_59 : decode cX12_ear 59 = .ok (.ior, 1) := by decide +kernel
theorem dX12_ear_60 : decode cX12_ear 60 = .ok (.istore_n 3, 1) := by decide +kernel
theorem dX12_ear_61 : decode cX12_ear 61 = .ok (.iinc 4 1, 3) := by decide +kernel
theorem dX12_ear_64 : decode cX12_ear 64 = .ok (.goto (-30), 3) := by decide +kernel
theorem dX12_ear_67 : decode cX12_ear 67 = .ok (.iload_n 2, 1) := by decide +kernel
theorem dX12_ear_68 : decode cX12_ear 68 = .ok (.iconst (-1), 1) := by decide +kernel
theorem dX12_ear_69 : decode cX12_ear 69 = .ok (.if_icmp .ne 8, 3) := by decide +kernel
theorem dX12_ear_72 : decode cX12_ear 72 = .ok (.iload 4, 2) := by decide +kernel
theorem dX12_ear_74 : decode cX12_ear 74 = .ok (.goto 4, 3) := by decide +kernel
theorem dX12_ear_77 : decode cX12_ear 77 = .ok (.iconst (-1), 1) := by decide +kernel
theorem dX12_ear_78 : decode cX12_ear 78 = .ok (.ireturn, 1) := by decide +kernel
set_option maxHeartbeats 4000000 in
set_option maxRecDepth 100000 in
theorem w_X12_ear (l : Launch) (D : va_G) (cI cS : ClassId) (sz : Nat) (b : Nat → Nat) (L v0 : SU) (hL : TyL L) (hV : TyV v0) (x0 x1 : Int32) : Met l yX12_ear wsX12_ear ({ frames := 3, cells := 0, slots := 0, locals := 120 }) (PQ D cI cS (wM cI b L v0) sz [.ref (b 0), .int x0, .int x1]) (QF (S := SU) D (wM cI b L v0) (wM cI b L) sz (fun r u => TyV u ∧ Rg (-2147483648) 2147483647 r ∧ True)) 0 0 (va_A (wM cI b L v0) sz) := by
  refine Met.ofW (cc := cX12_ear) (maxL := 6) (ret := (some .int)) (by decide) rfl ?_
  intro p e s m args below meth c s₁ B hml hv
  obtain ⟨rfl, hsz, hP, hKK, hD0⟩ := hv
  have hx := B.exec
  have hb := B.bytes
  have hr := B.returns
  have hts := atoms_spec (ws := wsX12_ear) B.pre
  have hown : s.vm.findClass RX12 = some m.cls := findClass_of_methodNamed B.named
  have hlocks := B.notSynchronized
  have hK := hKK.1
  subst hsz
  have hD := hD0.self (sz := s.heap.size)
  obtain ⟨A, hAe⟩ : ∃ A, A = va_A (wM cI b L v0) s.heap.size := ⟨_, rfl⟩
  rw [← hAe] at hD
  have hA : ∀ q : Nat, s.heap.size ≤ q → A q := fun q h => by rw [hAe]; exact Or.inr h
  have hS : va_S A s.heap s.heap [] := va_S.rf
  have hl := lv_entry ([.ref (b 0), .int x0, .int x1]) (n := 6) (Nat.le_of_ble_eq_true rfl)
  rw [lg_entry_eq]
  generalize (lg_sl ([.ref (b 0), .int x0, .int x1]) ++ List.replicate (6 - (lg_sl ([.ref (b 0), .int x0, .int x1])).length) Slot.unset).toArray = ls at hl ⊢
  have hl : lv_has ls 6 [(0, .ref (b 0)), (1, .int x0), (2, .int x1)] := hl
  obtain ⟨v, hv9⟩ : ∃ v : SU, v = v0 := ⟨_, rfl⟩
  rw [← hv9] at hP hD hV
  have lp34 : ∀ (n34 : Nat) (y34_l3 : Int32) (y34_l4 : Int32) (v : SU) (H : Heap) (locs : List Loc) (ls : Array Slot), Rg 0 4095 x0 → Rg 0 4095 y34_l3 → (EA v (L 0 0) x0 y34_l3 ∧ Rg 0 4095 x0) → TyV v → va_P D cls (wM cI b L v) H → va_D A (wM cI b L v) → va_S A s.heap H locs → lv_has ls 6 [(0, .ref (b 0)), (1, .int x0), (2, .int x1), (3, .int y34_l3), (4, .int y34_l4)] → 4095 - y34_l3.toInt < (n34 : Int) → W p l e (headSpec wsX12_ear ({ frames := 3, cells := 0, slots := 0, locals := 120 })).room s m ([.ref (b 0), .int x0, .int x1]).toArray below meth c H locs 0 0 (MQ below (QF (S := SU) D (wM cI b L v0) (wM cI b L) s.heap.size (fun r u => TyV u ∧ Rg (-2147483648) 2147483647 r ∧ True)) ([.ref (b 0), .int x0, .int x1]).toArray s 0 0 (va_A (wM cI b L v0) s.heap.size)) (F0 m 34 ls []) := by
    intro n34
    induction n34 with
    | zero =>
      intro y34_l3 y34_l4 v H locs ls g34_l1 g34_l3 x34_0 hV hP hD hS hl hm34
      exact absurd rfl (me_z g34_l3 hm34)
    | succ n34 ih34 =>
      intro y34_l3 y34_l4 v H locs ls g34_l1 g34_l3 x34_0 hV hP hD hS hl hm34
      refine lv_iload_n hx hb dX12_ear_34 rfl (lv_at hl 3 rfl) ?_
      refine lv_iload_n hx hb dX12_ear_35 rfl (lv_at hl 1 rfl) ?_
      refine lv_icmp_eq (tgt := 67) hx hb dX12_ear_36 (by decide) (fun c30945 => ?_) (fun c30945 => ?_)
      · refine lv_iload_n hx hb dX12_ear_67 rfl (lv_at hl 2 rfl) ?_
        refine lv_iconst (v := (-1)) hx hb dX12_ear_68 (by decide) ?_
        refine lv_icmp_ne (tgt := 77) hx hb dX12_ear_69 (by decide) (fun c30946 => ?_) (fun c30946 => ?_)
        · refine lv_iconst (v := (-1)) hx hb dX12_ear_77 (by decide) ?_
          subst hAe
          exact W.iret (v := (-1)) hx hb hr (fun t ht hW => ⟨⟨_, v, rfl, ⟨hV, (by decide : Rg (-2147483648) 2147483647 ((-1) : Int32)), trivial⟩, by rw [ht]; exact hP, hD⟩, hS.F ht⟩) hS.2.2 dX12_ear_78
        · have g30947 : Rg (-1) (-1) x1 := wk_eql (rg_any x1) (by decide : Rg (-1) (-1) ((-1) : Int32)) c30946 (by decide)
          refine lv_iload hx hb dX12_ear_72 (lv_at hl 4 rfl) ?_
          refine lv_goto (tgt := 78) hx hb dX12_ear_74 (by decide) ?_
          subst hAe
          exact W.iret (v := y34_l4) hx hb hr (fun t ht hW => ⟨⟨_, v, rfl, ⟨hV, (rg_any y34_l4), trivial⟩, by rw [ht]; exact hP, hD⟩, hS.F ht⟩) hS.2.2 dX12_ear_78
      · refine lv_aload_n hx hb dX12_ear_39 rfl (lv_at hl 0 rfl) ?_
        refine lv_iload_n hx hb dX12_ear_40 rfl (lv_at hl 1 rfl) ?_
        refine lv_iload_n hx hb dX12_ear_41 rfl (lv_at hl 3 rfl) ?_
        refine wk_sv 0 (As := [.int x0, .int y34_l3]) (rest := []) ⟨hx, hb, hml, hown, hts⟩ (w_X12_earOf l D cI cS b L v hL hV x0 y34_l3 g34_l1 g34_l3) hKK hP (ci := 12) rfl rfl (cwV 2 hts gX12_ear_X12_earOf rfl rfl rfl (by decide +kernel) ⟨Nat.le_of_ble_eq_true rfl, Nat.le_of_ble_eq_true rfl⟩) rfl hl.1 rfl (Nat.le_of_ble_eq_true rfl) dX12_ear_42 ⟨Nat.le_of_ble_eq_true rfl, Nat.le_of_ble_eq_true rfl⟩ (fun r30948 hr30948 => ?_)
        refine lv_istore (lv' := [(5, .int r30948), (0, .ref (b 0)), (1, .int x0), (2, .int x1), (3, .int y34_l3), (4, .int y34_l4)]) hx hb dX12_ear_45 hl (by decide) rfl (fun ls hl => ?_)
        refine lv_iload hx hb dX12_ear_47 (lv_at hl 5 rfl) ?_
        refine lv_iload_n hx hb dX12_ear_49 rfl (lv_at hl 3 rfl) ?_
        refine lv_icmp_ne (tgt := 56) hx hb dX12_ear_50 (by decide) (fun c30949 => ?_) (fun c30949 => ?_)
        · have g30950 : Rg 0 4095 r30948 := (ea_1 x34_0.1 hV.2.1 x34_0.2 g34_l3 c30945 hr30948.2 rfl).2.2
          refine lv_iload_n hx hb dX12_ear_56 rfl (lv_at hl 4 rfl) ?_
          refine lv_iload hx hb dX12_ear_57 (lv_at hl 0 rfl) ?_
          refine wk_ior 12 (e1 := 0) (f := 4095) hx hb dX12_ear_59 g34_l3 g30950 (by decide) (fun r30951 hr30951 qr30951 => ?_)
          refine lv_istore_n (lv' := [(3, .int r30951), (5, .int r30948), (0, .ref (b 0)), (1, .int x0), (2, .int x1), (4, .int y34_l4)]) hx hb dX12_ear_60 rfl hl (by decide) rfl (fun ls hl => ?_)
          refine wk_iincA (lv' := fun r => [(4, .int r), (3, .int r30951), (5, .int r30948), (0, .ref (b 0)), (1, .int x0), (2, .int x1)]) hx hb dX12_ear_61 hl (k := 5) rfl (by decide) (fun _ => rfl) (fun r30952 ls hl => ?_)
          refine lv_goto (tgt := 34) hx hb dX12_ear_64 (by decide) ?_
          exact ih34 r30951 r30952 v _ _ ls g34_l1 hr30951 (by exact ⟨(ea_1 x34_0.1 hV.2.1 x34_0.2 g34_l3 c30945 hr30948.2 qr30951).1, x34_0.2⟩) hV hP hD hS (lv_sub (l' := [(0, .ref (b 0)), (1, .int x0), (2, .int x1), (3, .int r30951), (4, .int r30952)]) hl [3, 4, 5, 1, 0] rfl) (by have z1 := (ea_1 x34_0.1 hV.2.1 x34_0.2 g34_l3 c30945 hr30948.2 qr30951).2.1; have z2 := hm34; omega)
        · refine lv_iload hx hb dX12_ear_53 (lv_at hl 0 rfl) ?_
          subst hAe
          exact W.iret (v := r30948) hx hb hr (fun t ht hW => ⟨⟨_, v, rfl, ⟨hV, (rg_any r30948), trivial⟩, by rw [ht]; exact hP, hD⟩, hS.F ht⟩) hS.2.2 dX12_ear_55
  refine lv_aload_n hx hb dX12_ear_0 rfl (lv_at hl 0 rfl) ?_
  refine lv_iload_n hx hb dX12_ear_1 rfl (lv_at hl 1 rfl) ?_
  refine wk_sv 0 (As := [.int x0]) (rest := []) ⟨hx, hb, hml, hown, hts⟩ (w_X12_isSet l D cI cS b L v hL hV x0) hKK hP (ci := 12) rfl rfl (cwV 1 hts gX12_ear_X12_isSet rfl rfl rfl (by decide +kernel) ⟨Nat.le_of_ble_eq_true rfl, Nat.le_of_ble_eq_true rfl⟩) rfl hl.1 rfl (Nat.le_of_ble_eq_true rfl) dX12_ear_2 ⟨Nat.le_of_ble_eq_true rfl, Nat.le_of_ble_eq_true rfl⟩ (fun r30953 hr30953 => ?_)
  refine lv_if_ne (tgt := 11) hx hb dX12_ear_5 (by decide) (fun c30954 => ?_) (fun c30954 => ?_)
  · have g30955 : Rg 0 4095 x0 := (hr30953.2.1 c30954)
    have g30956 : Rg 1 1 r30953 := rg_ne_lo (k := 0) hr30953.1 (by decide) c30954 (by decide)
    refine lv_aload_n hx hb dX12_ear_11 rfl (lv_at hl 0 rfl) ?_
    refine wk_qv (wM cI b L) v (As := []) (rest := []) ⟨hx, hb, hml, hown, hts⟩ (w_X12_reckons l D cI cS _ b L v hL hV) hKK hP hD hS hA 0 (ci := 12) rfl rfl (cwV 0 hts gX12_ear_X12_reckons rfl rfl rfl (by decide +kernel) ⟨Nat.le_of_ble_eq_true rfl, Nat.le_of_ble_eq_true rfl⟩) rfl hl.1 rfl (Nat.le_of_ble_eq_true rfl) dX12_ear_12 ⟨Nat.le_of_ble_eq_true rfl, Nat.le_of_ble_eq_true rfl⟩ (fun v H locs hr30957 hP hD hS => ?_)
    have hV := hr30957.1
    refine lv_aload_n hx hb dX12_ear_15 rfl (lv_at hl 0 rfl) ?_
    refine lv_iload_n hx hb dX12_ear_16 rfl (lv_at hl 1 rfl) ?_
    refine wk_sv 0 (As := [.int x0]) (rest := []) ⟨hx, hb, hml, hown, hts⟩ (w_X12_isCritical_E l D cI cS b L v hL hV x0 g30955) hKK hP (ci := 12) rfl rfl (cwV 1 hts gX12_ear_X12_isCritical rfl rfl rfl (by decide +kernel) ⟨Nat.le_of_ble_eq_true rfl, Nat.le_of_ble_eq_true rfl⟩) rfl hl.1 rfl (Nat.le_of_ble_eq_true rfl) dX12_ear_17 ⟨Nat.le_of_ble_eq_true rfl, Nat.le_of_ble_eq_true rfl⟩ (fun r30958 hr30958 => ?_)
    refine lv_if_ne (tgt := 26) hx hb dX12_ear_20 (by decide) (fun c30959 => ?_) (fun c30959 => ?_)
    · have g30960 : Rg 1 1 r30958 := rg_ne_lo (k := 0) hr30958.1 (by decide) c30959 (by decide)
      refine lv_iload_n hx hb dX12_ear_26 rfl (lv_at hl 1 rfl) ?_
      refine lv_iload_n hx hb dX12_ear_27 rfl (lv_at hl 1 rfl) ?_
      refine lv_ineg hx hb dX12_ear_28 ?_
      refine wk_topP (P := fun r => r = -x0) rfl (fun r30961 qr30961 => ?_)
      refine wk_iandl hx hb dX12_ear_29 g30955 (by decide) (fun r30962 hr30962 qr30962 => ?_)
      refine lv_istore_n (lv' := [(3, .int r30962), (0, .ref (b 0)), (1, .int x0), (2, .int x1)]) hx hb dX12_ear_30 rfl hl (by decide) rfl (fun ls hl => ?_)
      refine lv_iconst (v := 0) hx hb dX12_ear_31 (by decide) ?_
      refine lv_istore (lv' := [(4, .int 0), (3, .int r30962), (0, .ref (b 0)), (1, .int x0), (2, .int x1)]) hx hb dX12_ear_32 hl (by decide) rfl (fun ls hl => ?_)
      exact lp34 4096 r30962 (0 : Int32) v _ _ ls g30955 hr30962 (by rw [qr30962, qr30961]; exact ⟨ea_0 (hr30958.2.1 c30959) g30955 hL.1 (hr30953.2.2 c30954), g30955⟩) hV hP hD hS (lv_sub (l' := [(0, .ref (b 0)), (1, .int x0), (2, .int x1), (3, .int r30962), (4, .int 0)]) hl [2, 3, 4, 1, 0] rfl) (me_i hr30962 (by decide))
    · have g30963 : Rg 0 0 r30958 := wk_eql hr30958.1 (by decide : Rg 0 0 (0 : Int32)) c30959 (by decide)
      refine lv_bipush (v := (-3)) hx hb dX12_ear_23 (by decide) ?_
      subst hAe
      exact W.iret (v := (-3)) hx hb hr (fun t ht hW => ⟨⟨_, v, rfl, ⟨hV, (by decide : Rg (-2147483648) 2147483647 ((-3) : Int32)), trivial⟩, by rw [ht]; exact hP, hD⟩, hS.F ht⟩) hS.2.2 dX12_ear_25
  · have g30964 : Rg 0 0 r30953 := wk_eql hr30953.1 (by decide : Rg 0 0 (0 : Int32)) c30954 (by decide)
    refine lv_bipush (v := (-2)) hx hb dX12_ear_8 (by decide) ?_
    subst hAe
    exact W.iret (v := (-2)) hx hb hr (fun t ht hW => ⟨⟨_, v, rfl, ⟨hV, (by decide : Rg (-2147483648) 2147483647 ((-2) : Int32)), trivial⟩, by rw [ht]; exact hP, hD⟩, hS.F ht⟩) hS.2.2 dX12_ear_10
