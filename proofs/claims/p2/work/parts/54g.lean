set_option maxRecDepth 20000 in
theorem ggX12_grow_X12_wayLaid : GoodIn wsX12_grow wsX12_wayLaid := goodIn_r _ [29, 3, 2, 12, 30, 31, 32, 7, 33, 11, 23, 24, 25, 34, 35, 36, 37, 38, 39, 40, 41, 42, 43, 44, 45, 46, 47, 48, 49, 50, 51, 52, 53, 54, 55, 56, 57] (by decide +kernel) (by decide +kernel)
set_option maxRecDepth 20000 in
theorem gX12_grow_X12_wayLaid : GoodIn wsX12_grow (wsV RX12 166 RX12 yX12_wayLaid wsX12_wayLaid) := goodIn_app (goodIn_of _ (by decide +kernel)) ggX12_grow_X12_wayLaid
theorem dX12_grow_102 : decode cX12_grow 102 = .ok (.if_icmp .ge 35, 3) := by decide +kernel
theorem dX12_grow_105 : decode cX12_grow 105 = .ok (.iload 4, 2) := by decide +kernel
theorem dX12_grow_107 : decode cX12_grow 107 = .ok (.aload_n 0, 1) := by decide +kernel
theorem dX12_grow_108 : decode cX12_grow 108 = .ok (.getfield 44, 3) := by decide +kernel
theorem dX12_grow_111 : decode cX12_grow 111 = .ok (.bipush 40, 2) := by decide +kernel
theorem dX12_grow_113 : decode cX12_grow 113 = .ok (.iload_n 1, 1) := by decide +kernel
theorem dX12_grow_114 : decode cX12_grow 114 = .ok (.imul, 1) := by decide +kernel
theorem dX12_grow_115 : decode cX12_grow 115 = .ok (.iload 5, 2) := by decide +kernel
theorem dX12_grow_117 : decode cX12_grow 117 = .ok (.iadd, 1) := by decide +kernel
theorem dX12_grow_118 : decode cX12_grow 118 = .ok (.iaload, 1) := by decide +kernel
theorem dX12_grow_119 : decode cX12_grow 119 = .ok (.iconst (-1), 1) := by decide +kernel
theorem dX12_grow_12 : decode cX12_grow 12 = .ok (.aload_n 0, 1) := by decide +kernel
theorem dX12_grow_120 : decode cX12_grow 120 = .ok (.if_icmp .ne 7, 3) := by decide +kernel
theorem dX12_grow_123 : decode cX12_grow 123 = .ok (.iconst 0, 1) := by decide +kernel
theorem dX12_grow_124 : decode cX12_grow 124 = .ok (.goto 4, 3) := by decide +kernel
theorem dX12_grow_127 : decode cX12_grow 127 = .ok (.iconst 1, 1) := by decide +kernel
theorem dX12_grow_128 : decode cX12_grow 128 = .ok (.iadd, 1) := by decide +kernel
theorem dX12_grow_129 : decode cX12_grow 129 = .ok (.istore 4, 2) := by decide +kernel
theorem dX12_grow_13 : decode cX12_grow 13 = .ok (.invokevirtual 166, 3) := by decide +kernel
theorem dX12_grow_131 : decode cX12_grow 131 = .ok (.iinc 5 1, 3) := by decide +kernel
theorem dX12_grow_134 : decode cX12_grow 134 = .ok (.goto (-38), 3) := by decide +kernel
theorem dX12_grow_137 : decode cX12_grow 137 = .ok (.iload 4, 2) := by decide +kernel
theorem dX12_grow_139 : decode cX12_grow 139 = .ok (.iconst 2, 1) := by decide +kernel
theorem dX12_grow_140 : decode cX12_grow 140 = .ok (.idiv, 1) := by decide +kernel
theorem dX12_grow_141 : decode cX12_grow 141 = .ok (.ireturn, 1) := by decide +kernel
theorem dX12_grow_16 : decode cX12_grow 16 = .ok (.istore_n 3, 1) := by decide +kernel
theorem dX12_grow_17 : decode cX12_grow 17 = .ok (.iload_n 3, 1) := by decide +kernel
theorem dX12_grow_18 : decode cX12_grow 18 = .ok (.ifCond .ne 5, 3) := by decide +kernel
theorem dX12_grow_21 : decode cX12_grow 21 = .ok (.iconst (-1), 1) := by decide +kernel
theorem dX12_grow_22 : decode cX12_grow 22 = .ok (.ireturn, 1) := by decide +kernel
theorem dX12_grow_23 : decode cX12_grow 23 = .ok (.iconst 0, 1) := by decide +kernel
theorem dX12_grow_24 : decode cX12_grow 24 = .ok (.istore 4, 2) := by decide +kernel
theorem dX12_grow_26 : decode cX12_grow 26 = .ok (.iload 4, 2) := by decide +kernel
theorem dX12_grow_28 : decode cX12_grow 28 = .ok (.iload_n 3, 1) := by decide +kernel
theorem dX12_grow_29 : decode cX12_grow 29 = .ok (.if_icmp .ge 61, 3) := by decide +kernel
theorem dX12_grow_32 : decode cX12_grow 32 = .ok (.aload_n 0, 1) := by decide +kernel
theorem dX12_grow_33 : decode cX12_grow 33 = .ok (.getfield 44, 3) := by decide +kernel
theorem dX12_grow_36 : decode cX12_grow 36 = .ok (.bipush 40, 2) := by decide +kernel
theorem dX12_grow_38 : decode cX12_grow 38 = .ok (.iload_n 1, 1) := by decide +kernel
theorem dX12_grow_39 : decode cX12_grow 39 = .ok (.imul, 1) := by decide +kernel
theorem dX12_grow_40 : decode cX12_grow 40 = .ok (.aload_n 0, 1) := by decide +kernel
theorem dX12_grow_41 : decode cX12_grow 41 = .ok (.getfield 29, 3) := by decide +kernel
theorem dX12_grow_44 : decode cX12_grow 44 = .ok (.iload 4, 2) := by decide +kernel
theorem dX12_grow_46 : decode cX12_grow 46 = .ok (.iaload, 1) := by decide +kernel
theorem dX12_grow_47 : decode cX12_grow 47 = .ok (.iadd, 1) := by decide +kernel
theorem dX12_grow_48 : decode cX12_grow 48 = .ok (.aload_n 0, 1) := by decide +kernel
theorem dX12_grow_49 : decode cX12_grow 49 = .ok (.getfield 29, 3) := by decide +kernel
theorem dX12_grow_52 : decode cX12_grow 52 = .ok (.iload 4, 2) := by decide +kernel
theorem dX12_grow_54 : decode cX12_grow 54 = .ok (.iconst 1, 1) := by decide +kernel
theorem dX12_grow_55 : decode cX12_grow 55 = .ok (.iadd, 1) := by decide +kernel
theorem dX12_grow_56 : decode cX12_grow 56 = .ok (.iaload, 1) := by decide +kernel
theorem dX12_grow_57 : decode cX12_grow 57 = .ok (.iastore, 1) := by decide +kernel
theorem dX12_grow_58 : decode cX12_grow 58 = .ok (.aload_n 0, 1) := by decide +kernel
theorem dX12_grow_59 : decode cX12_grow 59 = .ok (.getfield 44, 3) := by decide +kernel
theorem dX12_grow_62 : decode cX12_grow 62 = .ok (.bipush 40, 2) := by decide +kernel
theorem dX12_grow_64 : decode cX12_grow 64 = .ok (.iload_n 1, 1) := by decide +kernel
theorem dX12_grow_65 : decode cX12_grow 65 = .ok (.imul, 1) := by decide +kernel
theorem dX12_grow_66 : decode cX12_grow 66 = .ok (.aload_n 0, 1) := by decide +kernel
theorem dX12_grow_67 : decode cX12_grow 67 = .ok (.getfield 29, 3) := by decide +kernel
theorem dX12_grow_70 : decode cX12_grow 70 = .ok (.iload 4, 2) := by decide +kernel
theorem dX12_grow_72 : decode cX12_grow 72 = .ok (.iconst 1, 1) := by decide +kernel
theorem dX12_grow_73 : decode cX12_grow 73 = .ok (.iadd, 1) := by decide +kernel
theorem dX12_grow_74 : decode cX12_grow 74 = .ok (.iaload, 1) := by decide +kernel
theorem dX12_grow_75 : decode cX12_grow 75 = .ok (.iadd, 1) := by decide +kernel
theorem dX12_grow_76 : decode cX12_grow 76 = .ok (.aload_n 0, 1) := by decide +kernel
theorem dX12_grow_77 : decode cX12_grow 77 = .ok (.getfield 29, 3) := by decide +kernel
theorem dX12_grow_80 : decode cX12_grow 80 = .ok (.iload 4, 2) := by decide +kernel
theorem dX12_grow_82 : decode cX12_grow 82 = .ok (.iaload, 1) := by decide +kernel
theorem dX12_grow_83 : decode cX12_grow 83 = .ok (.iastore, 1) := by decide +kernel
theorem dX12_grow_84 : decode cX12_grow 84 = .ok (.iinc 4 2, 3) := by decide +kernel
theorem dX12_grow_87 : decode cX12_grow 87 = .ok (.goto (-61), 3) := by decide +kernel
theorem dX12_grow_90 : decode cX12_grow 90 = .ok (.iconst 0, 1) := by decide +kernel
theorem dX12_grow_91 : decode cX12_grow 91 = .ok (.istore 4, 2) := by decide +kernel
theorem dX12_grow_93 : decode cX12_grow 93 = .ok (.iconst 0, 1) := by decide +kernel
theorem dX12_grow_94 : decode cX12_grow 94 = .ok (.istore 5, 2) := by decide +kernel
theorem dX12_grow_96 : decode cX12_grow 96 = .ok (.iload 5, 2) := by decide +kernel
theorem dX12_grow_98 : decode cX12_grow 98 = .ok (.aload_n 0, 1) := by decide +kernel
theorem dX12_grow_99 : decode cX12_grow 99 = .ok (.getfield 63, 3) := by decide +kernel
set_option maxHeartbeats 4000000 in
set_option maxRecDepth 100000 in
theorem w_X12_grow (l : Launch) (D : va_G) (cI cS : ClassId) (sz : Nat) (b : Nat → Nat) (L v0 : SU) (hL : TyL L) (hV : TyV v0) (x0 : Int32) : Met l yX12_grow wsX12_grow ({ frames := 9, cells := 0, slots := 0, locals := 360 }) (PQ D cI cS (wM cI b L v0) sz [.ref (b 0), .int x0]) (QF (S := SU) D (wM cI b L v0) (wM cI b L) sz (fun r u => TyV u ∧ Rg (-2147483648) 2147483647 r ∧ True)) 0 0 (va_A (wM cI b L v0) sz) := by
  refine Met.ofW (cc := cX12_grow) (maxL := 6) (ret := (some .int)) (by decide) rfl ?_
  intro p e s m args below meth c s₁ B hml hv
  obtain ⟨rfl, hsz, hP, hKK, hD0⟩ := hv
  have hx := B.exec
  have hb := B.bytes
  have hr := B.returns
  have hts := atoms_spec (ws := wsX12_grow) B.pre
  have hown : s.vm.findClass RX12 = some m.cls := findClass_of_methodNamed B.named
  have hlocks := B.notSynchronized
  have hK := hKK.1
  have hin12 : ∀ w ∈ wsX120, w ∈ wsX12_grow := by decide +kernel
  subst hsz
  have hD := hD0.self (sz := s.heap.size)
  obtain ⟨A, hAe⟩ : ∃ A, A = va_A (wM cI b L v0) s.heap.size := ⟨_, rfl⟩
  rw [← hAe] at hD
  have hA : ∀ q : Nat, s.heap.size ≤ q → A q := fun q h => by rw [hAe]; exact Or.inr h
  have hS : va_S A s.heap s.heap [] := va_S.rf
  have hl := lv_entry ([.ref (b 0), .int x0]) (n := 6) (Nat.le_of_ble_eq_true rfl)
  rw [lg_entry_eq]
  generalize (lg_sl ([.ref (b 0), .int x0]) ++ List.replicate (6 - (lg_sl ([.ref (b 0), .int x0])).length) Slot.unset).toArray = ls at hl ⊢
  have hl : lv_has ls 6 [(0, .ref (b 0)), (1, .int x0)] := hl
  obtain ⟨v, hv9⟩ : ∃ v : SU, v = v0 := ⟨_, rfl⟩
  rw [← hv9] at hP hD hV
  have lp96 : ∀ (n96 : Nat) (y96_l4 : Int32) (y96_l5 : Int32) (v : SU) (H : Heap) (locs : List Loc) (ls : Array Slot), Rg 0 3 x0 → Rg 0 12 y96_l5 → TyV v → va_P D cls (wM cI b L v) H → va_D A (wM cI b L v) → va_S A s.heap H locs → lv_has ls 6 [(0, .ref (b 0)), (1, .int x0), (4, .int y96_l4), (5, .int y96_l5)] → 12 - y96_l5.toInt < (n96 : Int) → W p l e (headSpec wsX12_grow ({ frames := 9, cells := 0, slots := 0, locals := 360 })).room s m ([.ref (b 0), .int x0]).toArray below meth c H locs 0 0 (MQ below (QF (S := SU) D (wM cI b L v0) (wM cI b L) s.heap.size (fun r u => TyV u ∧ Rg (-2147483648) 2147483647 r ∧ True)) ([.ref (b 0), .int x0]).toArray s 0 0 (va_A (wM cI b L v0) s.heap.size)) (F0 m 96 ls []) := by
    intro n96
    induction n96 with
    | zero =>
      intro y96_l4 y96_l5 v H locs ls g96_l1 g96_l5 hV hP hD hS hl hm96
      exact absurd rfl (me_z g96_l5 hm96)
    | succ n96 ih96 =>
      intro y96_l4 y96_l5 v H locs ls g96_l1 g96_l5 hV hP hD hS hl hm96
      refine lv_iload hx hb dX12_grow_96 (lv_at hl 3 rfl) ?_
      refine lv_aload_n hx hb dX12_grow_98 rfl (lv_at hl 0 rfl) ?_
      refine va_get (D := D) (ci := 12) (v := .int (L 0 0)) (C := RX12) (T := TX12) (N := 24) hx hb hts hin12 hown hK hP 0 rfl rfl 0 (by decide) (hts (.fieldLink RX12 63 "MissedPointsModel" "many" "I") (by decide +kernel)) (fun _ h9 => h9) rfl dX12_grow_99 ?_
      refine lv_icmp_ge (tgt := 137) hx hb dX12_grow_102 (by decide) (fun c27027 => ?_) (fun c27027 => ?_)
      · refine lv_iload hx hb dX12_grow_137 (lv_at hl 2 rfl) ?_
        refine lv_iconst (v := 2) hx hb dX12_grow_139 (by decide) ?_
        refine lv_idiv hx hb dX12_grow_140 (by decide) ?_
        refine wk_any (fun r27028 => ?_)
        subst hAe
        exact W.iret (v := r27028) hx hb hr (fun t ht hW => ⟨⟨_, v, rfl, ⟨hV, (rg_any r27028), trivial⟩, by rw [ht]; exact hP, hD⟩, hS.F ht⟩) hS.2.2 dX12_grow_141
      · have g27029 : Rg 1 12 (L 0 0) := rg_ltr g96_l5 hL.1 (rg_nle c27027) (by decide)
        have g27030 : Rg 0 11 y96_l5 := rg_ltl g96_l5 hL.1 (rg_nle c27027) (by decide)
        refine lv_iload hx hb dX12_grow_105 (lv_at hl 2 rfl) ?_
        refine lv_aload_n hx hb dX12_grow_107 rfl (lv_at hl 0 rfl) ?_
        refine va_get (D := D) (ci := 12) (v := .ref (b 11)) (C := RX12) (T := TX12) (N := 24) hx hb hts hin12 hown hK hP 0 rfl rfl 18 (by decide) (hts (.fieldLink RX12 44 "MissedPointsModel" "items" "[I") (by decide +kernel)) (fun _ h9 => h9) rfl dX12_grow_108 ?_
        refine lv_bipush (v := 40) hx hb dX12_grow_111 (by decide) ?_
        refine lv_iload_n hx hb dX12_grow_113 rfl (lv_at hl 1 rfl) ?_
        refine wk_imul (f := 120) hx hb dX12_grow_114 (by decide : Rg 0 40 (40 : Int32)) g96_l1 (by decide) (fun r27031 hr27031 er27031 qr27031 => ?_)
        refine lv_iload hx hb dX12_grow_115 (lv_at hl 3 rfl) ?_
        refine wk_iadd (e1 := 0) (f := 131) hx hb dX12_grow_117 hr27031 g27030 (by decide) (fun r27032 hr27032 er27032 qr27032 => ?_)
        refine wk_aldA hx hb hK hP 11 0 rfl rfl (rg_in hr27032 (by decide) (by decide)) dX12_grow_118 (fun r27033 => ?_)
        refine lv_iconst (v := (-1)) hx hb dX12_grow_119 (by decide) ?_
        refine lv_icmp_ne (tgt := 127) hx hb dX12_grow_120 (by decide) (fun c27034 => ?_) (fun c27034 => ?_)
        · refine lv_iconst (v := 1) hx hb dX12_grow_127 (by decide) ?_
          refine lv_iadd hx hb dX12_grow_128 ?_
          refine wk_topP (P := fun r => r = y96_l4 + (1 : Int32)) rfl (fun r27035 qr27035 => ?_)
          refine lv_istore (lv' := [(4, .int r27035), (0, .ref (b 0)), (1, .int x0), (5, .int y96_l5)]) hx hb dX12_grow_129 hl (by decide) rfl (fun ls hl => ?_)
          refine wk_iinc (lv' := fun r => [(5, .int r), (4, .int r27035), (0, .ref (b 0)), (1, .int x0)]) (e1 := 1) (f := 12) hx hb dX12_grow_131 hl (k := 3) rfl (by decide) g27030 (by decide) (fun _ => rfl) (fun r27036 ls hr27036 er27036 hl => ?_)
          refine lv_goto (tgt := 96) hx hb dX12_grow_134 (by decide) ?_
          exact ih96 r27035 r27036 v _ _ ls g96_l1 (show Rg 0 12 r27036 from rg_w hr27036 (by decide) (by decide)) hV hP hD hS (lv_sub (l' := [(0, .ref (b 0)), (1, .int x0), (4, .int r27035), (5, .int r27036)]) hl [2, 3, 1, 0] rfl) (me_up hm96 er27036 (by decide))
        · have g27037 : Rg (-1) (-1) r27033 := wk_eql (rg_any r27033) (by decide : Rg (-1) (-1) ((-1) : Int32)) c27034 (by decide)
          refine lv_iconst (v := 0) hx hb dX12_grow_123 (by decide) ?_
          refine lv_goto (tgt := 128) hx hb dX12_grow_124 (by decide) ?_
          refine wk_iadd (e1 := (-2147483648)) (f := 2147483647) hx hb dX12_grow_128 (rg_any y96_l4) (by decide : Rg 0 0 (0 : Int32)) (by decide) (fun r27038 hr27038 er27038 qr27038 => ?_)
          refine lv_istore (lv' := [(4, .int r27038), (0, .ref (b 0)), (1, .int x0), (5, .int y96_l5)]) hx hb dX12_grow_129 hl (by decide) rfl (fun ls hl => ?_)
          refine wk_iinc (lv' := fun r => [(5, .int r), (4, .int r27038), (0, .ref (b 0)), (1, .int x0)]) (e1 := 1) (f := 12) hx hb dX12_grow_131 hl (k := 3) rfl (by decide) g27030 (by decide) (fun _ => rfl) (fun r27039 ls hr27039 er27039 hl => ?_)
          refine lv_goto (tgt := 96) hx hb dX12_grow_134 (by decide) ?_
          exact ih96 r27038 r27039 v _ _ ls g96_l1 (show Rg 0 12 r27039 from rg_w hr27039 (by decide) (by decide)) hV hP hD hS (lv_sub (l' := [(0, .ref (b 0)), (1, .int x0), (4, .int r27038), (5, .int r27039)]) hl [2, 3, 1, 0] rfl) (me_up hm96 er27039 (by decide))
  have lp26 : ∀ (n26 : Nat) (y26_l3 : Int32) (y26_l4 : Int32) (v : SU) (H : Heap) (locs : List Loc) (ls : Array Slot), Rg 0 3 x0 → Rg 1 12 y26_l3 → Rg 0 12 y26_l4 → (y26_l3.toInt % 2 = 0 ∧ y26_l4.toInt % 2 = 0) → TyV v → va_P D cls (wM cI b L v) H → va_D A (wM cI b L v) → va_S A s.heap H locs → lv_has ls 6 [(0, .ref (b 0)), (1, .int x0), (3, .int y26_l3), (4, .int y26_l4)] → 12 - y26_l4.toInt < (n26 : Int) → W p l e (headSpec wsX12_grow ({ frames := 9, cells := 0, slots := 0, locals := 360 })).room s m ([.ref (b 0), .int x0]).toArray below meth c H locs 0 0 (MQ below (QF (S := SU) D (wM cI b L v0) (wM cI b L) s.heap.size (fun r u => TyV u ∧ Rg (-2147483648) 2147483647 r ∧ True)) ([.ref (b 0), .int x0]).toArray s 0 0 (va_A (wM cI b L v0) s.heap.size)) (F0 m 26 ls []) := by
    intro n26
    induction n26 with
    | zero =>
      intro y26_l3 y26_l4 v H locs ls g26_l1 g26_l3 g26_l4 x26_0 hV hP hD hS hl hm26
      exact absurd rfl (me_z g26_l4 hm26)
    | succ n26 ih26 =>
      intro y26_l3 y26_l4 v H locs ls g26_l1 g26_l3 g26_l4 x26_0 hV hP hD hS hl hm26
      refine lv_iload hx hb dX12_grow_26 (lv_at hl 3 rfl) ?_
      refine lv_iload_n hx hb dX12_grow_28 rfl (lv_at hl 2 rfl) ?_
      refine lv_icmp_ge (tgt := 90) hx hb dX12_grow_29 (by decide) (fun c27040 => ?_) (fun c27040 => ?_)
      · have g27041 : Rg 1 12 y26_l4 := rg_ler g26_l3 g26_l4 c27040 (by decide)
        refine lv_iconst (v := 0) hx hb dX12_grow_90 (by decide) ?_
        refine lv_istore (lv' := [(4, .int 0), (0, .ref (b 0)), (1, .int x0), (3, .int y26_l3)]) hx hb dX12_grow_91 hl (by decide) rfl (fun ls hl => ?_)
        refine lv_iconst (v := 0) hx hb dX12_grow_93 (by decide) ?_
        refine lv_istore (lv' := [(5, .int 0), (4, .int 0), (0, .ref (b 0)), (1, .int x0), (3, .int y26_l3)]) hx hb dX12_grow_94 hl (by decide) rfl (fun ls hl => ?_)
        exact lp96 13 (0 : Int32) (0 : Int32) v _ _ ls g26_l1 (by decide : Rg 0 12 (0 : Int32)) hV hP hD hS (lv_sub (l' := [(0, .ref (b 0)), (1, .int x0), (4, .int 0), (5, .int 0)]) hl [2, 3, 1, 0] rfl) (me_i (by decide : Rg 0 12 (0 : Int32)) (by decide))
      · have g27042 : Rg 0 11 y26_l4 := rg_ltl g26_l4 g26_l3 (rg_nle c27040) (by decide)
        have g27043 : Rg 0 10 y26_l4 := by have y90 : y26_l4.toInt < y26_l3.toInt := (lz_lt _ _).mp (rg_nle c27040); have y91 : Rg 0 11 y26_l4 := g27042; have y92 : Rg 0 3 x0 := g26_l1; have y93 : Rg 1 12 y26_l3 := g26_l3; have y94 : Rg 0 11 y26_l4 := g27042; have y95 : Rg 0 11 y26_l4 := g27042; have y9c6 : (0 : Int32).toInt = 0 := (by decide); have y9c7 : (1 : Int32).toInt = 1 := (by decide); exact ⟨by omega, by omega⟩
        refine lv_aload_n hx hb dX12_grow_32 rfl (lv_at hl 0 rfl) ?_
        refine va_get (D := D) (ci := 12) (v := .ref (b 11)) (C := RX12) (T := TX12) (N := 24) hx hb hts hin12 hown hK hP 0 rfl rfl 18 (by decide) (hts (.fieldLink RX12 44 "MissedPointsModel" "items" "[I") (by decide +kernel)) (fun _ h9 => h9) rfl dX12_grow_33 ?_
        refine lv_bipush (v := 40) hx hb dX12_grow_36 (by decide) ?_
        refine lv_iload_n hx hb dX12_grow_38 rfl (lv_at hl 1 rfl) ?_
        refine wk_imul (f := 120) hx hb dX12_grow_39 (by decide : Rg 0 40 (40 : Int32)) g26_l1 (by decide) (fun r27044 hr27044 er27044 qr27044 => ?_)
        refine lv_aload_n hx hb dX12_grow_40 rfl (lv_at hl 0 rfl) ?_
        refine va_get (D := D) (ci := 12) (v := .ref (b 6)) (C := RX12) (T := TX12) (N := 24) hx hb hts hin12 hown hK hP 0 rfl rfl 7 (by decide) (hts (.fieldLink RX12 29 "MissedPointsModel" "way" "[I") (by decide +kernel)) (fun _ h9 => h9) rfl dX12_grow_41 ?_
        refine lv_iload hx hb dX12_grow_44 (lv_at hl 3 rfl) ?_
        refine wk_ald hx hb hK hP 6 0 rfl rfl (rg_in g27043 (by decide) (by decide)) dX12_grow_46 hV.2.2.2.1 (fun r27045 hr27045 => ?_)
        refine wk_iadd (e1 := 0) (f := 131) hx hb dX12_grow_47 hr27044 hr27045 (by decide) (fun r27046 hr27046 er27046 qr27046 => ?_)
        refine lv_aload_n hx hb dX12_grow_48 rfl (lv_at hl 0 rfl) ?_
        refine va_get (D := D) (ci := 12) (v := .ref (b 6)) (C := RX12) (T := TX12) (N := 24) hx hb hts hin12 hown hK hP 0 rfl rfl 7 (by decide) (hts (.fieldLink RX12 29 "MissedPointsModel" "way" "[I") (by decide +kernel)) (fun _ h9 => h9) rfl dX12_grow_49 ?_
        refine lv_iload hx hb dX12_grow_52 (lv_at hl 3 rfl) ?_
        refine lv_iconst (v := 1) hx hb dX12_grow_54 (by decide) ?_
        refine wk_iadd (e1 := 1) (f := 11) hx hb dX12_grow_55 g27043 (by decide : Rg 1 1 (1 : Int32)) (by decide) (fun r27047 hr27047 er27047 qr27047 => ?_)
        refine wk_ald hx hb hK hP 6 0 rfl rfl (rg_in hr27047 (by decide) (by decide)) dX12_grow_56 hV.2.2.2.1 (fun r27048 hr27048 => ?_)
        refine ms_11 hx hb hK hP hD hS hV rfl (rg_in hr27046 (by decide) (by decide)) dX12_grow_57 (fun v H locs hV ev27049 hP hD hS => ?_)
        refine lv_aload_n hx hb dX12_grow_58 rfl (lv_at hl 0 rfl) ?_
        refine va_get (D := D) (ci := 12) (v := .ref (b 11)) (C := RX12) (T := TX12) (N := 24) hx hb hts hin12 hown hK hP 0 rfl rfl 18 (by decide) (hts (.fieldLink RX12 44 "MissedPointsModel" "items" "[I") (by decide +kernel)) (fun _ h9 => h9) rfl dX12_grow_59 ?_
        refine lv_bipush (v := 40) hx hb dX12_grow_62 (by decide) ?_
        refine lv_iload_n hx hb dX12_grow_64 rfl (lv_at hl 1 rfl) ?_
        refine wk_imul (f := 120) hx hb dX12_grow_65 (by decide : Rg 0 40 (40 : Int32)) g26_l1 (by decide) (fun r27050 hr27050 er27050 qr27050 => ?_)
        refine lv_aload_n hx hb dX12_grow_66 rfl (lv_at hl 0 rfl) ?_
        refine va_get (D := D) (ci := 12) (v := .ref (b 6)) (C := RX12) (T := TX12) (N := 24) hx hb hts hin12 hown hK hP 0 rfl rfl 7 (by decide) (hts (.fieldLink RX12 29 "MissedPointsModel" "way" "[I") (by decide +kernel)) (fun _ h9 => h9) rfl dX12_grow_67 ?_
        refine lv_iload hx hb dX12_grow_70 (lv_at hl 3 rfl) ?_
        refine lv_iconst (v := 1) hx hb dX12_grow_72 (by decide) ?_
        refine wk_iadd (e1 := 1) (f := 11) hx hb dX12_grow_73 g27043 (by decide : Rg 1 1 (1 : Int32)) (by decide) (fun r27051 hr27051 er27051 qr27051 => ?_)
        refine wk_ald hx hb hK hP 6 0 rfl rfl (rg_in hr27051 (by decide) (by decide)) dX12_grow_74 hV.2.2.2.1 (fun r27052 hr27052 => ?_)
        refine wk_iadd (e1 := 0) (f := 131) hx hb dX12_grow_75 hr27050 hr27052 (by decide) (fun r27053 hr27053 er27053 qr27053 => ?_)
        refine lv_aload_n hx hb dX12_grow_76 rfl (lv_at hl 0 rfl) ?_
        refine va_get (D := D) (ci := 12) (v := .ref (b 6)) (C := RX12) (T := TX12) (N := 24) hx hb hts hin12 hown hK hP 0 rfl rfl 7 (by decide) (hts (.fieldLink RX12 29 "MissedPointsModel" "way" "[I") (by decide +kernel)) (fun _ h9 => h9) rfl dX12_grow_77 ?_
        refine lv_iload hx hb dX12_grow_80 (lv_at hl 3 rfl) ?_
        refine wk_ald hx hb hK hP 6 0 rfl rfl (rg_in g27043 (by decide) (by decide)) dX12_grow_82 hV.2.2.2.1 (fun r27054 hr27054 => ?_)
        refine ms_11 hx hb hK hP hD hS hV rfl (rg_in hr27053 (by decide) (by decide)) dX12_grow_83 (fun v H locs hV ev27055 hP hD hS => ?_)
        refine wk_iinc (lv' := fun r => [(4, .int r), (0, .ref (b 0)), (1, .int x0), (3, .int y26_l3)]) (e1 := 2) (f := 12) hx hb dX12_grow_84 hl (k := 3) rfl (by decide) g27043 (by decide) (fun _ => rfl) (fun r27056 ls hr27056 er27056 hl => ?_)
        refine lv_goto (tgt := 26) hx hb dX12_grow_87 (by decide) ?_
        exact ih26 y26_l3 r27056 v _ _ ls g26_l1 g26_l3 (show Rg 0 12 r27056 from rg_w hr27056 (by decide) (by decide)) (show (y26_l3.toInt % 2 = 0 ∧ r27056.toInt % 2 = 0) from by have y90 : y26_l4.toInt < y26_l3.toInt := (lz_lt _ _).mp (rg_nle c27040); have y91 : Rg 0 10 y26_l4 := g27043; have y92 : Rg 0 3 x0 := g26_l1; have y93 : Rg 1 12 y26_l3 := g26_l3; have y94 : Rg 2 12 r27056 := hr27056; have y9c5 : (0 : Int32).toInt = 0 := (by decide); have y9c6 : (1 : Int32).toInt = 1 := (by decide); omega) hV hP hD hS (lv_sub (l' := [(0, .ref (b 0)), (1, .int x0), (3, .int y26_l3), (4, .int r27056)]) hl [1, 2, 3, 0] rfl) (me_up hm26 er27056 (by decide))
  refine lv_aload_n hx hb dX12_grow_0 rfl (lv_at hl 0 rfl) ?_
  refine lv_iload_n hx hb dX12_grow_1 rfl (lv_at hl 1 rfl) ?_
  refine wk_qi (wM cI b L) v (As := [.int x0]) (rest := []) ⟨hx, hb, hml, hown, hts⟩ (w_X12_wrongPairing l D cI cS _ b L v hL hV x0) hKK hP hD hS hA 0 (ci := 12) rfl rfl (cwV 1 hts gX12_grow_X12_wrongPairing rfl rfl rfl (by decide +kernel) ⟨Nat.le_of_ble_eq_true rfl, Nat.le_of_ble_eq_true rfl⟩) rfl hl.1 rfl (Nat.le_of_ble_eq_true rfl) dX12_grow_2 ⟨Nat.le_of_ble_eq_true rfl, Nat.le_of_ble_eq_true rfl⟩ (fun r27057 v H locs hr27057 hP hD hS => ?_)
  have hV := hr27057.1
  refine lv_istore_n (lv' := [(2, .int r27057), (0, .ref (b 0)), (1, .int x0)]) hx hb dX12_grow_5 rfl hl (by decide) rfl (fun ls hl => ?_)
  refine lv_iload_n hx hb dX12_grow_6 rfl (lv_at hl 0 rfl) ?_
  refine lv_if_eq (tgt := 12) hx hb dX12_grow_7 (by decide) (fun c27058 => ?_) (fun c27058 => ?_)
  · have g27059 : Rg 0 3 x0 := (hr27057.2.2 c27058)
    have g27060 : Rg 0 0 r27057 := wk_eql hr27057.2.1 (by decide : Rg 0 0 (0 : Int32)) c27058 (by decide)
    refine lv_aload_n hx hb dX12_grow_12 rfl (lv_at hl 1 rfl) ?_
    refine wk_qi (wM cI b L) v (As := []) (rest := []) ⟨hx, hb, hml, hown, hts⟩ (w_X12_wayLaid l D cI cS _ b L v hL hV) hKK hP hD hS hA 0 (ci := 12) rfl rfl (cwV 0 hts gX12_grow_X12_wayLaid rfl rfl rfl (by decide +kernel) ⟨Nat.le_of_ble_eq_true rfl, Nat.le_of_ble_eq_true rfl⟩) rfl hl.1 rfl (Nat.le_of_ble_eq_true rfl) dX12_grow_13 ⟨Nat.le_of_ble_eq_true rfl, Nat.le_of_ble_eq_true rfl⟩ (fun r27061 v H locs hr27061 hP hD hS => ?_)
    have hV := hr27061.1
    have ep27062 : r27061.toInt % 2 = 0 := hr27061.2.2
    refine lv_istore_n (lv' := [(3, .int r27061), (2, .int r27057), (0, .ref (b 0)), (1, .int x0)]) hx hb dX12_grow_16 rfl hl (by decide) rfl (fun ls hl => ?_)
    refine lv_iload_n hx hb dX12_grow_17 rfl (lv_at hl 0 rfl) ?_
    refine lv_if_ne (tgt := 23) hx hb dX12_grow_18 (by decide) (fun c27063 => ?_) (fun c27063 => ?_)
    · have g27064 : Rg 1 12 r27061 := rg_ne_lo (k := 0) hr27061.2.1 (by decide) c27063 (by decide)
      refine lv_iconst (v := 0) hx hb dX12_grow_23 (by decide) ?_
      refine lv_istore (lv' := [(4, .int 0), (3, .int r27061), (2, .int r27057), (0, .ref (b 0)), (1, .int x0)]) hx hb dX12_grow_24 hl (by decide) rfl (fun ls hl => ?_)
      exact lp26 13 r27061 (0 : Int32) v _ _ ls g27059 g27064 (by decide : Rg 0 12 (0 : Int32)) (show (r27061.toInt % 2 = 0 ∧ (0 : Int32).toInt % 2 = 0) from by have y90 : r27057.toInt = (0 : Int32).toInt := congrArg Int32.toInt c27058; have y91 : ¬ r27061.toInt = (0 : Int32).toInt := fun z => c27063 (Int32.toInt_inj.mp z); have y92 : Rg 0 3 x0 := g27059; have y93 : Rg 0 0 r27057 := g27060; have y94 : Rg 1 12 r27061 := g27064; have y95 : Rg 0 3 x0 := g27059; have y96 : Rg 0 0 r27057 := g27060; have y97 : Rg 1 12 r27061 := g27064; have y9c8 : (0 : Int32).toInt = 0 := (by decide); have y9c9 : (1 : Int32).toInt = 1 := (by decide); omega) hV hP hD hS (lv_sub (l' := [(0, .ref (b 0)), (1, .int x0), (3, .int r27061), (4, .int 0)]) hl [3, 4, 1, 0] rfl) (me_i (by decide : Rg 0 12 (0 : Int32)) (by decide))
    · have g27065 : Rg 0 0 r27061 := wk_eql hr27061.2.1 (by decide : Rg 0 0 (0 : Int32)) c27063 (by decide)
      refine lv_iconst (v := (-1)) hx hb dX12_grow_21 (by decide) ?_
      subst hAe
      exact W.iret (v := (-1)) hx hb hr (fun t ht hW => ⟨⟨_, v, rfl, ⟨hV, (by decide : Rg (-2147483648) 2147483647 ((-1) : Int32)), trivial⟩, by rw [ht]; exact hP, hD⟩, hS.F ht⟩) hS.2.2 dX12_grow_22
  · have g27066 : Rg (-11) (-1) r27057 := rg_ne_hi (k := 0) hr27057.2.1 (by decide) c27058 (by decide)
    refine lv_iload_n hx hb dX12_grow_10 rfl (lv_at hl 0 rfl) ?_
    subst hAe
    exact W.iret (v := r27057) hx hb hr (fun t ht hW => ⟨⟨_, v, rfl, ⟨hV, (rg_any r27057), trivial⟩, by rw [ht]; exact hP, hD⟩, hS.F ht⟩) hS.2.2 dX12_grow_11
set_option maxHeartbeats 4000000 in
set_option maxRecDepth 100000 in
theorem w_X12_reckons_W (l : Launch) (D : va_G) (cI cS : ClassId) (sz : Nat) (b : Nat → Nat) (L v0 : SU) (hL : TyL L) (hV : TyV v0) : Met l yX12_reckons wsX12_reckons ({ frames := 2, cells := 0, slots := 0, locals := 80 }) (PQ D cI cS (wM cI b L v0) sz [.ref (b 0)]) (QE (S := SU) D (wM cI b L v0) (wM cI b L) sz (fun u => TyV u ∧ (∀ s : Nat, (s : Int) ≤ (((1 : Int32) <<< (L 0 0 &&& 31)) - 1).toInt → Rg 1 479001600 (u 3 s)))) 0 0 (va_A (wM cI b L v0) sz) := by
  refine Met.ofW (cc := cX12_reckons) (maxL := 5) (ret := none) (by decide) rfl ?_
  intro p e s m args below meth c s₁ B hml hv
  obtain ⟨rfl, hsz, hP, hKK, hD0⟩ := hv
  have hx := B.exec
  have hb := B.bytes
  have hr := B.returns
  have hts := atoms_spec (ws := wsX12_reckons) B.pre
  have hown : s.vm.findClass RX12 = some m.cls := findClass_of_methodNamed B.named
  have hlocks := B.notSynchronized
  have hK := hKK.1
  have hin12 : ∀ w ∈ wsX120, w ∈ wsX12_reckons := by decide +kernel
  subst hsz
  have hD := hD0.self (sz := s.heap.size)
  obtain ⟨A, hAe⟩ : ∃ A, A = va_A (wM cI b L v0) s.heap.size := ⟨_, rfl⟩
  rw [← hAe] at hD
  have hA : ∀ q : Nat, s.heap.size ≤ q → A q := fun q h => by rw [hAe]; exact Or.inr h
  have hS : va_S A s.heap s.heap [] := va_S.rf
  have hl := lv_entry ([.ref (b 0)]) (n := 5) (Nat.le_of_ble_eq_true rfl)
  rw [lg_entry_eq]
  generalize (lg_sl ([.ref (b 0)]) ++ List.replicate (5 - (lg_sl ([.ref (b 0)])).length) Slot.unset).toArray = ls at hl ⊢
  have hl : lv_has ls 5 [(0, .ref (b 0))] := hl
  obtain ⟨v, hv9⟩ : ∃ v : SU, v = v0 := ⟨_, rfl⟩
  rw [← hv9] at hP hD hV
  have lp9 : ∀ (n9 : Nat) (y9_l1 : Int32) (v : SU) (H : Heap) (locs : List Loc) (ls : Array Slot), Rg 1 4096 y9_l1 → WI (v 3) y9_l1.toNatClampNeg → TyV v → va_P D cls (wM cI b L v) H → va_D A (wM cI b L v) → va_S A s.heap H locs → lv_has ls 5 [(0, .ref (b 0)), (1, .int y9_l1)] → 4096 - y9_l1.toInt < (n9 : Int) → W p l e (headSpec wsX12_reckons ({ frames := 2, cells := 0, slots := 0, locals := 80 })).room s m ([.ref (b 0)]).toArray below meth c H locs 0 0 (MQ below (QE (S := SU) D (wM cI b L v0) (wM cI b L) s.heap.size (fun u => TyV u ∧ (∀ s : Nat, (s : Int) ≤ (((1 : Int32) <<< (L 0 0 &&& 31)) - 1).toInt → Rg 1 479001600 (u 3 s)))) ([.ref (b 0)]).toArray s 0 0 (va_A (wM cI b L v0) s.heap.size)) (F0 m 9 ls []) := by
    intro n9
    induction n9 with
    | zero =>
      intro y9_l1 v H locs ls g9_l1 x9_0 hV hP hD hS hl hm9
      exact absurd rfl (me_z g9_l1 hm9)
    | succ n9 ih9 =>
      intro y9_l1 v H locs ls g9_l1 x9_0 hV hP hD hS hl hm9
      have lp155 : ∀ (n155 : Nat) (y155_l2 : Int32) (y155_l3 : Int32) (y155_l4 : Int32) (v : SU) (H : Heap) (locs : List Loc) (ls : Array Slot), Rg 1 4095 y9_l1 → Rg 0 11 y155_l2 → Rg 0 4095 y155_l3 → Rg 1 12 y155_l4 → X155 v y9_l1 y155_l2 y155_l3 y155_l4 (L 0 0) → TyV v → va_P D cls (wM cI b L v) H → va_D A (wM cI b L v) → va_S A s.heap H locs → lv_has ls 5 [(0, .ref (b 0)), (1, .int y9_l1), (2, .int y155_l2), (3, .int y155_l3), (4, .int y155_l4)] → 12 - y155_l4.toInt < (n155 : Int) → W p l e (headSpec wsX12_reckons ({ frames := 2, cells := 0, slots := 0, locals := 80 })).room s m ([.ref (b 0)]).toArray below meth c H locs 0 0 (MQ below (QE (S := SU) D (wM cI b L v0) (wM cI b L) s.heap.size (fun u => TyV u ∧ (∀ s : Nat, (s : Int) ≤ (((1 : Int32) <<< (L 0 0 &&& 31)) - 1).toInt → Rg 1 479001600 (u 3 s)))) ([.ref (b 0)]).toArray s 0 0 (va_A (wM cI b L v0) s.heap.size)) (F0 m 155 ls []) := by
        intro n155
        induction n155 with
        | zero =>
          intro y155_l2 y155_l3 y155_l4 v H locs ls g155_l1 g155_l2 g155_l3 g155_l4 x155_0 hV hP hD hS hl hm155
          exact absurd rfl (me_z g155_l4 hm155)
        | succ n155 ih155 =>
          intro y155_l2 y155_l3 y155_l4 v H locs ls g155_l1 g155_l2 g155_l3 g155_l4 x155_0 hV hP hD hS hl hm155
          refine lv_iload hx hb dX12_reckons_155 (lv_at hl 4 rfl) ?_
          refine lv_aload_n hx hb dX12_reckons_157 rfl (lv_at hl 0 rfl) ?_
          refine va_get (D := D) (ci := 12) (v := .int (L 0 0)) (C := RX12) (T := TX12) (N := 24) hx hb hts hin12 hown hK hP 0 rfl rfl 0 (by decide) (hts (.fieldLink RX12 63 "MissedPointsModel" "many" "I") (by decide +kernel)) (fun _ h9 => h9) rfl dX12_reckons_158 ?_
          refine lv_icmp_ge (tgt := 232) hx hb dX12_reckons_161 (by decide) (fun c28614 => ?_) (fun c28614 => ?_)
          · refine wk_iinc (lv' := fun r => [(1, .int r), (0, .ref (b 0)), (2, .int y155_l2), (3, .int y155_l3), (4, .int y155_l4)]) (e1 := 2) (f := 4096) hx hb dX12_reckons_232 hl (k := 1) rfl (by decide) g155_l1 (by decide) (fun _ => rfl) (fun r28615 ls hr28615 er28615 hl => ?_)
            refine lv_goto (tgt := 9) hx hb dX12_reckons_235 (by decide) ?_
            exact ih9 r28615 v _ _ ls (show Rg 1 4096 r28615 from rg_w hr28615 (by decide) (by decide)) (by exact rk_7 x155_0 ((lz_le _ _).mp c28614) (show Rg 0 12 y155_l4 from rg_w g155_l4 (by decide) (by decide)).2 er28615) hV hP hD hS (lv_sub (l' := [(0, .ref (b 0)), (1, .int r28615)]) hl [1, 0] rfl) (me_up hm9 er28615 (by decide))
          · have g28616 : Rg 2 12 (L 0 0) := rg_ltr g155_l4 hL.1 (rg_nle c28614) (by decide)
            have g28617 : Rg 1 11 y155_l4 := rg_ltl g155_l4 hL.1 (rg_nle c28614) (by decide)
            refine lv_iload_n hx hb dX12_reckons_164 rfl (lv_at hl 3 rfl) ?_
            refine lv_aload_n hx hb dX12_reckons_165 rfl (lv_at hl 0 rfl) ?_
            refine va_get (D := D) (ci := 12) (v := .ref (b 1)) (C := RX12) (T := TX12) (N := 24) hx hb hts hin12 hown hK hP 0 rfl rfl 2 (by decide) (hts (.fieldLink RX12 13 "MissedPointsModel" "near" "[I") (by decide +kernel)) (fun _ h9 => h9) rfl dX12_reckons_166 ?_
            refine lv_iload_n hx hb dX12_reckons_169 rfl (lv_at hl 2 rfl) ?_
            refine va_iald hx hb hK hP 1 0 rfl rfl (rg_in g155_l2 (by decide) (by decide)) dX12_reckons_170 ?_
            refine lz_top (y := (v 1 y155_l2.toNatClampNeg)) rfl ?_
            refine wk_iandl hx hb dX12_reckons_171 g155_l3 (by decide) (fun r28619 hr28619 qr28619 => ?_)
            refine lv_iload hx hb dX12_reckons_172 (lv_at hl 4 rfl) ?_
            refine lz_ss (As := [.int r28619, .int y155_l4]) (rest := []) ⟨hx, hb, hml, hown, hts⟩ (w_X12_has l D cI cS r28619 y155_l4) hKK (hP.sub (ws' := []) [] rfl) (va_cwS 2 hts gX12_reckons_X12_has rfl rfl rfl (by decide +kernel) ⟨Nat.le_of_ble_eq_true rfl, Nat.le_of_ble_eq_true rfl⟩) rfl hl.1 rfl (Nat.le_of_ble_eq_true rfl) dX12_reckons_174 ⟨Nat.le_of_ble_eq_true rfl, Nat.le_of_ble_eq_true rfl⟩ (fun r28620 hr28620 => ?_)
            refine lv_if_eq (tgt := 226) hx hb dX12_reckons_177 (by decide) (fun c28621 => ?_) (fun c28621 => ?_)
            · have g28622 : Rg 0 0 r28620 := wk_eql hr28620.1 (by decide : Rg 0 0 (0 : Int32)) c28621 (by decide)
              refine wk_iinc (lv' := fun r => [(4, .int r), (0, .ref (b 0)), (1, .int y9_l1), (2, .int y155_l2), (3, .int y155_l3)]) (e1 := 2) (f := 12) hx hb dX12_reckons_226 hl (k := 4) rfl (by decide) g28617 (by decide) (fun _ => rfl) (fun r28623 ls hr28623 er28623 hl => ?_)
              refine lv_goto (tgt := 155) hx hb dX12_reckons_229 (by decide) ?_
              exact ih155 y155_l2 y155_l3 r28623 v _ _ ls g155_l1 g155_l2 g155_l3 (show Rg 1 12 r28623 from rg_w hr28623 (by decide) (by decide)) (by exact rk_5 x155_0 er28623 (fun z => (hr28620.2.2 c28621) (by rw [qr28619]; exact z.1))) hV hP hD hS (lv_sub (l' := [(0, .ref (b 0)), (1, .int y9_l1), (2, .int y155_l2), (3, .int y155_l3), (4, .int r28623)]) hl [1, 2, 3, 4, 0] rfl) (me_up hm155 er28623 (by decide))
            · have g28624 : Rg 1 1 r28620 := rg_ne_lo (k := 0) hr28620.1 (by decide) c28621 (by decide)
              refine lv_aload_n hx hb dX12_reckons_180 rfl (lv_at hl 0 rfl) ?_
              refine va_get (D := D) (ci := 12) (v := .ref (b 2)) (C := RX12) (T := TX12) (N := 24) hx hb hts hin12 hown hK hP 0 rfl rfl 3 (by decide) (hts (.fieldLink RX12 17 "MissedPointsModel" "pairs" "[I") (by decide +kernel)) (fun _ h9 => h9) rfl dX12_reckons_181 ?_
              refine lv_iload_n hx hb dX12_reckons_184 rfl (lv_at hl 3 rfl) ?_
              refine lv_iconst (v := 1) hx hb dX12_reckons_185 (by decide) ?_
              refine lv_iload hx hb dX12_reckons_186 (lv_at hl 4 rfl) ?_
              refine wk_ishl1 (f := 2048) hx hb dX12_reckons_188 (show Rg 0 11 y155_l4 from rg_w g28617 (by decide) (by decide)) (by decide) (fun r28625 hr28625 qr28625 => ?_)
              refine lv_iconst (v := (-1)) hx hb dX12_reckons_189 (by decide) ?_
              refine lv_ixor hx hb dX12_reckons_190 ?_
              refine wk_topP (P := fun r => r = r28625 ^^^ ((-1) : Int32)) rfl (fun r28626 qr28626 => ?_)
              refine wk_iandl hx hb dX12_reckons_191 g155_l3 (by decide) (fun r28627 hr28627 qr28627 => ?_)
              refine va_iald hx hb hK hP 2 0 rfl rfl (rg_in hr28627 (by decide) (by decide)) dX12_reckons_192 ?_
              refine lz_top (y := (v 2 r28627.toNatClampNeg)) rfl ?_
              refine lv_iconst (v := 1) hx hb dX12_reckons_193 (by decide) ?_
              refine lv_iadd hx hb dX12_reckons_194 ?_
              refine wk_topP (P := fun r => r = (v 2 r28627.toNatClampNeg) + (1 : Int32)) rfl (fun r28629 qr28629 => ?_)
              refine lv_aload_n hx hb dX12_reckons_195 rfl (lv_at hl 0 rfl) ?_
              refine va_get (D := D) (ci := 12) (v := .ref (b 2)) (C := RX12) (T := TX12) (N := 24) hx hb hts hin12 hown hK hP 0 rfl rfl 3 (by decide) (hts (.fieldLink RX12 17 "MissedPointsModel" "pairs" "[I") (by decide +kernel)) (fun _ h9 => h9) rfl dX12_reckons_196 ?_
              refine lv_iload_n hx hb dX12_reckons_199 rfl (lv_at hl 1 rfl) ?_
              refine va_iald hx hb hK hP 2 0 rfl rfl (rg_in g155_l1 (by decide) (by decide)) dX12_reckons_200 ?_
              refine lz_top (y := (v 2 y9_l1.toNatClampNeg)) rfl ?_
              refine lv_icmp_ne (tgt := 226) hx hb dX12_reckons_201 (by decide) (fun c28631 => ?_) (fun c28631 => ?_)
              · refine wk_iinc (lv' := fun r => [(4, .int r), (0, .ref (b 0)), (1, .int y9_l1), (2, .int y155_l2), (3, .int y155_l3)]) (e1 := 2) (f := 12) hx hb dX12_reckons_226 hl (k := 4) rfl (by decide) g28617 (by decide) (fun _ => rfl) (fun r28632 ls hr28632 er28632 hl => ?_)
                refine lv_goto (tgt := 155) hx hb dX12_reckons_229 (by decide) ?_
                exact ih155 y155_l2 y155_l3 r28632 v _ _ ls g155_l1 g155_l2 g155_l3 (show Rg 1 12 r28632 from rg_w hr28632 (by decide) (by decide)) (by exact rk_5 x155_0 er28632 (fun z => c28631 (by rw [qr28629, (show r28627 = rmI y155_l3 y155_l4 from by rw [qr28627, qr28626, qr28625]; first | done | rfl)]; exact z.2))) hV hP hD hS (lv_sub (l' := [(0, .ref (b 0)), (1, .int y9_l1), (2, .int y155_l2), (3, .int y155_l3), (4, .int r28632)]) hl [1, 2, 3, 4, 0] rfl) (me_up hm155 er28632 (by decide))
              · refine lv_aload_n hx hb dX12_reckons_204 rfl (lv_at hl 0 rfl) ?_
                refine va_get (D := D) (ci := 12) (v := .ref (b 3)) (C := RX12) (T := TX12) (N := 24) hx hb hts hin12 hown hK hP 0 rfl rfl 4 (by decide) (hts (.fieldLink RX12 20 "MissedPointsModel" "greatestWays" "[I") (by decide +kernel)) (fun _ h9 => h9) rfl dX12_reckons_205 ?_
                refine lv_iload_n hx hb dX12_reckons_208 rfl (lv_at hl 1 rfl) ?_
                refine lv_dup2_11 hx hb dX12_reckons_209 rfl rfl ?_
                refine va_iald hx hb hK hP 3 0 rfl rfl (rg_in g155_l1 (by decide) (by decide)) dX12_reckons_210 ?_
                refine lz_top (y := (v 3 y9_l1.toNatClampNeg)) rfl ?_
                refine lv_aload_n hx hb dX12_reckons_211 rfl (lv_at hl 0 rfl) ?_
                refine va_get (D := D) (ci := 12) (v := .ref (b 3)) (C := RX12) (T := TX12) (N := 24) hx hb hts hin12 hown hK hP 0 rfl rfl 4 (by decide) (hts (.fieldLink RX12 20 "MissedPointsModel" "greatestWays" "[I") (by decide +kernel)) (fun _ h9 => h9) rfl dX12_reckons_212 ?_
                refine lv_iload_n hx hb dX12_reckons_215 rfl (lv_at hl 3 rfl) ?_
                refine lv_iconst (v := 1) hx hb dX12_reckons_216 (by decide) ?_
                refine lv_iload hx hb dX12_reckons_217 (lv_at hl 4 rfl) ?_
                refine wk_ishl1 (f := 2048) hx hb dX12_reckons_219 (show Rg 0 11 y155_l4 from rg_w g28617 (by decide) (by decide)) (by decide) (fun r28634 hr28634 qr28634 => ?_)
                refine lv_iconst (v := (-1)) hx hb dX12_reckons_220 (by decide) ?_
                refine lv_ixor hx hb dX12_reckons_221 ?_
                refine wk_topP (P := fun r => r = r28634 ^^^ ((-1) : Int32)) rfl (fun r28635 qr28635 => ?_)
                refine wk_iandl hx hb dX12_reckons_222 g155_l3 (by decide) (fun r28636 hr28636 qr28636 => ?_)
                refine va_iald hx hb hK hP 3 0 rfl rfl (rg_in hr28636 (by decide) (by decide)) dX12_reckons_223 ?_
                refine lz_top (y := (v 3 r28636.toNatClampNeg)) rfl ?_
                refine lv_iadd hx hb dX12_reckons_224 ?_
                refine wk_topP (P := fun r => r = (v 3 y9_l1.toNatClampNeg) + (v 3 r28636.toNatClampNeg)) rfl (fun r28638 qr28638 => ?_)
                refine ms_3 hx hb hK hP hD hS hV rfl (rg_in g155_l1 (by decide) (by decide)) dX12_reckons_225 (fun v H locs hV ev28639 hP hD hS => ?_)
                refine wk_iinc (lv' := fun r => [(4, .int r), (0, .ref (b 0)), (1, .int y9_l1), (2, .int y155_l2), (3, .int y155_l3)]) (e1 := 2) (f := 12) hx hb dX12_reckons_226 hl (k := 4) rfl (by decide) g28617 (by decide) (fun _ => rfl) (fun r28640 ls hr28640 er28640 hl => ?_)
                refine lv_goto (tgt := 155) hx hb dX12_reckons_229 (by decide) ?_
                exact ih155 y155_l2 y155_l3 r28640 v _ _ ls g155_l1 g155_l2 g155_l3 (show Rg 1 12 r28640 from rg_w hr28640 (by decide) (by decide)) (by exact rk_6 x155_0 er28640 (show Rg 0 11 y155_l4 from rg_w g28617 (by decide) (by decide)) (by rw [qr28638, (show r28636 = rmI y155_l3 y155_l4 from by rw [qr28636, qr28635, qr28634]; first | done | rfl)]) ev28639) hV hP hD hS (lv_sub (l' := [(0, .ref (b 0)), (1, .int y9_l1), (2, .int y155_l2), (3, .int y155_l3), (4, .int r28640)]) hl [1, 2, 3, 4, 0] rfl) (me_up hm155 er28640 (by decide))
      have lp45 : ∀ (n45 : Nat) (y45_l2 : Int32) (y45_l3 : Int32) (y45_l4 : Int32) (v : SU) (H : Heap) (locs : List Loc) (ls : Array Slot), Rg 1 4095 y9_l1 → Rg 0 11 y45_l2 → Rg 0 4095 y45_l3 → Rg 1 12 y45_l4 → X45 v y9_l1 y45_l2 y45_l3 y45_l4 (L 0 0) → TyV v → va_P D cls (wM cI b L v) H → va_D A (wM cI b L v) → va_S A s.heap H locs → lv_has ls 5 [(0, .ref (b 0)), (1, .int y9_l1), (2, .int y45_l2), (3, .int y45_l3), (4, .int y45_l4)] → 12 - y45_l4.toInt < (n45 : Int) → W p l e (headSpec wsX12_reckons ({ frames := 2, cells := 0, slots := 0, locals := 80 })).room s m ([.ref (b 0)]).toArray below meth c H locs 0 0 (MQ below (QE (S := SU) D (wM cI b L v0) (wM cI b L) s.heap.size (fun u => TyV u ∧ (∀ s : Nat, (s : Int) ≤ (((1 : Int32) <<< (L 0 0 &&& 31)) - 1).toInt → Rg 1 479001600 (u 3 s)))) ([.ref (b 0)]).toArray s 0 0 (va_A (wM cI b L v0) s.heap.size)) (F0 m 45 ls []) := by
        intro n45
        induction n45 with
        | zero =>
          intro y45_l2 y45_l3 y45_l4 v H locs ls g45_l1 g45_l2 g45_l3 g45_l4 x45_0 hV hP hD hS hl hm45
          exact absurd rfl (me_z g45_l4 hm45)
        | succ n45 ih45 =>
          intro y45_l2 y45_l3 y45_l4 v H locs ls g45_l1 g45_l2 g45_l3 g45_l4 x45_0 hV hP hD hS hl hm45
          refine lv_iload hx hb dX12_reckons_45 (lv_at hl 4 rfl) ?_
          refine lv_aload_n hx hb dX12_reckons_47 rfl (lv_at hl 0 rfl) ?_
          refine va_get (D := D) (ci := 12) (v := .int (L 0 0)) (C := RX12) (T := TX12) (N := 24) hx hb hts hin12 hown hK hP 0 rfl rfl 0 (by decide) (hts (.fieldLink RX12 63 "MissedPointsModel" "many" "I") (by decide +kernel)) (fun _ h9 => h9) rfl dX12_reckons_48 ?_
          refine lv_icmp_ge (tgt := 119) hx hb dX12_reckons_51 (by decide) (fun c28641 => ?_) (fun c28641 => ?_)
          · refine lv_aload_n hx hb dX12_reckons_119 rfl (lv_at hl 0 rfl) ?_
            refine va_get (D := D) (ci := 12) (v := .ref (b 3)) (C := RX12) (T := TX12) (N := 24) hx hb hts hin12 hown hK hP 0 rfl rfl 4 (by decide) (hts (.fieldLink RX12 20 "MissedPointsModel" "greatestWays" "[I") (by decide +kernel)) (fun _ h9 => h9) rfl dX12_reckons_120 ?_
            refine lv_iload_n hx hb dX12_reckons_123 rfl (lv_at hl 1 rfl) ?_
            refine lv_aload_n hx hb dX12_reckons_124 rfl (lv_at hl 0 rfl) ?_
            refine va_get (D := D) (ci := 12) (v := .ref (b 2)) (C := RX12) (T := TX12) (N := 24) hx hb hts hin12 hown hK hP 0 rfl rfl 3 (by decide) (hts (.fieldLink RX12 17 "MissedPointsModel" "pairs" "[I") (by decide +kernel)) (fun _ h9 => h9) rfl dX12_reckons_125 ?_
            refine lv_iload_n hx hb dX12_reckons_128 rfl (lv_at hl 3 rfl) ?_
            refine va_iald hx hb hK hP 2 0 rfl rfl (rg_in g45_l3 (by decide) (by decide)) dX12_reckons_129 ?_
            refine lz_top (y := (v 2 y45_l3.toNatClampNeg)) rfl ?_
            refine lv_aload_n hx hb dX12_reckons_130 rfl (lv_at hl 0 rfl) ?_
            refine va_get (D := D) (ci := 12) (v := .ref (b 2)) (C := RX12) (T := TX12) (N := 24) hx hb hts hin12 hown hK hP 0 rfl rfl 3 (by decide) (hts (.fieldLink RX12 17 "MissedPointsModel" "pairs" "[I") (by decide +kernel)) (fun _ h9 => h9) rfl dX12_reckons_131 ?_
            refine lv_iload_n hx hb dX12_reckons_134 rfl (lv_at hl 1 rfl) ?_
            refine va_iald hx hb hK hP 2 0 rfl rfl (rg_in g45_l1 (by decide) (by decide)) dX12_reckons_135 ?_
            refine lz_top (y := (v 2 y9_l1.toNatClampNeg)) rfl ?_
            refine lv_icmp_ne (tgt := 148) hx hb dX12_reckons_136 (by decide) (fun c28644 => ?_) (fun c28644 => ?_)
            · refine lv_iconst (v := 0) hx hb dX12_reckons_148 (by decide) ?_
              refine ms_3 hx hb hK hP hD hS hV rfl (rg_in g45_l1 (by decide) (by decide)) dX12_reckons_149 (fun v H locs hV ev28645 hP hD hS => ?_)
              refine lv_iload_n hx hb dX12_reckons_150 rfl (lv_at hl 2 rfl) ?_
              refine lv_iconst (v := 1) hx hb dX12_reckons_151 (by decide) ?_
              refine wk_iadd (e1 := 1) (f := 12) hx hb dX12_reckons_152 g45_l2 (by decide : Rg 1 1 (1 : Int32)) (by decide) (fun r28646 hr28646 er28646 qr28646 => ?_)
              refine lv_istore (lv' := [(4, .int r28646), (0, .ref (b 0)), (1, .int y9_l1), (2, .int y45_l2), (3, .int y45_l3)]) hx hb dX12_reckons_153 hl (by decide) rfl (fun ls hl => ?_)
              exact lp155 12 y45_l2 y45_l3 r28646 v _ _ ls g45_l1 g45_l2 g45_l3 hr28646 (by exact rk_4 x45_0 er28646 (Or.inr ⟨c28644, rfl⟩) ev28645) hV hP hD hS (lv_sub (l' := [(0, .ref (b 0)), (1, .int y9_l1), (2, .int y45_l2), (3, .int y45_l3), (4, .int r28646)]) hl [1, 2, 3, 4, 0] rfl) (me_i hr28646 (by decide))
            · refine lv_aload_n hx hb dX12_reckons_139 rfl (lv_at hl 0 rfl) ?_
              refine va_get (D := D) (ci := 12) (v := .ref (b 3)) (C := RX12) (T := TX12) (N := 24) hx hb hts hin12 hown hK hP 0 rfl rfl 4 (by decide) (hts (.fieldLink RX12 20 "MissedPointsModel" "greatestWays" "[I") (by decide +kernel)) (fun _ h9 => h9) rfl dX12_reckons_140 ?_
              refine lv_iload_n hx hb dX12_reckons_143 rfl (lv_at hl 3 rfl) ?_
              refine va_iald hx hb hK hP 3 0 rfl rfl (rg_in g45_l3 (by decide) (by decide)) dX12_reckons_144 ?_
              refine lz_top (y := (v 3 y45_l3.toNatClampNeg)) rfl ?_
              refine lv_goto (tgt := 149) hx hb dX12_reckons_145 (by decide) ?_
              refine ms_3 hx hb hK hP hD hS hV rfl (rg_in g45_l1 (by decide) (by decide)) dX12_reckons_149 (fun v H locs hV ev28648 hP hD hS => ?_)
              refine lv_iload_n hx hb dX12_reckons_150 rfl (lv_at hl 2 rfl) ?_
              refine lv_iconst (v := 1) hx hb dX12_reckons_151 (by decide) ?_
              refine wk_iadd (e1 := 1) (f := 12) hx hb dX12_reckons_152 g45_l2 (by decide : Rg 1 1 (1 : Int32)) (by decide) (fun r28649 hr28649 er28649 qr28649 => ?_)
              refine lv_istore (lv' := [(4, .int r28649), (0, .ref (b 0)), (1, .int y9_l1), (2, .int y45_l2), (3, .int y45_l3)]) hx hb dX12_reckons_153 hl (by decide) rfl (fun ls hl => ?_)
              exact lp155 12 y45_l2 y45_l3 r28649 v _ _ ls g45_l1 g45_l2 g45_l3 hr28649 (by exact rk_4 x45_0 er28649 (Or.inl ⟨c28644, rfl⟩) ev28648) hV hP hD hS (lv_sub (l' := [(0, .ref (b 0)), (1, .int y9_l1), (2, .int y45_l2), (3, .int y45_l3), (4, .int r28649)]) hl [1, 2, 3, 4, 0] rfl) (me_i hr28649 (by decide))
          · have g28650 : Rg 2 12 (L 0 0) := rg_ltr g45_l4 hL.1 (rg_nle c28641) (by decide)
            have g28651 : Rg 1 11 y45_l4 := rg_ltl g45_l4 hL.1 (rg_nle c28641) (by decide)
            refine lv_iload_n hx hb dX12_reckons_54 rfl (lv_at hl 3 rfl) ?_
            refine lv_aload_n hx hb dX12_reckons_55 rfl (lv_at hl 0 rfl) ?_
            refine va_get (D := D) (ci := 12) (v := .ref (b 1)) (C := RX12) (T := TX12) (N := 24) hx hb hts hin12 hown hK hP 0 rfl rfl 2 (by decide) (hts (.fieldLink RX12 13 "MissedPointsModel" "near" "[I") (by decide +kernel)) (fun _ h9 => h9) rfl dX12_reckons_56 ?_
            refine lv_iload_n hx hb dX12_reckons_59 rfl (lv_at hl 2 rfl) ?_
            refine va_iald hx hb hK hP 1 0 rfl rfl (rg_in g45_l2 (by decide) (by decide)) dX12_reckons_60 ?_
            refine lz_top (y := (v 1 y45_l2.toNatClampNeg)) rfl ?_
            refine wk_iandl hx hb dX12_reckons_61 g45_l3 (by decide) (fun r28653 hr28653 qr28653 => ?_)
            refine lv_iload hx hb dX12_reckons_62 (lv_at hl 4 rfl) ?_
            refine lz_ss (As := [.int r28653, .int y45_l4]) (rest := []) ⟨hx, hb, hml, hown, hts⟩ (w_X12_has l D cI cS r28653 y45_l4) hKK (hP.sub (ws' := []) [] rfl) (va_cwS 2 hts gX12_reckons_X12_has rfl rfl rfl (by decide +kernel) ⟨Nat.le_of_ble_eq_true rfl, Nat.le_of_ble_eq_true rfl⟩) rfl hl.1 rfl (Nat.le_of_ble_eq_true rfl) dX12_reckons_64 ⟨Nat.le_of_ble_eq_true rfl, Nat.le_of_ble_eq_true rfl⟩ (fun r28654 hr28654 => ?_)
            refine lv_if_eq (tgt := 113) hx hb dX12_reckons_67 (by decide) (fun c28655 => ?_) (fun c28655 => ?_)
            · have g28656 : Rg 0 0 r28654 := wk_eql hr28654.1 (by decide : Rg 0 0 (0 : Int32)) c28655 (by decide)
              refine wk_iinc (lv' := fun r => [(4, .int r), (0, .ref (b 0)), (1, .int y9_l1), (2, .int y45_l2), (3, .int y45_l3)]) (e1 := 2) (f := 12) hx hb dX12_reckons_113 hl (k := 4) rfl (by decide) g28651 (by decide) (fun _ => rfl) (fun r28657 ls hr28657 er28657 hl => ?_)
              refine lv_goto (tgt := 45) hx hb dX12_reckons_116 (by decide) ?_
              exact ih45 y45_l2 y45_l3 r28657 v _ _ ls g45_l1 g45_l2 g45_l3 (show Rg 1 12 r28657 from rg_w hr28657 (by decide) (by decide)) (by exact rk_2 x45_0 er28657) hV hP hD hS (lv_sub (l' := [(0, .ref (b 0)), (1, .int y9_l1), (2, .int y45_l2), (3, .int y45_l3), (4, .int r28657)]) hl [1, 2, 3, 4, 0] rfl) (me_up hm45 er28657 (by decide))
            · have g28658 : Rg 1 1 r28654 := rg_ne_lo (k := 0) hr28654.1 (by decide) c28655 (by decide)
              refine lv_aload_n hx hb dX12_reckons_70 rfl (lv_at hl 0 rfl) ?_
              refine va_get (D := D) (ci := 12) (v := .ref (b 2)) (C := RX12) (T := TX12) (N := 24) hx hb hts hin12 hown hK hP 0 rfl rfl 3 (by decide) (hts (.fieldLink RX12 17 "MissedPointsModel" "pairs" "[I") (by decide +kernel)) (fun _ h9 => h9) rfl dX12_reckons_71 ?_
              refine lv_iload_n hx hb dX12_reckons_74 rfl (lv_at hl 3 rfl) ?_
              refine lv_iconst (v := 1) hx hb dX12_reckons_75 (by decide) ?_
              refine lv_iload hx hb dX12_reckons_76 (lv_at hl 4 rfl) ?_
              refine wk_ishl1 (f := 2048) hx hb dX12_reckons_78 (show Rg 0 11 y45_l4 from rg_w g28651 (by decide) (by decide)) (by decide) (fun r28659 hr28659 qr28659 => ?_)
              refine lv_iconst (v := (-1)) hx hb dX12_reckons_79 (by decide) ?_
              refine lv_ixor hx hb dX12_reckons_80 ?_
              refine wk_topP (P := fun r => r = r28659 ^^^ ((-1) : Int32)) rfl (fun r28660 qr28660 => ?_)
              refine wk_iandl hx hb dX12_reckons_81 g45_l3 (by decide) (fun r28661 hr28661 qr28661 => ?_)
              refine va_iald hx hb hK hP 2 0 rfl rfl (rg_in hr28661 (by decide) (by decide)) dX12_reckons_82 ?_
              refine lz_top (y := (v 2 r28661.toNatClampNeg)) rfl ?_
              refine lv_aload_n hx hb dX12_reckons_83 rfl (lv_at hl 0 rfl) ?_
              refine va_get (D := D) (ci := 12) (v := .ref (b 2)) (C := RX12) (T := TX12) (N := 24) hx hb hts hin12 hown hK hP 0 rfl rfl 3 (by decide) (hts (.fieldLink RX12 17 "MissedPointsModel" "pairs" "[I") (by decide +kernel)) (fun _ h9 => h9) rfl dX12_reckons_84 ?_
              refine lv_iload_n hx hb dX12_reckons_87 rfl (lv_at hl 1 rfl) ?_
              refine va_iald hx hb hK hP 2 0 rfl rfl (rg_in g45_l1 (by decide) (by decide)) dX12_reckons_88 ?_
              refine lz_top (y := (v 2 y9_l1.toNatClampNeg)) rfl ?_
              refine lv_icmp_lt (tgt := 113) hx hb dX12_reckons_89 (by decide) (fun c28664 => ?_) (fun c28664 => ?_)
              · refine wk_iinc (lv' := fun r => [(4, .int r), (0, .ref (b 0)), (1, .int y9_l1), (2, .int y45_l2), (3, .int y45_l3)]) (e1 := 2) (f := 12) hx hb dX12_reckons_113 hl (k := 4) rfl (by decide) g28651 (by decide) (fun _ => rfl) (fun r28665 ls hr28665 er28665 hl => ?_)
                refine lv_goto (tgt := 45) hx hb dX12_reckons_116 (by decide) ?_
                exact ih45 y45_l2 y45_l3 r28665 v _ _ ls g45_l1 g45_l2 g45_l3 (show Rg 1 12 r28665 from rg_w hr28665 (by decide) (by decide)) (by exact rk_2 x45_0 er28665) hV hP hD hS (lv_sub (l' := [(0, .ref (b 0)), (1, .int y9_l1), (2, .int y45_l2), (3, .int y45_l3), (4, .int r28665)]) hl [1, 2, 3, 4, 0] rfl) (me_up hm45 er28665 (by decide))
              · refine lv_aload_n hx hb dX12_reckons_92 rfl (lv_at hl 0 rfl) ?_
                refine va_get (D := D) (ci := 12) (v := .ref (b 2)) (C := RX12) (T := TX12) (N := 24) hx hb hts hin12 hown hK hP 0 rfl rfl 3 (by decide) (hts (.fieldLink RX12 17 "MissedPointsModel" "pairs" "[I") (by decide +kernel)) (fun _ h9 => h9) rfl dX12_reckons_93 ?_
                refine lv_iload_n hx hb dX12_reckons_96 rfl (lv_at hl 1 rfl) ?_
                refine lv_aload_n hx hb dX12_reckons_97 rfl (lv_at hl 0 rfl) ?_
                refine va_get (D := D) (ci := 12) (v := .ref (b 2)) (C := RX12) (T := TX12) (N := 24) hx hb hts hin12 hown hK hP 0 rfl rfl 3 (by decide) (hts (.fieldLink RX12 17 "MissedPointsModel" "pairs" "[I") (by decide +kernel)) (fun _ h9 => h9) rfl dX12_reckons_98 ?_
                refine lv_iload_n hx hb dX12_reckons_101 rfl (lv_at hl 3 rfl) ?_
                refine lv_iconst (v := 1) hx hb dX12_reckons_102 (by decide) ?_
                refine lv_iload hx hb dX12_reckons_103 (lv_at hl 4 rfl) ?_
                refine wk_ishl1 (f := 2048) hx hb dX12_reckons_105 (show Rg 0 11 y45_l4 from rg_w g28651 (by decide) (by decide)) (by decide) (fun r28666 hr28666 qr28666 => ?_)
                refine lv_iconst (v := (-1)) hx hb dX12_reckons_106 (by decide) ?_
                refine lv_ixor hx hb dX12_reckons_107 ?_
                refine wk_topP (P := fun r => r = r28666 ^^^ ((-1) : Int32)) rfl (fun r28667 qr28667 => ?_)
                refine wk_iandl hx hb dX12_reckons_108 g45_l3 (by decide) (fun r28668 hr28668 qr28668 => ?_)
                refine va_iald hx hb hK hP 2 0 rfl rfl (rg_in hr28668 (by decide) (by decide)) dX12_reckons_109 ?_
                refine lz_top (y := (v 2 r28668.toNatClampNeg)) rfl ?_
                refine lv_iconst (v := 1) hx hb dX12_reckons_110 (by decide) ?_
                refine lv_iadd hx hb dX12_reckons_111 ?_
                refine wk_topP (P := fun r => r = (v 2 r28668.toNatClampNeg) + (1 : Int32)) rfl (fun r28670 qr28670 => ?_)
                refine ms_2 hx hb hK hP hD hS hV rfl (rg_in g45_l1 (by decide) (by decide)) (wk_nz g45_l1 (by decide)) dX12_reckons_112 (fun v H locs hV ev28671 hP hD hS => ?_)
                refine wk_iinc (lv' := fun r => [(4, .int r), (0, .ref (b 0)), (1, .int y9_l1), (2, .int y45_l2), (3, .int y45_l3)]) (e1 := 2) (f := 12) hx hb dX12_reckons_113 hl (k := 4) rfl (by decide) g28651 (by decide) (fun _ => rfl) (fun r28672 ls hr28672 er28672 hl => ?_)
                refine lv_goto (tgt := 45) hx hb dX12_reckons_116 (by decide) ?_
                exact ih45 y45_l2 y45_l3 r28672 v _ _ ls g45_l1 g45_l2 g45_l3 (show Rg 1 12 r28672 from rg_w hr28672 (by decide) (by decide)) (by exact rk_3 x45_0 er28672 (show Rg 0 11 y45_l4 from rg_w g28651 (by decide) (by decide)) ((lz_lt _ _).mp (rg_nle c28641)) (by rw [← qr28653]; exact hr28654.2.1 c28655) (by rw [qr28670, (show r28668 = rmI y45_l3 y45_l4 from by rw [qr28668, qr28667, qr28666]; first | done | rfl)]) ev28671) hV hP hD hS (lv_sub (l' := [(0, .ref (b 0)), (1, .int y9_l1), (2, .int y45_l2), (3, .int y45_l3), (4, .int r28672)]) hl [1, 2, 3, 4, 0] rfl) (me_up hm45 er28672 (by decide))
      refine lv_iload_n hx hb dX12_reckons_9 rfl (lv_at hl 1 rfl) ?_
      refine lv_aload_n hx hb dX12_reckons_10 rfl (lv_at hl 0 rfl) ?_
      refine wk_sv 0 (As := []) (rest := [.int y9_l1]) ⟨hx, hb, hml, hown, hts⟩ (w_X12_all l D cI cS b L v hL hV) hKK hP (ci := 12) rfl rfl (cwV 0 hts gX12_reckons_X12_all rfl rfl rfl (by decide +kernel) ⟨Nat.le_of_ble_eq_true rfl, Nat.le_of_ble_eq_true rfl⟩) rfl hl.1 rfl (Nat.le_of_ble_eq_true rfl) dX12_reckons_11 ⟨Nat.le_of_ble_eq_true rfl, Nat.le_of_ble_eq_true rfl⟩ (fun r28673 hr28673 => ?_)
      refine lv_icmp_gt (tgt := 238) hx hb dX12_reckons_14 (by decide) (fun c28674 => ?_) (fun c28674 => ?_)
      · subst hAe
        exact W.vret hx hb hr (fun t ht hW => ⟨⟨v, rfl, ⟨hV, (fun s9 hs9 => by have z1 := (lz_lt _ _).mp c28674; have z2 : y9_l1.toNatClampNeg = y9_l1.toInt.toNat := rfl; rw [← hr28673.2] at hs9; have z3 := x9_0 s9 (by omega); have z4 := g9_l1; have z5 := bdN_top (x := s9) (by omega); exact ⟨z3.1, by omega⟩)⟩, by rw [ht]; exact hP, hD⟩, hS.F ht⟩) hS.2.2 dX12_reckons_238
      · have g28675 : Rg 1 4095 r28673 := rg_ler g9_l1 hr28673.1 (rg_nlt c28674) (by decide)
        have g28676 : Rg 1 4095 y9_l1 := rg_lel g9_l1 hr28673.1 (rg_nlt c28674) (by decide)
        refine lv_iload_n hx hb dX12_reckons_17 rfl (lv_at hl 1 rfl) ?_
        refine lz_ss (As := [.int y9_l1]) (rest := []) ⟨hx, hb, hml, hown, hts⟩ (w_X12_first l D cI cS y9_l1 g28676) hKK (hP.sub (ws' := []) [] rfl) (va_cwS 1 hts gX12_reckons_X12_first rfl rfl rfl (by decide +kernel) ⟨Nat.le_of_ble_eq_true rfl, Nat.le_of_ble_eq_true rfl⟩) rfl hl.1 rfl (Nat.le_of_ble_eq_true rfl) dX12_reckons_18 ⟨Nat.le_of_ble_eq_true rfl, Nat.le_of_ble_eq_true rfl⟩ (fun r28677 hr28677 => ?_)
        refine lv_istore_n (lv' := [(2, .int r28677), (0, .ref (b 0)), (1, .int y9_l1)]) hx hb dX12_reckons_21 rfl hl (by decide) rfl (fun ls hl => ?_)
        refine lv_iload_n hx hb dX12_reckons_22 rfl (lv_at hl 2 rfl) ?_
        refine lv_iload_n hx hb dX12_reckons_23 rfl (lv_at hl 2 rfl) ?_
        refine lv_iconst (v := 1) hx hb dX12_reckons_24 (by decide) ?_
        refine wk_isub (e1 := 0) (f := 4094) hx hb dX12_reckons_25 g28676 (by decide : Rg 1 1 (1 : Int32)) (by decide) (fun r28678 hr28678 er28678 qr28678 => ?_)
        refine wk_iandr hx hb dX12_reckons_26 hr28678 (by decide) (fun r28679 hr28679 qr28679 => ?_)
        refine lv_istore_n (lv' := [(3, .int r28679), (2, .int r28677), (0, .ref (b 0)), (1, .int y9_l1)]) hx hb dX12_reckons_27 rfl hl (by decide) rfl (fun ls hl => ?_)
        refine lv_aload_n hx hb dX12_reckons_28 rfl (lv_at hl 2 rfl) ?_
        refine va_get (D := D) (ci := 12) (v := .ref (b 2)) (C := RX12) (T := TX12) (N := 24) hx hb hts hin12 hown hK hP 0 rfl rfl 3 (by decide) (hts (.fieldLink RX12 17 "MissedPointsModel" "pairs" "[I") (by decide +kernel)) (fun _ h9 => h9) rfl dX12_reckons_29 ?_
        refine lv_iload_n hx hb dX12_reckons_32 rfl (lv_at hl 3 rfl) ?_
        refine lv_aload_n hx hb dX12_reckons_33 rfl (lv_at hl 2 rfl) ?_
        refine va_get (D := D) (ci := 12) (v := .ref (b 2)) (C := RX12) (T := TX12) (N := 24) hx hb hts hin12 hown hK hP 0 rfl rfl 3 (by decide) (hts (.fieldLink RX12 17 "MissedPointsModel" "pairs" "[I") (by decide +kernel)) (fun _ h9 => h9) rfl dX12_reckons_34 ?_
        refine lv_iload_n hx hb dX12_reckons_37 rfl (lv_at hl 0 rfl) ?_
        refine va_iald hx hb hK hP 2 0 rfl rfl (rg_in hr28679 (by decide) (by decide)) dX12_reckons_38 ?_
        refine lz_top (y := (v 2 r28679.toNatClampNeg)) rfl ?_
        refine ms_2 hx hb hK hP hD hS hV rfl (rg_in g28676 (by decide) (by decide)) (wk_nz g28676 (by decide)) dX12_reckons_39 (fun v H locs hV ev28681 hP hD hS => ?_)
        refine lv_iload_n hx hb dX12_reckons_40 rfl (lv_at hl 1 rfl) ?_
        refine lv_iconst (v := 1) hx hb dX12_reckons_41 (by decide) ?_
        refine wk_iadd (e1 := 1) (f := 12) hx hb dX12_reckons_42 hr28677.1 (by decide : Rg 1 1 (1 : Int32)) (by decide) (fun r28682 hr28682 er28682 qr28682 => ?_)
        refine lv_istore (lv' := [(4, .int r28682), (3, .int r28679), (2, .int r28677), (0, .ref (b 0)), (1, .int y9_l1)]) hx hb dX12_reckons_43 hl (by decide) rfl (fun ls hl => ?_)
        exact lp45 12 r28677 r28679 r28682 v _ _ ls g28676 hr28677.1 (show Rg 0 4095 r28679 from rg_w hr28679 (by decide) (by decide)) hr28682 (by exact rk_1 x9_0 g28676 hr28677.2 (by rw [qr28679, qr28678]) ev28681 er28682) hV hP hD hS (lv_sub (l' := [(0, .ref (b 0)), (1, .int y9_l1), (2, .int r28677), (3, .int r28679), (4, .int r28682)]) hl [3, 4, 2, 1, 0] rfl) (me_i hr28682 (by decide))
  refine lv_aload_n hx hb dX12_reckons_0 rfl (lv_at hl 0 rfl) ?_
  refine va_get (D := D) (ci := 12) (v := .ref (b 3)) (C := RX12) (T := TX12) (N := 24) hx hb hts hin12 hown hK hP 0 rfl rfl 4 (by decide) (hts (.fieldLink RX12 20 "MissedPointsModel" "greatestWays" "[I") (by decide +kernel)) (fun _ h9 => h9) rfl dX12_reckons_1 ?_
  refine lv_iconst (v := 0) hx hb dX12_reckons_4 (by decide) ?_
  refine lv_iconst (v := 1) hx hb dX12_reckons_5 (by decide) ?_
  refine ms_3 hx hb hK hP hD hS hV rfl (rg_in (by decide : Rg 0 0 (0 : Int32)) (by decide) (by decide)) dX12_reckons_6 (fun v H locs hV ev28683 hP hD hS => ?_)
  refine lv_iconst (v := 1) hx hb dX12_reckons_7 (by decide) ?_
  refine lv_istore_n (lv' := [(1, .int 1), (0, .ref (b 0))]) hx hb dX12_reckons_8 rfl hl (by decide) rfl (fun ls hl => ?_)
  exact lp9 4096 (1 : Int32) v _ _ ls (by decide : Rg 1 4096 (1 : Int32)) (by exact WI.one ev28683) hV hP hD hS (lv_sub (l' := [(0, .ref (b 0)), (1, .int 1)]) hl [1, 0] rfl) (me_i (by decide : Rg 1 4096 (1 : Int32)) (by decide))
theorem dX12_common_0 : decode cX12_common 0 = .ok (.iload_n 0, 1) := by decide +kernel
theorem dX12_common_1 : decode cX12_common 1 = .ok (.istore_n 2, 1) := by decide +kernel
theorem dX12_common_10 : decode cX12_common 10 = .ok (.irem, 1) := by decide +kernel
theorem dX12_common_11 : decode cX12_common 11 = .ok (.istore 4, 2) := by decide +kernel
theorem dX12_common_13 : decode cX12_common 13 = .ok (.iload_n 3, 1) := by decide +kernel
theorem dX12_common_14 : decode cX12_common 14 = .ok (.istore_n 2, 1) := by decide +kernel
theorem dX12_common_15 : decode cX12_common 15 = .ok (.iload 4, 2) := by decide +kernel
theorem dX12_common_17 : decode cX12_common 17 = .ok (.istore_n 3, 1) := by decide +kernel
theorem dX12_common_18 : decode cX12_common 18 = .ok (.goto (-14), 3) := by decide +kernel
theorem dX12_common_2 : decode cX12_common 2 = .ok (.iload_n 1, 1) := by decide +kernel
theorem dX12_common_21 : decode cX12_common 21 = .ok (.iload_n 2, 1) := by decide +kernel
theorem dX12_common_22 : decode cX12_common 22 = .ok (.ireturn, 1) := by decide +kernel
theorem dX12_common_3 : decode cX12_common 3 = .ok (.istore_n 3, 1) := by decide +kernel
theorem dX12_common_4 : decode cX12_common 4 = .ok (.iload_n 3, 1) := by decide +kernel
theorem dX12_common_5 : decode cX12_common 5 = .ok (.ifCond .eq 16, 3) := by decide +kernel
theorem dX12_common_8 : decode cX12_common 8 = .ok (.iload_n 2, 1) := by decide +kernel
theorem dX12_common_9 : decode cX12_common 9 = .ok (.iload_n 3, 1) := by decide +kernel
set_option maxHeartbeats 4000000 in
set_option maxRecDepth 100000 in
theorem w_X12_common (l : Launch) (D : va_G) (cI cS : ClassId) (x0 x1 : Int32) (px0 : Rg 0 479001600 x0) (px1 : Rg 1 479001600 x1) : Met l yX12_common wsX12_common ({ frames := 0, cells := 0, slots := 0, locals := 0 }) (PS D cI cS [] [.int x0, .int x1]) (vp_Si (fun r => Rg 1 479001600 r ∧ True)) 0 0 (fun _ => False) := by
  refine Met.ofW (cc := cX12_common) (maxL := 5) (ret := (some .int)) (by decide) rfl ?_
  intro p e s m args below meth c s₁ B hml hv
  obtain ⟨rfl, hP, hKK⟩ := hv
  have hx := B.exec
  have hb := B.bytes
  have hr := B.returns
  have hts := atoms_spec (ws := wsX12_common) B.pre
  have hown : s.vm.findClass RX12 = some m.cls := findClass_of_methodNamed B.named
  have hlocks := B.notSynchronized
  have hK := hKK.1
  have hl := lv_entry ([.int x0, .int x1]) (n := 5) (Nat.le_of_ble_eq_true rfl)
  rw [lg_entry_eq]
  generalize (lg_sl ([.int x0, .int x1]) ++ List.replicate (5 - (lg_sl ([.int x0, .int x1])).length) Slot.unset).toArray = ls at hl ⊢
  have hl : lv_has ls 5 [(0, .int x0), (1, .int x1)] := hl
  have lp4 : ∀ (n4 : Nat) (y4_l2 : Int32) (y4_l3 : Int32) (ls : Array Slot), Rg 0 479001600 y4_l2 → Rg 0 479001600 y4_l3 → (1 ≤ y4_l2.toInt ∨ 1 ≤ y4_l3.toInt) → lv_has ls 5 [(2, .int y4_l2), (3, .int y4_l3)] → y4_l3.toInt < (n4 : Int) → W p l e (headSpec wsX12_common ({ frames := 0, cells := 0, slots := 0, locals := 0 })).room s m ([.int x0, .int x1]).toArray below meth c s.heap [] 0 0 (MQ below (vp_Si (fun r => Rg 1 479001600 r ∧ True)) ([.int x0, .int x1]).toArray s 0 0 (fun _ => False)) (F0 m 4 ls []) := by
    intro n4
    induction n4 with
    | zero =>
      intro y4_l2 y4_l3 ls g4_l2 g4_l3 x4_0 hl hm4
      exact absurd rfl (me_0 g4_l3 (by decide) hm4)
    | succ n4 ih4 =>
      intro y4_l2 y4_l3 ls g4_l2 g4_l3 x4_0 hl hm4
      refine lv_iload_n hx hb dX12_common_4 rfl (lv_at hl 1 rfl) ?_
      refine lv_if_eq (tgt := 21) hx hb dX12_common_5 (by decide) (fun c28693 => ?_) (fun c28693 => ?_)
      · have g28694 : Rg 0 0 y4_l3 := wk_eql g4_l3 (by decide : Rg 0 0 (0 : Int32)) c28693 (by decide)
        have g28695 : Rg 1 479001600 y4_l2 := by have y90 : y4_l3.toInt = (0 : Int32).toInt := congrArg Int32.toInt c28693; have y91 : Rg 0 0 y4_l3 := g28694; have y92 : Rg 0 479001600 y4_l2 := g4_l2; have y93 : Rg 0 0 y4_l3 := g28694; have y94 : Rg 0 479001600 y4_l2 := g4_l2; have y9c5 : (0 : Int32).toInt = 0 := (by decide); have y9c6 : (1 : Int32).toInt = 1 := (by decide); exact ⟨by omega, by omega⟩
        refine lv_iload_n hx hb dX12_common_21 rfl (lv_at hl 0 rfl) ?_
        exact W.iret (v := y4_l2) hx hb hr (fun t ht hW => ⟨_, rfl, ⟨g28695, trivial⟩, ht⟩) (fun q hq => absurd hq List.not_mem_nil) dX12_common_22
      · have g28696 : Rg 1 479001600 y4_l3 := rg_ne_lo (k := 0) g4_l3 (by decide) c28693 (by decide)
        refine lv_iload_n hx hb dX12_common_8 rfl (lv_at hl 0 rfl) ?_
        refine lv_iload_n hx hb dX12_common_9 rfl (lv_at hl 1 rfl) ?_
        refine lv_irem hx hb dX12_common_10 (wk_nz g28696 (by decide)) ?_
        refine wk_remv g4_l2 g28696 (by decide) (fun r28697 hr28697 er28697 => ?_)
        refine lv_istore (lv' := [(4, .int r28697), (2, .int y4_l2), (3, .int y4_l3)]) hx hb dX12_common_11 hl (by decide) rfl (fun ls hl => ?_)
        refine lv_iload_n hx hb dX12_common_13 rfl (lv_at hl 2 rfl) ?_
        refine lv_istore_n (lv' := [(2, .int y4_l3), (4, .int r28697), (3, .int y4_l3)]) hx hb dX12_common_14 rfl hl (by decide) rfl (fun ls hl => ?_)
        refine lv_iload hx hb dX12_common_15 (lv_at hl 1 rfl) ?_
        refine lv_istore_n (lv' := [(3, .int r28697), (2, .int y4_l3), (4, .int r28697)]) hx hb dX12_common_17 rfl hl (by decide) rfl (fun ls hl => ?_)
        refine lv_goto (tgt := 4) hx hb dX12_common_18 (by decide) ?_
        exact ih4 y4_l3 r28697 ls (show Rg 0 479001600 y4_l3 from rg_w g28696 (by decide) (by decide)) (show Rg 0 479001600 r28697 from rg_w hr28697 (by decide) (by decide)) (show (1 ≤ y4_l3.toInt ∨ 1 ≤ r28697.toInt) from by have y90 : ¬ y4_l3.toInt = (0 : Int32).toInt := fun z => c28693 (Int32.toInt_inj.mp z); have y91 : Rg 1 479001600 y4_l3 := g28696; have y92 : Rg 1 479001600 y4_l3 := g28696; have y93 : Rg 0 479001599 r28697 := hr28697; have y94 : Rg 0 479001599 r28697 := hr28697; have y9c5 : (0 : Int32).toInt = 0 := (by decide); have y9c6 : (1 : Int32).toInt = 1 := (by decide); omega) (lv_sub (l' := [(2, .int y4_l3), (3, .int r28697)]) hl [1, 0] rfl) (me_lt hm4 er28697)
  refine lv_iload_n hx hb dX12_common_0 rfl (lv_at hl 0 rfl) ?_
  refine lv_istore_n (lv' := [(2, .int x0), (0, .int x0), (1, .int x1)]) hx hb dX12_common_1 rfl hl (by decide) rfl (fun ls hl => ?_)
  refine lv_iload_n hx hb dX12_common_2 rfl (lv_at hl 2 rfl) ?_
  refine lv_istore_n (lv' := [(3, .int x1), (2, .int x0), (0, .int x0), (1, .int x1)]) hx hb dX12_common_3 rfl hl (by decide) rfl (fun ls hl => ?_)
  exact lp4 479001601 x0 x1 ls px0 (show Rg 0 479001600 x1 from rg_w px1 (by decide) (by decide)) (show (1 ≤ x0.toInt ∨ 1 ≤ x1.toInt) from by have y90 : Rg 0 479001600 x0 := px0; have y91 : Rg 1 479001600 x1 := px1; have y92 : Rg 0 479001600 x0 := px0; have y93 : Rg 1 479001600 x1 := px1; have y9c4 : (0 : Int32).toInt = 0 := (by decide); have y9c5 : (1 : Int32).toInt = 1 := (by decide); omega) (lv_sub (l' := [(2, .int x0), (3, .int x1)]) hl [1, 0] rfl) (me_k (show Rg 0 479001600 x1 from rg_w px1 (by decide) (by decide)) (by decide))
set_option maxRecDepth 20000 in
theorem ggX12_alone_X12_all : GoodIn wsX12_alone wsX12_all := goodIn_r _ [20, 7, 34, 35, 36, 37, 38, 39, 40, 41, 42, 43, 44, 45, 46, 47, 48, 49, 50, 51, 52, 53, 54, 55, 56, 57] (by decide +kernel) (by decide +kernel)
set_option maxRecDepth 20000 in
theorem gX12_alone_X12_all : GoodIn wsX12_alone (wsV RX12 70 RX12 yX12_all wsX12_all) := goodIn_app (goodIn_of _ (by decide +kernel)) ggX12_alone_X12_all
set_option maxRecDepth 20000 in
theorem ggX12_alone_X12_common : GoodIn wsX12_alone wsX12_common := goodIn_r _ [33] (by decide +kernel) (by decide +kernel)
set_option maxRecDepth 20000 in
theorem gX12_alone_X12_common : GoodIn wsX12_alone (va_wsS RX12 122 yX12_common wsX12_common) := goodIn_app (goodIn_of _ (by decide +kernel)) ggX12_alone_X12_common
set_option maxRecDepth 20000 in
theorem ggX12_alone_X12_in : GoodIn wsX12_alone wsX12_in := goodIn_r _ [10] (by decide +kernel) (by decide +kernel)
set_option maxRecDepth 20000 in
theorem gX12_alone_X12_in : GoodIn wsX12_alone (va_wsS RX12 66 yX12_in wsX12_in) := goodIn_app (goodIn_of _ (by decide +kernel)) ggX12_alone_X12_in
set_option maxRecDepth 20000 in
theorem ggX12_alone_X12_isLoose : GoodIn wsX12_alone wsX12_isLoose := goodIn_r _ [30, 15, 17, 18, 19, 5, 20, 7, 34, 35, 36, 37, 38, 39, 40, 41, 42, 43, 44, 45, 46, 47, 48, 49, 50, 51, 52, 53, 54, 55, 56, 57] (by decide +kernel) (by decide +kernel)
set_option maxRecDepth 20000 in
theorem gX12_alone_X12_isLoose : GoodIn wsX12_alone (wsV RX12 119 RX12 yX12_isLoose wsX12_isLoose) := goodIn_app (goodIn_of _ (by decide +kernel)) ggX12_alone_X12_isLoose
set_option maxRecDepth 20000 in
theorem ggX12_alone_X12_reckons : GoodIn wsX12_alone wsX12_reckons := goodIn_r _ [14, 1, 15, 7, 16, 17, 18, 19, 5, 20, 21, 22, 23, 24, 25, 26, 34, 35, 36, 37, 38, 39, 40, 41, 42, 43, 44, 45, 46, 47, 48, 49, 50, 51, 52, 53, 54, 55, 56, 57] (by decide +kernel) (by decide +kernel)
set_option maxRecDepth 20000 in
theorem gX12_alone_X12_reckons : GoodIn wsX12_alone (wsV RX12 107 RX12 yX12_reckons wsX12_reckons) := goodIn_app (goodIn_of _ (by decide +kernel)) ggX12_alone_X12_reckons
theorem dX12_alone_10 : decode cX12_alone 10 = .ok (.iconst 1, 1) := by decide +kernel
theorem dX12_alone_11 : decode cX12_alone 11 = .ok (.invokestatic 66, 3) := by decide +kernel
theorem dX12_alone_14 : decode cX12_alone 14 = .ok (.ifCond .ne 6, 3) := by decide +kernel
theorem dX12_alone_20 : decode cX12_alone 20 = .ok (.aload_n 0, 1) := by decide +kernel
theorem dX12_alone_21 : decode cX12_alone 21 = .ok (.invokevirtual 107, 3) := by decide +kernel
theorem dX12_alone_24 : decode cX12_alone 24 = .ok (.aload_n 0, 1) := by decide +kernel
theorem dX12_alone_25 : decode cX12_alone 25 = .ok (.iload_n 1, 1) := by decide +kernel
theorem dX12_alone_26 : decode cX12_alone 26 = .ok (.invokevirtual 119, 3) := by decide +kernel
theorem dX12_alone_29 : decode cX12_alone 29 = .ok (.ifCond .eq 21, 3) := by decide +kernel
theorem dX12_alone_32 : decode cX12_alone 32 = .ok (.aload_n 0, 1) := by decide +kernel
theorem dX12_alone_33 : decode cX12_alone 33 = .ok (.getfield 20, 3) := by decide +kernel
theorem dX12_alone_36 : decode cX12_alone 36 = .ok (.aload_n 0, 1) := by decide +kernel
theorem dX12_alone_37 : decode cX12_alone 37 = .ok (.invokevirtual 70, 3) := by decide +kernel
theorem dX12_alone_40 : decode cX12_alone 40 = .ok (.iconst 1, 1) := by decide +kernel
theorem dX12_alone_41 : decode cX12_alone 41 = .ok (.iload_n 1, 1) := by decide +kernel
theorem dX12_alone_42 : decode cX12_alone 42 = .ok (.ishl, 1) := by decide +kernel
theorem dX12_alone_43 : decode cX12_alone 43 = .ok (.iconst (-1), 1) := by decide +kernel
theorem dX12_alone_44 : decode cX12_alone 44 = .ok (.ixor, 1) := by decide +kernel
theorem dX12_alone_45 : decode cX12_alone 45 = .ok (.iand, 1) := by decide +kernel
theorem dX12_alone_46 : decode cX12_alone 46 = .ok (.iaload, 1) := by decide +kernel
theorem dX12_alone_47 : decode cX12_alone 47 = .ok (.goto 4, 3) := by decide +kernel
theorem dX12_alone_50 : decode cX12_alone 50 = .ok (.iconst 0, 1) := by decide +kernel
theorem dX12_alone_51 : decode cX12_alone 51 = .ok (.istore_n 3, 1) := by decide +kernel
theorem dX12_alone_52 : decode cX12_alone 52 = .ok (.aload_n 0, 1) := by decide +kernel
theorem dX12_alone_53 : decode cX12_alone 53 = .ok (.getfield 20, 3) := by decide +kernel
theorem dX12_alone_56 : decode cX12_alone 56 = .ok (.aload_n 0, 1) := by decide +kernel
theorem dX12_alone_57 : decode cX12_alone 57 = .ok (.invokevirtual 70, 3) := by decide +kernel
theorem dX12_alone_60 : decode cX12_alone 60 = .ok (.iaload, 1) := by decide +kernel
theorem dX12_alone_61 : decode cX12_alone 61 = .ok (.istore 4, 2) := by decide +kernel
theorem dX12_alone_63 : decode cX12_alone 63 = .ok (.iload_n 2, 1) := by decide +kernel
theorem dX12_alone_64 : decode cX12_alone 64 = .ok (.ifCond .ne 7, 3) := by decide +kernel
theorem dX12_alone_67 : decode cX12_alone 67 = .ok (.iload_n 3, 1) := by decide +kernel
theorem dX12_alone_68 : decode cX12_alone 68 = .ok (.goto 5, 3) := by decide +kernel
theorem dX12_alone_71 : decode cX12_alone 71 = .ok (.iload 4, 2) := by decide +kernel
theorem dX12_alone_73 : decode cX12_alone 73 = .ok (.iload_n 3, 1) := by decide +kernel
theorem dX12_alone_74 : decode cX12_alone 74 = .ok (.iload 4, 2) := by decide +kernel
theorem dX12_alone_76 : decode cX12_alone 76 = .ok (.invokestatic 122, 3) := by decide +kernel
theorem dX12_alone_79 : decode cX12_alone 79 = .ok (.idiv, 1) := by decide +kernel
theorem dX12_alone_8 : decode cX12_alone 8 = .ok (.iload_n 2, 1) := by decide +kernel
theorem dX12_alone_80 : decode cX12_alone 80 = .ok (.ireturn, 1) := by decide +kernel
theorem dX12_alone_9 : decode cX12_alone 9 = .ok (.iconst 0, 1) := by decide +kernel
set_option maxHeartbeats 4000000 in
set_option maxRecDepth 100000 in
theorem w_X12_alone (l : Launch) (D : va_G) (cI cS : ClassId) (sz : Nat) (b : Nat → Nat) (L v0 : SU) (hL : TyL L) (hV : TyV v0) (x0 x1 : Int32) : Met l yX12_alone wsX12_alone ({ frames := 3, cells := 0, slots := 0, locals := 120 }) (PQ D cI cS (wM cI b L v0) sz [.ref (b 0), .int x0, .int x1]) (QF (S := SU) D (wM cI b L v0) (wM cI b L) sz (fun r u => TyV u ∧ Rg (-2147483648) 2147483647 r ∧ True)) 0 0 (va_A (wM cI b L v0) sz) := by
  refine Met.ofW (cc := cX12_alone) (maxL := 5) (ret := (some .int)) (by decide) rfl ?_
  intro p e s m args below meth c s₁ B hml hv
  obtain ⟨rfl, hsz, hP, hKK, hD0⟩ := hv
  have hx := B.exec
  have hb := B.bytes
  have hr := B.returns
  have hts := atoms_spec (ws := wsX12_alone) B.pre
  have hown : s.vm.findClass RX12 = some m.cls := findClass_of_methodNamed B.named
  have hlocks := B.notSynchronized
  have hK := hKK.1
  have hin12 : ∀ w ∈ wsX120, w ∈ wsX12_alone := by decide +kernel
  subst hsz
  have hD := hD0.self (sz := s.heap.size)
  obtain ⟨A, hAe⟩ : ∃ A, A = va_A (wM cI b L v0) s.heap.size := ⟨_, rfl⟩
  rw [← hAe] at hD
  have hA : ∀ q : Nat, s.heap.size ≤ q → A q := fun q h => by rw [hAe]; exact Or.inr h
  have hS : va_S A s.heap s.heap [] := va_S.rf
  have hl := lv_entry ([.ref (b 0), .int x0, .int x1]) (n := 5) (Nat.le_of_ble_eq_true rfl)
  rw [lg_entry_eq]
  generalize (lg_sl ([.ref (b 0), .int x0, .int x1]) ++ List.replicate (5 - (lg_sl ([.ref (b 0), .int x0, .int x1])).length) Slot.unset).toArray = ls at hl ⊢
  have hl : lv_has ls 5 [(0, .ref (b 0)), (1, .int x0), (2, .int x1)] := hl
  obtain ⟨v, hv9⟩ : ∃ v : SU, v = v0 := ⟨_, rfl⟩
  rw [← hv9] at hP hD hV
  refine lv_aload_n hx hb dX12_alone_0 rfl (lv_at hl 0 rfl) ?_
  refine lv_iload_n hx hb dX12_alone_1 rfl (lv_at hl 1 rfl) ?_
  refine wk_sv 0 (As := [.int x0]) (rest := []) ⟨hx, hb, hml, hown, hts⟩ (w_X12_isPoint l D cI cS b L v hL hV x0) hKK hP (ci := 12) rfl rfl (cwV 1 hts gX12_alone_X12_isPoint rfl rfl rfl (by decide +kernel) ⟨Nat.le_of_ble_eq_true rfl, Nat.le_of_ble_eq_true rfl⟩) rfl hl.1 rfl (Nat.le_of_ble_eq_true rfl) dX12_alone_2 ⟨Nat.le_of_ble_eq_true rfl, Nat.le_of_ble_eq_true rfl⟩ (fun r28742 hr28742 => ?_)
  refine lv_if_eq (tgt := 17) hx hb dX12_alone_5 (by decide) (fun c28743 => ?_) (fun c28743 => ?_)
  · have zt28744 : (x0.toInt < 0 ∨ (L 0 0).toInt - 1 < x0.toInt) := hr28742.2.2 c28743
    have g28745 : Rg 0 0 r28742 := wk_eql hr28742.1 (by decide : Rg 0 0 (0 : Int32)) c28743 (by decide)
    refine lv_bipush (v := (-2)) hx hb dX12_alone_17 (by decide) ?_
    subst hAe
    exact W.iret (v := (-2)) hx hb hr (fun t ht hW => ⟨⟨_, v, rfl, ⟨hV, (by decide : Rg (-2147483648) 2147483647 ((-2) : Int32)), trivial⟩, by rw [ht]; exact hP, hD⟩, hS.F ht⟩) hS.2.2 dX12_alone_19
  · have g28746 : Rg 0 11 x0 := (hr28742.2.1 c28743)
    have g28747 : Rg 1 1 r28742 := rg_ne_lo (k := 0) hr28742.1 (by decide) c28743 (by decide)
    refine lv_iload_n hx hb dX12_alone_8 rfl (lv_at hl 2 rfl) ?_
    refine lv_iconst (v := 0) hx hb dX12_alone_9 (by decide) ?_
    refine lv_iconst (v := 1) hx hb dX12_alone_10 (by decide) ?_
    refine lz_ss (As := [.int x1, .int 0, .int 1]) (rest := []) ⟨hx, hb, hml, hown, hts⟩ (w_X12_in l D cI cS x1 (0 : Int32) (1 : Int32)) hKK (hP.sub (ws' := []) [] rfl) (va_cwS 3 hts gX12_alone_X12_in rfl rfl rfl (by decide +kernel) ⟨Nat.le_of_ble_eq_true rfl, Nat.le_of_ble_eq_true rfl⟩) rfl hl.1 rfl (Nat.le_of_ble_eq_true rfl) dX12_alone_11 ⟨Nat.le_of_ble_eq_true rfl, Nat.le_of_ble_eq_true rfl⟩ (fun r28748 hr28748 => ?_)
    refine lv_if_ne (tgt := 20) hx hb dX12_alone_14 (by decide) (fun c28749 => ?_) (fun c28749 => ?_)
    · have zn28750 : (0 : Int32).toInt ≤ x1.toInt ∧ x1.toInt ≤ (1 : Int32).toInt := (hr28748.2.2 c28749)
      have g28751 : Rg 0 1 x1 := wk_in3 (rg_any x1) (by decide : Rg 0 0 (0 : Int32)) (by decide : Rg 1 1 (1 : Int32)) (hr28748.2.2 c28749) (by decide)
      have g28752 : Rg 1 1 r28748 := rg_ne_lo (k := 0) hr28748.1 (by decide) c28749 (by decide)
      refine lv_aload_n hx hb dX12_alone_20 rfl (lv_at hl 0 rfl) ?_
      refine wk_qv (wM cI b L) v (As := []) (rest := []) ⟨hx, hb, hml, hown, hts⟩ (w_X12_reckons_W l D cI cS _ b L v hL hV) hKK hP hD hS hA 0 (ci := 12) rfl rfl (cwV 0 hts gX12_alone_X12_reckons rfl rfl rfl (by decide +kernel) ⟨Nat.le_of_ble_eq_true rfl, Nat.le_of_ble_eq_true rfl⟩) rfl hl.1 rfl (Nat.le_of_ble_eq_true rfl) dX12_alone_21 ⟨Nat.le_of_ble_eq_true rfl, Nat.le_of_ble_eq_true rfl⟩ (fun v H locs hr28753 hP hD hS => ?_)
      have hV := hr28753.1
      have hWW := hr28753.2
      refine lv_aload_n hx hb dX12_alone_24 rfl (lv_at hl 0 rfl) ?_
      refine lv_iload_n hx hb dX12_alone_25 rfl (lv_at hl 1 rfl) ?_
      refine wk_sv 0 (As := [.int x0]) (rest := []) ⟨hx, hb, hml, hown, hts⟩ (w_X12_isLoose l D cI cS b L v hL hV x0) hKK hP (ci := 12) rfl rfl (cwV 1 hts gX12_alone_X12_isLoose rfl rfl rfl (by decide +kernel) ⟨Nat.le_of_ble_eq_true rfl, Nat.le_of_ble_eq_true rfl⟩) rfl hl.1 rfl (Nat.le_of_ble_eq_true rfl) dX12_alone_26 ⟨Nat.le_of_ble_eq_true rfl, Nat.le_of_ble_eq_true rfl⟩ (fun r28754 hr28754 => ?_)
      refine lv_if_eq (tgt := 50) hx hb dX12_alone_29 (by decide) (fun c28755 => ?_) (fun c28755 => ?_)
      · have g28756 : Rg 0 0 r28754 := wk_eql hr28754.1 (by decide : Rg 0 0 (0 : Int32)) c28755 (by decide)
        refine lv_iconst (v := 0) hx hb dX12_alone_50 (by decide) ?_
        refine lv_istore_n (lv' := [(3, .int 0), (0, .ref (b 0)), (1, .int x0), (2, .int x1)]) hx hb dX12_alone_51 rfl hl (by decide) rfl (fun ls hl => ?_)
        refine lv_aload_n hx hb dX12_alone_52 rfl (lv_at hl 1 rfl) ?_
        refine va_get (D := D) (ci := 12) (v := .ref (b 3)) (C := RX12) (T := TX12) (N := 24) hx hb hts hin12 hown hK hP 0 rfl rfl 4 (by decide) (hts (.fieldLink RX12 20 "MissedPointsModel" "greatestWays" "[I") (by decide +kernel)) (fun _ h9 => h9) rfl dX12_alone_53 ?_
        refine lv_aload_n hx hb dX12_alone_56 rfl (lv_at hl 1 rfl) ?_
        refine wk_sv 0 (As := []) (rest := [.ref (b 3)]) ⟨hx, hb, hml, hown, hts⟩ (w_X12_all l D cI cS b L v hL hV) hKK hP (ci := 12) rfl rfl (cwV 0 hts gX12_alone_X12_all rfl rfl rfl (by decide +kernel) ⟨Nat.le_of_ble_eq_true rfl, Nat.le_of_ble_eq_true rfl⟩) rfl hl.1 rfl (Nat.le_of_ble_eq_true rfl) dX12_alone_57 ⟨Nat.le_of_ble_eq_true rfl, Nat.le_of_ble_eq_true rfl⟩ (fun r28757 hr28757 => ?_)
        refine va_iald hx hb hK hP 3 0 rfl rfl (rg_in hr28757.1 (by decide) (by decide)) dX12_alone_60 ?_
        refine lz_top (y := (v 3 r28757.toNatClampNeg)) rfl ?_
        have g28759 : Rg 1 479001600 (v 3 r28757.toNatClampNeg) := hWW _ (by rw [← hr28757.2]; exact cl_le hr28757.1.1 (Int.le_refl _))
        refine lv_istore (lv' := [(4, .int (v 3 r28757.toNatClampNeg)), (3, .int 0), (0, .ref (b 0)), (1, .int x0), (2, .int x1)]) hx hb dX12_alone_61 hl (by decide) rfl (fun ls hl => ?_)
        refine lv_iload_n hx hb dX12_alone_63 rfl (lv_at hl 4 rfl) ?_
        refine lv_if_ne (tgt := 71) hx hb dX12_alone_64 (by decide) (fun c28760 => ?_) (fun c28760 => ?_)
        · have g28761 : Rg 1 1 x1 := rg_ne_lo (k := 0) g28751 (by decide) c28760 (by decide)
          refine lv_iload hx hb dX12_alone_71 (lv_at hl 0 rfl) ?_
          refine lv_iload_n hx hb dX12_alone_73 rfl (lv_at hl 1 rfl) ?_
          refine lv_iload hx hb dX12_alone_74 (lv_at hl 0 rfl) ?_
          refine lz_ss (As := [.int 0, .int (v 3 r28757.toNatClampNeg)]) (rest := [.int (v 3 r28757.toNatClampNeg)]) ⟨hx, hb, hml, hown, hts⟩ (w_X12_common l D cI cS (0 : Int32) (v 3 r28757.toNatClampNeg) (by decide : Rg 0 479001600 (0 : Int32)) g28759) hKK (hP.sub (ws' := []) [] rfl) (va_cwS 2 hts gX12_alone_X12_common rfl rfl rfl (by decide +kernel) ⟨Nat.le_of_ble_eq_true rfl, Nat.le_of_ble_eq_true rfl⟩) rfl hl.1 rfl (Nat.le_of_ble_eq_true rfl) dX12_alone_76 ⟨Nat.le_of_ble_eq_true rfl, Nat.le_of_ble_eq_true rfl⟩ (fun r28762 hr28762 => ?_)
          refine lv_idiv hx hb dX12_alone_79 (wk_nz hr28762.1 (by decide)) ?_
          refine wk_any (fun r28763 => ?_)
          subst hAe
          exact W.iret (v := r28763) hx hb hr (fun t ht hW => ⟨⟨_, v, rfl, ⟨hV, (rg_any r28763), trivial⟩, by rw [ht]; exact hP, hD⟩, hS.F ht⟩) hS.2.2 dX12_alone_80
        · have g28764 : Rg 0 0 x1 := wk_eql g28751 (by decide : Rg 0 0 (0 : Int32)) c28760 (by decide)
          refine lv_iload_n hx hb dX12_alone_67 rfl (lv_at hl 1 rfl) ?_
          refine lv_goto (tgt := 73) hx hb dX12_alone_68 (by decide) ?_
          refine lv_iload_n hx hb dX12_alone_73 rfl (lv_at hl 1 rfl) ?_
          refine lv_iload hx hb dX12_alone_74 (lv_at hl 0 rfl) ?_
          refine lz_ss (As := [.int 0, .int (v 3 r28757.toNatClampNeg)]) (rest := [.int 0]) ⟨hx, hb, hml, hown, hts⟩ (w_X12_common l D cI cS (0 : Int32) (v 3 r28757.toNatClampNeg) (by decide : Rg 0 479001600 (0 : Int32)) g28759) hKK (hP.sub (ws' := []) [] rfl) (va_cwS 2 hts gX12_alone_X12_common rfl rfl rfl (by decide +kernel) ⟨Nat.le_of_ble_eq_true rfl, Nat.le_of_ble_eq_true rfl⟩) rfl hl.1 rfl (Nat.le_of_ble_eq_true rfl) dX12_alone_76 ⟨Nat.le_of_ble_eq_true rfl, Nat.le_of_ble_eq_true rfl⟩ (fun r28765 hr28765 => ?_)
          refine lv_idiv hx hb dX12_alone_79 (wk_nz hr28765.1 (by decide)) ?_
          refine wk_any (fun r28766 => ?_)
          subst hAe
          exact W.iret (v := r28766) hx hb hr (fun t ht hW => ⟨⟨_, v, rfl, ⟨hV, (rg_any r28766), trivial⟩, by rw [ht]; exact hP, hD⟩, hS.F ht⟩) hS.2.2 dX12_alone_80
      · have g28767 : Rg 1 1 r28754 := rg_ne_lo (k := 0) hr28754.1 (by decide) c28755 (by decide)
        refine lv_aload_n hx hb dX12_alone_32 rfl (lv_at hl 0 rfl) ?_
        refine va_get (D := D) (ci := 12) (v := .ref (b 3)) (C := RX12) (T := TX12) (N := 24) hx hb hts hin12 hown hK hP 0 rfl rfl 4 (by decide) (hts (.fieldLink RX12 20 "MissedPointsModel" "greatestWays" "[I") (by decide +kernel)) (fun _ h9 => h9) rfl dX12_alone_33 ?_
        refine lv_aload_n hx hb dX12_alone_36 rfl (lv_at hl 0 rfl) ?_
        refine wk_sv 0 (As := []) (rest := [.ref (b 3)]) ⟨hx, hb, hml, hown, hts⟩ (w_X12_all l D cI cS b L v hL hV) hKK hP (ci := 12) rfl rfl (cwV 0 hts gX12_alone_X12_all rfl rfl rfl (by decide +kernel) ⟨Nat.le_of_ble_eq_true rfl, Nat.le_of_ble_eq_true rfl⟩) rfl hl.1 rfl (Nat.le_of_ble_eq_true rfl) dX12_alone_37 ⟨Nat.le_of_ble_eq_true rfl, Nat.le_of_ble_eq_true rfl⟩ (fun r28768 hr28768 => ?_)
        refine lv_iconst (v := 1) hx hb dX12_alone_40 (by decide) ?_
        refine lv_iload_n hx hb dX12_alone_41 rfl (lv_at hl 1 rfl) ?_
        refine wk_ishl1 (f := 2048) hx hb dX12_alone_42 g28746 (by decide) (fun r28769 hr28769 qr28769 => ?_)
        refine lv_iconst (v := (-1)) hx hb dX12_alone_43 (by decide) ?_
        refine lv_ixor hx hb dX12_alone_44 ?_
        refine wk_topP (P := fun r => r = r28769 ^^^ ((-1) : Int32)) rfl (fun r28770 qr28770 => ?_)
        refine wk_iandl hx hb dX12_alone_45 hr28768.1 (by decide) (fun r28771 hr28771 qr28771 => ?_)
        refine va_iald hx hb hK hP 3 0 rfl rfl (rg_in hr28771 (by decide) (by decide)) dX12_alone_46 ?_
        refine lz_top (y := (v 3 r28771.toNatClampNeg)) rfl ?_
        have g28773 : Rg 1 479001600 (v 3 r28771.toNatClampNeg) := hWW _ (by rw [← hr28768.2]; exact cl_le hr28771.1 ((by rw [qr28771]; exact an_le hr28768.1.1)))
        refine lv_goto (tgt := 51) hx hb dX12_alone_47 (by decide) ?_
        refine lv_istore_n (lv' := [(3, .int (v 3 r28771.toNatClampNeg)), (0, .ref (b 0)), (1, .int x0), (2, .int x1)]) hx hb dX12_alone_51 rfl hl (by decide) rfl (fun ls hl => ?_)
        refine lv_aload_n hx hb dX12_alone_52 rfl (lv_at hl 1 rfl) ?_
        refine va_get (D := D) (ci := 12) (v := .ref (b 3)) (C := RX12) (T := TX12) (N := 24) hx hb hts hin12 hown hK hP 0 rfl rfl 4 (by decide) (hts (.fieldLink RX12 20 "MissedPointsModel" "greatestWays" "[I") (by decide +kernel)) (fun _ h9 => h9) rfl dX12_alone_53 ?_
        refine lv_aload_n hx hb dX12_alone_56 rfl (lv_at hl 1 rfl) ?_
        refine wk_sv 0 (As := []) (rest := [.ref (b 3)]) ⟨hx, hb, hml, hown, hts⟩ (w_X12_all l D cI cS b L v hL hV) hKK hP (ci := 12) rfl rfl (cwV 0 hts gX12_alone_X12_all rfl rfl rfl (by decide +kernel) ⟨Nat.le_of_ble_eq_true rfl, Nat.le_of_ble_eq_true rfl⟩) rfl hl.1 rfl (Nat.le_of_ble_eq_true rfl) dX12_alone_57 ⟨Nat.le_of_ble_eq_true rfl, Nat.le_of_ble_eq_true rfl⟩ (fun r28774 hr28774 => ?_)
        refine va_iald hx hb hK hP 3 0 rfl rfl (rg_in hr28774.1 (by decide) (by decide)) dX12_alone_60 ?_
        refine lz_top (y := (v 3 r28774.toNatClampNeg)) rfl ?_
        have g28776 : Rg 1 479001600 (v 3 r28774.toNatClampNeg) := hWW _ (by rw [← hr28774.2]; exact cl_le hr28774.1.1 (Int.le_refl _))
        refine lv_istore (lv' := [(4, .int (v 3 r28774.toNatClampNeg)), (3, .int (v 3 r28771.toNatClampNeg)), (0, .ref (b 0)), (1, .int x0), (2, .int x1)]) hx hb dX12_alone_61 hl (by decide) rfl (fun ls hl => ?_)
        refine lv_iload_n hx hb dX12_alone_63 rfl (lv_at hl 4 rfl) ?_
        refine lv_if_ne (tgt := 71) hx hb dX12_alone_64 (by decide) (fun c28777 => ?_) (fun c28777 => ?_)
        · have g28778 : Rg 1 1 x1 := rg_ne_lo (k := 0) g28751 (by decide) c28777 (by decide)
          refine lv_iload hx hb dX12_alone_71 (lv_at hl 0 rfl) ?_
          refine lv_iload_n hx hb dX12_alone_73 rfl (lv_at hl 1 rfl) ?_
          refine lv_iload hx hb dX12_alone_74 (lv_at hl 0 rfl) ?_
          refine lz_ss (As := [.int (v 3 r28771.toNatClampNeg), .int (v 3 r28774.toNatClampNeg)]) (rest := [.int (v 3 r28774.toNatClampNeg)]) ⟨hx, hb, hml, hown, hts⟩ (w_X12_common l D cI cS (v 3 r28771.toNatClampNeg) (v 3 r28774.toNatClampNeg) (show Rg 0 479001600 (v 3 r28771.toNatClampNeg) from rg_w g28773 (by decide) (by decide)) g28776) hKK (hP.sub (ws' := []) [] rfl) (va_cwS 2 hts gX12_alone_X12_common rfl rfl rfl (by decide +kernel) ⟨Nat.le_of_ble_eq_true rfl, Nat.le_of_ble_eq_true rfl⟩) rfl hl.1 rfl (Nat.le_of_ble_eq_true rfl) dX12_alone_76 ⟨Nat.le_of_ble_eq_true rfl, Nat.le_of_ble_eq_true rfl⟩ (fun r28779 hr28779 => ?_)
          refine lv_idiv hx hb dX12_alone_79 (wk_nz hr28779.1 (by decide)) ?_
          refine wk_any (fun r28780 => ?_)
          subst hAe
          exact W.iret (v := r28780) hx hb hr (fun t ht hW => ⟨⟨_, v, rfl, ⟨hV, (rg_any r28780), trivial⟩, by rw [ht]; exact hP, hD⟩, hS.F ht⟩) hS.2.2 dX12_alone_80
        · have g28781 : Rg 0 0 x1 := wk_eql g28751 (by decide : Rg 0 0 (0 : Int32)) c28777 (by decide)
          refine lv_iload_n hx hb dX12_alone_67 rfl (lv_at hl 1 rfl) ?_
          refine lv_goto (tgt := 73) hx hb dX12_alone_68 (by decide) ?_
          refine lv_iload_n hx hb dX12_alone_73 rfl (lv_at hl 1 rfl) ?_
          refine lv_iload hx hb dX12_alone_74 (lv_at hl 0 rfl) ?_
          refine lz_ss (As := [.int (v 3 r28771.toNatClampNeg), .int (v 3 r28774.toNatClampNeg)]) (rest := [.int (v 3 r28771.toNatClampNeg)]) ⟨hx, hb, hml, hown, hts⟩ (w_X12_common l D cI cS (v 3 r28771.toNatClampNeg) (v 3 r28774.toNatClampNeg) (show Rg 0 479001600 (v 3 r28771.toNatClampNeg) from rg_w g28773 (by decide) (by decide)) g28776) hKK (hP.sub (ws' := []) [] rfl) (va_cwS 2 hts gX12_alone_X12_common rfl rfl rfl (by decide +kernel) ⟨Nat.le_of_ble_eq_true rfl, Nat.le_of_ble_eq_true rfl⟩) rfl hl.1 rfl (Nat.le_of_ble_eq_true rfl) dX12_alone_76 ⟨Nat.le_of_ble_eq_true rfl, Nat.le_of_ble_eq_true rfl⟩ (fun r28782 hr28782 => ?_)
          refine lv_idiv hx hb dX12_alone_79 (wk_nz hr28782.1 (by decide)) ?_
          refine wk_any (fun r28783 => ?_)
          subst hAe
          exact W.iret (v := r28783) hx hb hr (fun t ht hW => ⟨⟨_, v, rfl, ⟨hV, (rg_any r28783), trivial⟩, by rw [ht]; exact hP, hD⟩, hS.F ht⟩) hS.2.2 dX12_alone_80
    · have zt28784 : (x1.toInt < (0 : Int32).toInt ∨ (1 : Int32).toInt < x1.toInt) := hr28748.2.1 c28749
      have g28785 : Rg 0 0 r28748 := wk_eql hr28748.1 (by decide : Rg 0 0 (0 : Int32)) c28749 (by decide)
      refine lv_bipush (v := (-2)) hx hb dX12_alone_17 (by decide) ?_
      subst hAe
      exact W.iret (v := (-2)) hx hb hr (fun t ht hW => ⟨⟨_, v, rfl, ⟨hV, (by decide : Rg (-2147483648) 2147483647 ((-2) : Int32)), trivial⟩, by rw [ht]; exact hP, hD⟩, hS.F ht⟩) hS.2.2 dX12_alone_19
theorem w_X12_bits_E (l : Launch) (D : va_G) (cI cS : ClassId) (x0 : Int32) (px0 : Rg 0 4095 x0) : Met l yX12_bits wsX12_bits ({ frames := 0, cells := 0, slots := 0, locals := 0 }) (PS D cI cS [] [.int x0]) (vp_Si (fun r => Rg 0 12 r ∧ r = bc x0)) 0 0 (fun _ => False) := by
  have h9 := bc_rng px0
  obtain ⟨n, hn, rfl, e⟩ := rg_nat px0.1
  have h2 := px0.2
  refine met_si (c_bits l D cI cS n (by omega)) (fun r hr => ⟨?_, hr⟩)
  rw [hr]
  exact h9
set_option maxHeartbeats 4000000 in
set_option maxRecDepth 100000 in
theorem w_X12_isCritical_E (l : Launch) (D : va_G) (cI cS : ClassId) (b : Nat → Nat) (L v : SU) (hL : TyL L) (hV : TyV v) (x0 : Int32) (px0 : Rg 0 4095 x0) : Met l yX12_isCritical wsX12_isCritical ({ frames := 1, cells := 0, slots := 0, locals := 40 }) (PS D cI cS (wM cI b L v) [.ref (b 0), .int x0]) (vp_Si (fun r => Rg 0 1 r ∧ ((r ≠ 0 → CRT v (L 0 0) x0) ∧ (r = 0 → ¬ CRT v (L 0 0) x0)))) 0 0 (fun _ => False) := by
  refine Met.ofW (cc := cX12_isCritical) (maxL := 4) (ret := (some .boolean)) (by decide) rfl ?_
  intro p e s m args below meth c s₁ B hml hv
  obtain ⟨rfl, hP, hKK⟩ := hv
  have hx := B.exec
  have hb := B.bytes
  have hr := B.returns
  have hts := atoms_spec (ws := wsX12_isCritical) B.pre
  have hown : s.vm.findClass RX12 = some m.cls := findClass_of_methodNamed B.named
  have hlocks := B.notSynchronized
  have hK := hKK.1
  have hin12 : ∀ w ∈ wsX120, w ∈ wsX12_isCritical := by decide +kernel
  have hl := lv_entry ([.ref (b 0), .int x0]) (n := 4) (Nat.le_of_ble_eq_true rfl)
  rw [lg_entry_eq]
  generalize (lg_sl ([.ref (b 0), .int x0]) ++ List.replicate (4 - (lg_sl ([.ref (b 0), .int x0])).length) Slot.unset).toArray = ls at hl ⊢
  have hl : lv_has ls 4 [(0, .ref (b 0)), (1, .int x0)] := hl
  have lp18 : ∀ (n18 : Nat) (y18_l2 : Int32) (y18_l3 : Int32) (ls : Array Slot), Rg 0 4095 x0 → Rg 0 1 y18_l2 → Rg 0 12 y18_l3 → ICx v (L 0 0) x0 y18_l2 y18_l3 → lv_has ls 4 [(0, .ref (b 0)), (1, .int x0), (2, .int y18_l2), (3, .int y18_l3)] → 12 - y18_l3.toInt < (n18 : Int) → W p l e (headSpec wsX12_isCritical ({ frames := 1, cells := 0, slots := 0, locals := 40 })).room s m ([.ref (b 0), .int x0]).toArray below meth c s.heap [] 0 0 (MQ below (vp_Si (fun r => Rg 0 1 r ∧ ((r ≠ 0 → CRT v (L 0 0) x0) ∧ (r = 0 → ¬ CRT v (L 0 0) x0)))) ([.ref (b 0), .int x0]).toArray s 0 0 (fun _ => False)) (F0 m 18 ls []) := by
    intro n18
    induction n18 with
    | zero =>
      intro y18_l2 y18_l3 ls g18_l1 g18_l2 g18_l3 x18_0 hl hm18
      exact absurd rfl (me_z g18_l3 hm18)
    | succ n18 ih18 =>
      intro y18_l2 y18_l3 ls g18_l1 g18_l2 g18_l3 x18_0 hl hm18
      refine lv_iload_n hx hb dX12_isCritical_18 rfl (lv_at hl 3 rfl) ?_
      refine lv_aload_n hx hb dX12_isCritical_19 rfl (lv_at hl 0 rfl) ?_
      refine va_get (D := D) (ci := 12) (v := .int (L 0 0)) (C := RX12) (T := TX12) (N := 24) hx hb hts hin12 hown hK hP 0 rfl rfl 0 (by decide) (hts (.fieldLink RX12 63 "MissedPointsModel" "many" "I") (by decide +kernel)) (fun _ h9 => h9) rfl dX12_isCritical_20 ?_
      refine lv_icmp_ge (tgt := 73) hx hb dX12_isCritical_23 (by decide) (fun c29026 => ?_) (fun c29026 => ?_)
      · refine lv_iload_n hx hb dX12_isCritical_73 rfl (lv_at hl 2 rfl) ?_
        exact W.zret (v := y18_l2) hx hb hr (wk_nb g18_l2) (fun t ht hW => ⟨_, rfl, ⟨g18_l2, (ic_5 x18_0 ((lz_le _ _).mp c29026))⟩, ht⟩) (fun q hq => absurd hq List.not_mem_nil) dX12_isCritical_74
      · have g29027 : Rg 1 12 (L 0 0) := rg_ltr g18_l3 hL.1 (rg_nle c29026) (by decide)
        have g29028 : Rg 0 11 y18_l3 := rg_ltl g18_l3 hL.1 (rg_nle c29026) (by decide)
        refine lv_iload_n hx hb dX12_isCritical_26 rfl (lv_at hl 2 rfl) ?_
        refine lv_if_eq (tgt := 65) hx hb dX12_isCritical_27 (by decide) (fun c29029 => ?_) (fun c29029 => ?_)
        · have g29030 : Rg 0 0 y18_l2 := wk_eql g18_l2 (by decide : Rg 0 0 (0 : Int32)) c29029 (by decide)
          refine lv_iconst (v := 0) hx hb dX12_isCritical_65 (by decide) ?_
          refine lv_istore_n (lv' := [(2, .int 0), (0, .ref (b 0)), (1, .int x0), (3, .int y18_l3)]) hx hb dX12_isCritical_66 rfl hl (by decide) rfl (fun ls hl => ?_)
          refine wk_iinc (lv' := fun r => [(3, .int r), (2, .int 0), (0, .ref (b 0)), (1, .int x0)]) (e1 := 1) (f := 12) hx hb dX12_isCritical_67 hl (k := 3) rfl (by decide) g29028 (by decide) (fun _ => rfl) (fun r29031 ls hr29031 er29031 hl => ?_)
          refine lv_goto (tgt := 18) hx hb dX12_isCritical_70 (by decide) ?_
          exact ih18 (0 : Int32) r29031 ls g18_l1 (by decide : Rg 0 1 (0 : Int32)) (show Rg 0 12 r29031 from rg_w hr29031 (by decide) (by decide)) (by exact ic_2 x18_0 c29029) (lv_sub (l' := [(0, .ref (b 0)), (1, .int x0), (2, .int 0), (3, .int r29031)]) hl [2, 3, 1, 0] rfl) (me_up hm18 er29031 (by decide))
        · have g29032 : Rg 1 1 y18_l2 := rg_ne_lo (k := 0) g18_l2 (by decide) c29029 (by decide)
          refine lv_iload_n hx hb dX12_isCritical_30 rfl (lv_at hl 1 rfl) ?_
          refine lv_iload_n hx hb dX12_isCritical_31 rfl (lv_at hl 3 rfl) ?_
          refine lz_ss (As := [.int x0, .int y18_l3]) (rest := []) ⟨hx, hb, hml, hown, hts⟩ (w_X12_has l D cI cS x0 y18_l3) hKK (hP.sub (ws' := []) [] rfl) (va_cwS 2 hts gX12_isCritical_X12_has rfl rfl rfl (by decide +kernel) ⟨Nat.le_of_ble_eq_true rfl, Nat.le_of_ble_eq_true rfl⟩) rfl hl.1 rfl (Nat.le_of_ble_eq_true rfl) dX12_isCritical_32 ⟨Nat.le_of_ble_eq_true rfl, Nat.le_of_ble_eq_true rfl⟩ (fun r29033 hr29033 => ?_)
          refine lv_if_eq (tgt := 61) hx hb dX12_isCritical_35 (by decide) (fun c29034 => ?_) (fun c29034 => ?_)
          · have g29035 : Rg 0 0 r29033 := wk_eql hr29033.1 (by decide : Rg 0 0 (0 : Int32)) c29034 (by decide)
            refine lv_iconst (v := 1) hx hb dX12_isCritical_61 (by decide) ?_
            refine lv_goto (tgt := 66) hx hb dX12_isCritical_62 (by decide) ?_
            refine lv_istore_n (lv' := [(2, .int 1), (0, .ref (b 0)), (1, .int x0), (3, .int y18_l3)]) hx hb dX12_isCritical_66 rfl hl (by decide) rfl (fun ls hl => ?_)
            refine wk_iinc (lv' := fun r => [(3, .int r), (2, .int 1), (0, .ref (b 0)), (1, .int x0)]) (e1 := 1) (f := 12) hx hb dX12_isCritical_67 hl (k := 3) rfl (by decide) g29028 (by decide) (fun _ => rfl) (fun r29036 ls hr29036 er29036 hl => ?_)
            refine lv_goto (tgt := 18) hx hb dX12_isCritical_70 (by decide) ?_
            exact ih18 (1 : Int32) r29036 ls g18_l1 (by decide : Rg 0 1 (1 : Int32)) (show Rg 0 12 r29036 from rg_w hr29036 (by decide) (by decide)) (by exact ic_3 x18_0 c29029 er29036 (fun z => absurd z (hr29033.2.2 c29034))) (lv_sub (l' := [(0, .ref (b 0)), (1, .int x0), (2, .int 1), (3, .int r29036)]) hl [2, 3, 1, 0] rfl) (me_up hm18 er29036 (by decide))
          · have g29037 : Rg 1 1 r29033 := rg_ne_lo (k := 0) hr29033.1 (by decide) c29034 (by decide)
            refine lv_iconst (v := 2) hx hb dX12_isCritical_38 (by decide) ?_
            refine lv_aload_n hx hb dX12_isCritical_39 rfl (lv_at hl 0 rfl) ?_
            refine va_get (D := D) (ci := 12) (v := .ref (b 2)) (C := RX12) (T := TX12) (N := 24) hx hb hts hin12 hown hK hP 0 rfl rfl 3 (by decide) (hts (.fieldLink RX12 17 "MissedPointsModel" "pairs" "[I") (by decide +kernel)) (fun _ h9 => h9) rfl dX12_isCritical_40 ?_
            refine lv_iload_n hx hb dX12_isCritical_43 rfl (lv_at hl 1 rfl) ?_
            refine lv_iconst (v := 1) hx hb dX12_isCritical_44 (by decide) ?_
            refine lv_iload_n hx hb dX12_isCritical_45 rfl (lv_at hl 3 rfl) ?_
            refine wk_ishl1 (f := 2048) hx hb dX12_isCritical_46 g29028 (by decide) (fun r29038 hr29038 qr29038 => ?_)
            refine lv_iconst (v := (-1)) hx hb dX12_isCritical_47 (by decide) ?_
            refine lv_ixor hx hb dX12_isCritical_48 ?_
            refine wk_topP (P := fun r => r = r29038 ^^^ ((-1) : Int32)) rfl (fun r29039 qr29039 => ?_)
            refine wk_iandl hx hb dX12_isCritical_49 g18_l1 (by decide) (fun r29040 hr29040 qr29040 => ?_)
            refine va_iald hx hb hK hP 2 0 rfl rfl (rg_in hr29040 (by decide) (by decide)) dX12_isCritical_50 ?_
            refine lz_top (y := (v 2 r29040.toNatClampNeg)) rfl ?_
            refine lv_imul hx hb dX12_isCritical_51 ?_
            refine wk_topP (P := fun r => r = (2 : Int32) * (v 2 r29040.toNatClampNeg)) rfl (fun r29042 qr29042 => ?_)
            refine lv_iload_n hx hb dX12_isCritical_52 rfl (lv_at hl 1 rfl) ?_
            refine lz_ss (As := [.int x0]) (rest := [.int r29042]) ⟨hx, hb, hml, hown, hts⟩ (w_X12_bits_E l D cI cS x0 g18_l1) hKK (hP.sub (ws' := []) [] rfl) (va_cwS 1 hts gX12_isCritical_X12_bits rfl rfl rfl (by decide +kernel) ⟨Nat.le_of_ble_eq_true rfl, Nat.le_of_ble_eq_true rfl⟩) rfl hl.1 rfl (Nat.le_of_ble_eq_true rfl) dX12_isCritical_53 ⟨Nat.le_of_ble_eq_true rfl, Nat.le_of_ble_eq_true rfl⟩ (fun r29043 hr29043 => ?_)
            refine lv_iconst (v := 1) hx hb dX12_isCritical_56 (by decide) ?_
            refine wk_isub (e1 := (-1)) (f := 11) hx hb dX12_isCritical_57 hr29043.1 (by decide : Rg 1 1 (1 : Int32)) (by decide) (fun r29044 hr29044 er29044 qr29044 => ?_)
            refine lv_icmp_ne (tgt := 65) hx hb dX12_isCritical_58 (by decide) (fun c29045 => ?_) (fun c29045 => ?_)
            · refine lv_iconst (v := 0) hx hb dX12_isCritical_65 (by decide) ?_
              refine lv_istore_n (lv' := [(2, .int 0), (0, .ref (b 0)), (1, .int x0), (3, .int y18_l3)]) hx hb dX12_isCritical_66 rfl hl (by decide) rfl (fun ls hl => ?_)
              refine wk_iinc (lv' := fun r => [(3, .int r), (2, .int 0), (0, .ref (b 0)), (1, .int x0)]) (e1 := 1) (f := 12) hx hb dX12_isCritical_67 hl (k := 3) rfl (by decide) g29028 (by decide) (fun _ => rfl) (fun r29046 ls hr29046 er29046 hl => ?_)
              refine lv_goto (tgt := 18) hx hb dX12_isCritical_70 (by decide) ?_
              exact ih18 (0 : Int32) r29046 ls g18_l1 (by decide : Rg 0 1 (0 : Int32)) (show Rg 0 12 r29046 from rg_w hr29046 (by decide) (by decide)) (by exact ic_4 (p := y18_l3) (show Rg 0 12 y18_l3 from rg_w g29028 (by decide) (by decide)).1 ((lz_lt _ _).mp (rg_nle c29026)) (hr29033.2.1 c29034) (fun z => c29045 (by rw [qr29042, qr29044, (show r29040 = rmI x0 y18_l3 from by rw [qr29040, qr29039, qr29038]; first | done | rfl), hr29043.2]; exact z))) (lv_sub (l' := [(0, .ref (b 0)), (1, .int x0), (2, .int 0), (3, .int r29046)]) hl [2, 3, 1, 0] rfl) (me_up hm18 er29046 (by decide))
            · have g29047 : Rg (-1) 11 r29042 := wk_eql (rg_any r29042) hr29044 c29045 (by decide)
              refine lv_iconst (v := 1) hx hb dX12_isCritical_61 (by decide) ?_
              refine lv_goto (tgt := 66) hx hb dX12_isCritical_62 (by decide) ?_
              refine lv_istore_n (lv' := [(2, .int 1), (0, .ref (b 0)), (1, .int x0), (3, .int y18_l3)]) hx hb dX12_isCritical_66 rfl hl (by decide) rfl (fun ls hl => ?_)
              refine wk_iinc (lv' := fun r => [(3, .int r), (2, .int 1), (0, .ref (b 0)), (1, .int x0)]) (e1 := 1) (f := 12) hx hb dX12_isCritical_67 hl (k := 3) rfl (by decide) g29028 (by decide) (fun _ => rfl) (fun r29048 ls hr29048 er29048 hl => ?_)
              refine lv_goto (tgt := 18) hx hb dX12_isCritical_70 (by decide) ?_
              exact ih18 (1 : Int32) r29048 ls g18_l1 (by decide : Rg 0 1 (1 : Int32)) (show Rg 0 12 r29048 from rg_w hr29048 (by decide) (by decide)) (by exact ic_3 x18_0 c29029 er29048 (fun _ => (by have z1 := c29045; rw [qr29042, qr29044, (show r29040 = rmI x0 y18_l3 from by rw [qr29040, qr29039, qr29038]; first | done | rfl), hr29043.2] at z1; exact z1))) (lv_sub (l' := [(0, .ref (b 0)), (1, .int x0), (2, .int 1), (3, .int r29048)]) hl [2, 3, 1, 0] rfl) (me_up hm18 er29048 (by decide))
  refine lv_iload_n hx hb dX12_isCritical_0 rfl (lv_at hl 1 rfl) ?_
  refine lz_ss (As := [.int x0]) (rest := []) ⟨hx, hb, hml, hown, hts⟩ (w_X12_bits_E l D cI cS x0 px0) hKK (hP.sub (ws' := []) [] rfl) (va_cwS 1 hts gX12_isCritical_X12_bits rfl rfl rfl (by decide +kernel) ⟨Nat.le_of_ble_eq_true rfl, Nat.le_of_ble_eq_true rfl⟩) rfl hl.1 rfl (Nat.le_of_ble_eq_true rfl) dX12_isCritical_1 ⟨Nat.le_of_ble_eq_true rfl, Nat.le_of_ble_eq_true rfl⟩ (fun r29049 hr29049 => ?_)
  refine lv_iconst (v := 2) hx hb dX12_isCritical_4 (by decide) ?_
  refine lv_irem hx hb dX12_isCritical_5 (by decide) ?_
  refine wk_topP (P := fun r => Rg 0 1 r ∧ r.toInt = r29049.toInt % 2) ⟨rg_remn hr29049.1 (by decide) (by decide), rg_remE hr29049.1.1 (by decide) (by decide)⟩ (fun r29050 hr29050 => ?_)
  refine lv_iconst (v := 1) hx hb dX12_isCritical_6 (by decide) ?_
  refine lv_icmp_ne (tgt := 14) hx hb dX12_isCritical_7 (by decide) (fun c29051 => ?_) (fun c29051 => ?_)
  · have g29052 : Rg 0 0 r29050 := rg_ne_hi (k := 1) hr29050.1 (by decide) c29051 (by decide)
    refine lv_iconst (v := 0) hx hb dX12_isCritical_14 (by decide) ?_
    refine lv_istore_n (lv' := [(2, .int 0), (0, .ref (b 0)), (1, .int x0)]) hx hb dX12_isCritical_15 rfl hl (by decide) rfl (fun ls hl => ?_)
    refine lv_iconst (v := 0) hx hb dX12_isCritical_16 (by decide) ?_
    refine lv_istore_n (lv' := [(3, .int 0), (2, .int 0), (0, .ref (b 0)), (1, .int x0)]) hx hb dX12_isCritical_17 rfl hl (by decide) rfl (fun ls hl => ?_)
    exact lp18 13 (0 : Int32) (0 : Int32) ls px0 (by decide : Rg 0 1 (0 : Int32)) (by decide : Rg 0 12 (0 : Int32)) (by exact ic_1 (fun z => c29051 (Int32.toInt_inj.mp (by have z1 := hr29050.2; rw [hr29049.2] at z1; have z3 : (1 : Int32).toInt = 1 := (by decide); omega)))) (lv_sub (l' := [(0, .ref (b 0)), (1, .int x0), (2, .int 0), (3, .int 0)]) hl [2, 3, 1, 0] rfl) (me_i (by decide : Rg 0 12 (0 : Int32)) (by decide))
  · have g29053 : Rg 1 1 r29050 := wk_eql hr29050.1 (by decide : Rg 1 1 (1 : Int32)) c29051 (by decide)
    refine lv_iconst (v := 1) hx hb dX12_isCritical_10 (by decide) ?_
    refine lv_goto (tgt := 15) hx hb dX12_isCritical_11 (by decide) ?_
    refine lv_istore_n (lv' := [(2, .int 1), (0, .ref (b 0)), (1, .int x0)]) hx hb dX12_isCritical_15 rfl hl (by decide) rfl (fun ls hl => ?_)
    refine lv_iconst (v := 0) hx hb dX12_isCritical_16 (by decide) ?_
    refine lv_istore_n (lv' := [(3, .int 0), (2, .int 1), (0, .ref (b 0)), (1, .int x0)]) hx hb dX12_isCritical_17 rfl hl (by decide) rfl (fun ls hl => ?_)
    exact lp18 13 (1 : Int32) (0 : Int32) ls px0 (by decide : Rg 0 1 (1 : Int32)) (by decide : Rg 0 12 (0 : Int32)) (by exact ic_0 (by have z1 := hr29050.2; rw [hr29049.2] at z1; have z2 := congrArg Int32.toInt c29051; have z3 : (1 : Int32).toInt = 1 := (by decide); omega) (by decide)) (lv_sub (l' := [(0, .ref (b 0)), (1, .int x0), (2, .int 1), (3, .int 0)]) hl [2, 3, 1, 0] rfl) (me_i (by decide : Rg 0 12 (0 : Int32)) (by decide))
set_option maxRecDepth 20000 in
theorem ggX12_earOf_X12_bits : GoodIn wsX12_earOf wsX12_bits := goodIn_r _ [5] (by decide +kernel) (by decide +kernel)
set_option maxRecDepth 20000 in
theorem gX12_earOf_X12_bits : GoodIn wsX12_earOf (va_wsS RX12 85 yX12_bits wsX12_bits) := goodIn_app (goodIn_of _ (by decide +kernel)) ggX12_earOf_X12_bits
set_option maxRecDepth 20000 in
theorem ggX12_earOf_X12_isCritical : GoodIn wsX12_earOf wsX12_isCritical := goodIn_r _ [9, 10, 1, 2, 3, 4, 5, 11, 12, 13, 14, 15, 16, 17, 18, 19, 20, 21, 22, 23, 24, 25, 26, 27, 28, 29, 30, 31, 32, 33, 34, 35, 36, 37] (by decide +kernel) (by decide +kernel)
set_option maxRecDepth 20000 in
theorem gX12_earOf_X12_isCritical : GoodIn wsX12_earOf (wsV RX12 144 RX12 yX12_isCritical wsX12_isCritical) := goodIn_app (goodIn_of _ (by decide +kernel)) ggX12_earOf_X12_isCritical
theorem dX12_earOf_0 : decode cX12_earOf 0 = .ok (.iload_n 1, 1) := by decide +kernel
theorem dX12_earOf_1 : decode cX12_earOf 1 = .ok (.iload_n 2, 1) := by decide +kernel
theorem dX12_earOf_10 : decode cX12_earOf 10 = .ok (.istore 5, 2) := by decide +kernel
theorem dX12_earOf_100 : decode cX12_earOf 100 = .ok (.istore 4, 2) := by decide +kernel
theorem dX12_earOf_102 : decode cX12_earOf 102 = .ok (.iinc 5 1, 3) := by decide +kernel
theorem dX12_earOf_105 : decode cX12_earOf 105 = .ok (.goto (-93), 3) := by decide +kernel
theorem dX12_earOf_108 : decode cX12_earOf 108 = .ok (.iload 4, 2) := by decide +kernel
theorem dX12_earOf_110 : decode cX12_earOf 110 = .ok (.ireturn, 1) := by decide +kernel
theorem dX12_earOf_12 : decode cX12_earOf 12 = .ok (.iload 5, 2) := by decide +kernel
theorem dX12_earOf_14 : decode cX12_earOf 14 = .ok (.iload_n 3, 1) := by decide +kernel
theorem dX12_earOf_15 : decode cX12_earOf 15 = .ok (.if_icmp .gt 93, 3) := by decide +kernel
theorem dX12_earOf_18 : decode cX12_earOf 18 = .ok (.iload 5, 2) := by decide +kernel
theorem dX12_earOf_2 : decode cX12_earOf 2 = .ok (.iconst (-1), 1) := by decide +kernel
theorem dX12_earOf_20 : decode cX12_earOf 20 = .ok (.iload_n 3, 1) := by decide +kernel
theorem dX12_earOf_21 : decode cX12_earOf 21 = .ok (.iconst (-1), 1) := by decide +kernel
theorem dX12_earOf_22 : decode cX12_earOf 22 = .ok (.ixor, 1) := by decide +kernel
theorem dX12_earOf_23 : decode cX12_earOf 23 = .ok (.iand, 1) := by decide +kernel
theorem dX12_earOf_24 : decode cX12_earOf 24 = .ok (.ifCond .ne 78, 3) := by decide +kernel
theorem dX12_earOf_27 : decode cX12_earOf 27 = .ok (.iload 5, 2) := by decide +kernel
theorem dX12_earOf_29 : decode cX12_earOf 29 = .ok (.invokestatic 85, 3) := by decide +kernel
theorem dX12_earOf_3 : decode cX12_earOf 3 = .ok (.ixor, 1) := by decide +kernel
theorem dX12_earOf_32 : decode cX12_earOf 32 = .ok (.iconst 2, 1) := by decide +kernel
theorem dX12_earOf_33 : decode cX12_earOf 33 = .ok (.if_icmp .lt 69, 3) := by decide +kernel
theorem dX12_earOf_36 : decode cX12_earOf 36 = .ok (.iload 4, 2) := by decide +kernel
theorem dX12_earOf_38 : decode cX12_earOf 38 = .ok (.ifCond .eq 19, 3) := by decide +kernel
theorem dX12_earOf_4 : decode cX12_earOf 4 = .ok (.iand, 1) := by decide +kernel
theorem dX12_earOf_41 : decode cX12_earOf 41 = .ok (.iload 5, 2) := by decide +kernel
theorem dX12_earOf_43 : decode cX12_earOf 43 = .ok (.invokestatic 85, 3) := by decide +kernel
theorem dX12_earOf_46 : decode cX12_earOf 46 = .ok (.iload 4, 2) := by decide +kernel
theorem dX12_earOf_48 : decode cX12_earOf 48 = .ok (.invokestatic 85, 3) := by decide +kernel
theorem dX12_earOf_5 : decode cX12_earOf 5 = .ok (.istore_n 3, 1) := by decide +kernel
theorem dX12_earOf_51 : decode cX12_earOf 51 = .ok (.if_icmp .lt 6, 3) := by decide +kernel
theorem dX12_earOf_54 : decode cX12_earOf 54 = .ok (.goto 48, 3) := by decide +kernel
theorem dX12_earOf_57 : decode cX12_earOf 57 = .ok (.aload_n 0, 1) := by decide +kernel
theorem dX12_earOf_58 : decode cX12_earOf 58 = .ok (.iload_n 2, 1) := by decide +kernel
theorem dX12_earOf_59 : decode cX12_earOf 59 = .ok (.iload 5, 2) := by decide +kernel
theorem dX12_earOf_6 : decode cX12_earOf 6 = .ok (.iconst 0, 1) := by decide +kernel
theorem dX12_earOf_61 : decode cX12_earOf 61 = .ok (.ior, 1) := by decide +kernel
theorem dX12_earOf_62 : decode cX12_earOf 62 = .ok (.invokevirtual 144, 3) := by decide +kernel
theorem dX12_earOf_65 : decode cX12_earOf 65 = .ok (.ifCond .eq 33, 3) := by decide +kernel
theorem dX12_earOf_68 : decode cX12_earOf 68 = .ok (.iconst 2, 1) := by decide +kernel
theorem dX12_earOf_69 : decode cX12_earOf 69 = .ok (.aload_n 0, 1) := by decide +kernel
theorem dX12_earOf_7 : decode cX12_earOf 7 = .ok (.istore 4, 2) := by decide +kernel
theorem dX12_earOf_70 : decode cX12_earOf 70 = .ok (.getfield 17, 3) := by decide +kernel
theorem dX12_earOf_73 : decode cX12_earOf 73 = .ok (.iload_n 3, 1) := by decide +kernel
theorem dX12_earOf_74 : decode cX12_earOf 74 = .ok (.iload 5, 2) := by decide +kernel
theorem dX12_earOf_76 : decode cX12_earOf 76 = .ok (.iconst (-1), 1) := by decide +kernel
theorem dX12_earOf_77 : decode cX12_earOf 77 = .ok (.ixor, 1) := by decide +kernel
theorem dX12_earOf_78 : decode cX12_earOf 78 = .ok (.iand, 1) := by decide +kernel
theorem dX12_earOf_79 : decode cX12_earOf 79 = .ok (.iaload, 1) := by decide +kernel
theorem dX12_earOf_80 : decode cX12_earOf 80 = .ok (.imul, 1) := by decide +kernel
theorem dX12_earOf_81 : decode cX12_earOf 81 = .ok (.iload_n 3, 1) := by decide +kernel
theorem dX12_earOf_82 : decode cX12_earOf 82 = .ok (.iload 5, 2) := by decide +kernel
theorem dX12_earOf_84 : decode cX12_earOf 84 = .ok (.iconst (-1), 1) := by decide +kernel
theorem dX12_earOf_85 : decode cX12_earOf 85 = .ok (.ixor, 1) := by decide +kernel
theorem dX12_earOf_86 : decode cX12_earOf 86 = .ok (.iand, 1) := by decide +kernel
theorem dX12_earOf_87 : decode cX12_earOf 87 = .ok (.invokestatic 85, 3) := by decide +kernel
theorem dX12_earOf_9 : decode cX12_earOf 9 = .ok (.iconst 1, 1) := by decide +kernel
theorem dX12_earOf_90 : decode cX12_earOf 90 = .ok (.if_icmp .ne 8, 3) := by decide +kernel
theorem dX12_earOf_93 : decode cX12_earOf 93 = .ok (.iload 5, 2) := by decide +kernel
theorem dX12_earOf_95 : decode cX12_earOf 95 = .ok (.goto 5, 3) := by decide +kernel
theorem dX12_earOf_98 : decode cX12_earOf 98 = .ok (.iload 4, 2) := by decide +kernel
set_option maxHeartbeats 4000000 in
set_option maxRecDepth 100000 in
theorem w_X12_earOf (l : Launch) (D : va_G) (cI cS : ClassId) (b : Nat → Nat) (L v : SU) (hL : TyL L) (hV : TyV v) (x0 x1 : Int32) (px0 : Rg 0 4095 x0) (px1 : Rg 0 4095 x1) : Met l yX12_earOf wsX12_earOf ({ frames := 2, cells := 0, slots := 0, locals := 80 }) (PS D cI cS (wM cI b L v) [.ref (b 0), .int x0, .int x1]) (vp_Si (fun r => Rg 0 4095 r ∧ ERp v (L 0 0) x0 x1 r)) 0 0 (fun _ => False) := by
  refine Met.ofW (cc := cX12_earOf) (maxL := 6) (ret := (some .int)) (by decide) rfl ?_
  intro p e s m args below meth c s₁ B hml hv
  obtain ⟨rfl, hP, hKK⟩ := hv
  have hx := B.exec
  have hb := B.bytes
  have hr := B.returns
  have hts := atoms_spec (ws := wsX12_earOf) B.pre
  have hown : s.vm.findClass RX12 = some m.cls := findClass_of_methodNamed B.named
  have hlocks := B.notSynchronized
  have hK := hKK.1
  have hin12 : ∀ w ∈ wsX120, w ∈ wsX12_earOf := by decide +kernel
  have hl := lv_entry ([.ref (b 0), .int x0, .int x1]) (n := 6) (Nat.le_of_ble_eq_true rfl)
  rw [lg_entry_eq]
  generalize (lg_sl ([.ref (b 0), .int x0, .int x1]) ++ List.replicate (6 - (lg_sl ([.ref (b 0), .int x0, .int x1])).length) Slot.unset).toArray = ls at hl ⊢
  have hl : lv_has ls 6 [(0, .ref (b 0)), (1, .int x0), (2, .int x1)] := hl
  have lp12 : ∀ (n12 : Nat) (y12_l3 : Int32) (y12_l4 : Int32) (y12_l5 : Int32) (ls : Array Slot), Rg 0 4095 x1 → Rg 0 4095 y12_l3 → Rg 0 4095 y12_l4 → Rg 1 4096 y12_l5 → (y12_l3 = x0 &&& (x1 ^^^ (-1)) ∧ EX v (L 0 0) x1 y12_l3 y12_l4 y12_l5) → lv_has ls 6 [(0, .ref (b 0)), (2, .int x1), (3, .int y12_l3), (4, .int y12_l4), (5, .int y12_l5)] → 4096 - y12_l5.toInt < (n12 : Int) → W p l e (headSpec wsX12_earOf ({ frames := 2, cells := 0, slots := 0, locals := 80 })).room s m ([.ref (b 0), .int x0, .int x1]).toArray below meth c s.heap [] 0 0 (MQ below (vp_Si (fun r => Rg 0 4095 r ∧ ERp v (L 0 0) x0 x1 r)) ([.ref (b 0), .int x0, .int x1]).toArray s 0 0 (fun _ => False)) (F0 m 12 ls []) := by
    intro n12
    induction n12 with
    | zero =>
      intro y12_l3 y12_l4 y12_l5 ls g12_l2 g12_l3 g12_l4 g12_l5 x12_0 hl hm12
      exact absurd rfl (me_z g12_l5 hm12)
    | succ n12 ih12 =>
      intro y12_l3 y12_l4 y12_l5 ls g12_l2 g12_l3 g12_l4 g12_l5 x12_0 hl hm12
      refine lv_iload hx hb dX12_earOf_12 (lv_at hl 4 rfl) ?_
      refine lv_iload_n hx hb dX12_earOf_14 rfl (lv_at hl 2 rfl) ?_
      refine lv_icmp_gt (tgt := 108) hx hb dX12_earOf_15 (by decide) (fun c30219 => ?_) (fun c30219 => ?_)
      · refine lv_iload hx hb dX12_earOf_108 (lv_at hl 3 rfl) ?_
        exact W.iret (v := y12_l4) hx hb hr (fun t ht hW => ⟨_, rfl, ⟨g12_l4, (by have z1 := x12_0.2; have z2 := (lz_lt _ _).mp c30219; rw [x12_0.1] at z1 z2; exact ⟨z1.1, fun a => z1.2 z2 a⟩)⟩, ht⟩) (fun q hq => absurd hq List.not_mem_nil) dX12_earOf_110
      · have g30220 : Rg 1 4095 y12_l3 := rg_ler g12_l5 g12_l3 (rg_nlt c30219) (by decide)
        have g30221 : Rg 1 4095 y12_l5 := rg_lel g12_l5 g12_l3 (rg_nlt c30219) (by decide)
        refine lv_iload hx hb dX12_earOf_18 (lv_at hl 4 rfl) ?_
        refine lv_iload_n hx hb dX12_earOf_20 rfl (lv_at hl 2 rfl) ?_
        refine lv_iconst (v := (-1)) hx hb dX12_earOf_21 (by decide) ?_
        refine lv_ixor hx hb dX12_earOf_22 ?_
        refine wk_topP (P := fun r => r = y12_l3 ^^^ ((-1) : Int32)) rfl (fun r30222 qr30222 => ?_)
        refine wk_iandl hx hb dX12_earOf_23 g30221 (by decide) (fun r30223 hr30223 qr30223 => ?_)
        refine lv_if_ne (tgt := 102) hx hb dX12_earOf_24 (by decide) (fun c30224 => ?_) (fun c30224 => ?_)
        · have g30225 : Rg 1 4095 r30223 := rg_ne_lo (k := 0) hr30223 (by decide) c30224 (by decide)
          refine wk_iinc (lv' := fun r => [(5, .int r), (0, .ref (b 0)), (2, .int x1), (3, .int y12_l3), (4, .int y12_l4)]) (e1 := 2) (f := 4096) hx hb dX12_earOf_102 hl (k := 4) rfl (by decide) g30221 (by decide) (fun _ => rfl) (fun r30226 ls hr30226 er30226 hl => ?_)
          refine lv_goto (tgt := 12) hx hb dX12_earOf_105 (by decide) ?_
          exact ih12 y12_l3 y12_l4 r30226 ls g12_l2 (show Rg 0 4095 y12_l3 from rg_w g30220 (by decide) (by decide)) g12_l4 (show Rg 1 4096 r30226 from rg_w hr30226 (by decide) (by decide)) (by exact ⟨x12_0.1, ex_1 x12_0.2 er30226 (fun z => absurd (by rw [qr30223, qr30222, ← z]; exact bit_s _) c30224)⟩) (lv_sub (l' := [(0, .ref (b 0)), (2, .int x1), (3, .int y12_l3), (4, .int y12_l4), (5, .int r30226)]) hl [1, 2, 3, 4, 0] rfl) (me_up hm12 er30226 (by decide))
        · have g30227 : Rg 0 0 r30223 := wk_eql hr30223 (by decide : Rg 0 0 (0 : Int32)) c30224 (by decide)
          refine lv_iload hx hb dX12_earOf_27 (lv_at hl 4 rfl) ?_
          refine lz_ss (As := [.int y12_l5]) (rest := []) ⟨hx, hb, hml, hown, hts⟩ (w_X12_bits_E l D cI cS y12_l5 (show Rg 0 4095 y12_l5 from rg_w g30221 (by decide) (by decide))) hKK (hP.sub (ws' := []) [] rfl) (va_cwS 1 hts gX12_earOf_X12_bits rfl rfl rfl (by decide +kernel) ⟨Nat.le_of_ble_eq_true rfl, Nat.le_of_ble_eq_true rfl⟩) rfl hl.1 rfl (Nat.le_of_ble_eq_true rfl) dX12_earOf_29 ⟨Nat.le_of_ble_eq_true rfl, Nat.le_of_ble_eq_true rfl⟩ (fun r30228 hr30228 => ?_)
          refine lv_iconst (v := 2) hx hb dX12_earOf_32 (by decide) ?_
          refine lv_icmp_lt (tgt := 102) hx hb dX12_earOf_33 (by decide) (fun c30229 => ?_) (fun c30229 => ?_)
          · have g30230 : Rg 0 1 r30228 := rg_ltl hr30228.1 (by decide : Rg 2 2 (2 : Int32)) c30229 (by decide)
            refine wk_iinc (lv' := fun r => [(5, .int r), (0, .ref (b 0)), (2, .int x1), (3, .int y12_l3), (4, .int y12_l4)]) (e1 := 2) (f := 4096) hx hb dX12_earOf_102 hl (k := 4) rfl (by decide) g30221 (by decide) (fun _ => rfl) (fun r30231 ls hr30231 er30231 hl => ?_)
            refine lv_goto (tgt := 12) hx hb dX12_earOf_105 (by decide) ?_
            exact ih12 y12_l3 y12_l4 r30231 ls g12_l2 (show Rg 0 4095 y12_l3 from rg_w g30220 (by decide) (by decide)) g12_l4 (show Rg 1 4096 r30231 from rg_w hr30231 (by decide) (by decide)) (by exact ⟨x12_0.1, ex_1 x12_0.2 er30231 (fun z h0 _ w _ => absurd (whl_2 w (rg_ne_lo (k := 0) g12_l3 (by decide) h0 (by decide))) (by have z1 := (lz_lt _ _).mp c30229; have z2 : (2 : Int32).toInt = 2 := (by decide); rw [hr30228.2] at z1; rw [z]; omega))⟩) (lv_sub (l' := [(0, .ref (b 0)), (2, .int x1), (3, .int y12_l3), (4, .int y12_l4), (5, .int r30231)]) hl [1, 2, 3, 4, 0] rfl) (me_up hm12 er30231 (by decide))
          · have g30232 : Rg 2 12 r30228 := rg_ler (by decide : Rg 2 2 (2 : Int32)) hr30228.1 (rg_nlt c30229) (by decide)
            refine lv_iload hx hb dX12_earOf_36 (lv_at hl 3 rfl) ?_
            refine lv_if_eq (tgt := 57) hx hb dX12_earOf_38 (by decide) (fun c30233 => ?_) (fun c30233 => ?_)
            · have g30234 : Rg 0 0 y12_l4 := wk_eql g12_l4 (by decide : Rg 0 0 (0 : Int32)) c30233 (by decide)
              refine lv_aload_n hx hb dX12_earOf_57 rfl (lv_at hl 0 rfl) ?_
              refine lv_iload_n hx hb dX12_earOf_58 rfl (lv_at hl 1 rfl) ?_
              refine lv_iload hx hb dX12_earOf_59 (lv_at hl 4 rfl) ?_
              refine wk_ior 12 (e1 := 1) (f := 4095) hx hb dX12_earOf_61 g12_l2 g30221 (by decide) (fun r30235 hr30235 qr30235 => ?_)
              refine wk_sv 0 (As := [.int r30235]) (rest := []) ⟨hx, hb, hml, hown, hts⟩ (w_X12_isCritical_E l D cI cS b L v hL hV r30235 (show Rg 0 4095 r30235 from rg_w hr30235 (by decide) (by decide))) hKK hP (ci := 12) rfl rfl (cwV 1 hts gX12_earOf_X12_isCritical rfl rfl rfl (by decide +kernel) ⟨Nat.le_of_ble_eq_true rfl, Nat.le_of_ble_eq_true rfl⟩) rfl hl.1 rfl (Nat.le_of_ble_eq_true rfl) dX12_earOf_62 ⟨Nat.le_of_ble_eq_true rfl, Nat.le_of_ble_eq_true rfl⟩ (fun r30236 hr30236 => ?_)
              refine lv_if_eq (tgt := 98) hx hb dX12_earOf_65 (by decide) (fun c30237 => ?_) (fun c30237 => ?_)
              · have g30238 : Rg 0 0 r30236 := wk_eql hr30236.1 (by decide : Rg 0 0 (0 : Int32)) c30237 (by decide)
                refine lv_iload hx hb dX12_earOf_98 (lv_at hl 3 rfl) ?_
                refine lv_istore (lv' := [(4, .int y12_l4), (0, .ref (b 0)), (2, .int x1), (3, .int y12_l3), (5, .int y12_l5)]) hx hb dX12_earOf_100 hl (by decide) rfl (fun ls hl => ?_)
                refine wk_iinc (lv' := fun r => [(5, .int r), (4, .int y12_l4), (0, .ref (b 0)), (2, .int x1), (3, .int y12_l3)]) (e1 := 2) (f := 4096) hx hb dX12_earOf_102 hl (k := 4) rfl (by decide) g30221 (by decide) (fun _ => rfl) (fun r30239 ls hr30239 er30239 hl => ?_)
                refine lv_goto (tgt := 12) hx hb dX12_earOf_105 (by decide) ?_
                exact ih12 y12_l3 y12_l4 r30239 ls g12_l2 (show Rg 0 4095 y12_l3 from rg_w g30220 (by decide) (by decide)) (show Rg 0 4095 y12_l4 from rg_w g30234 (by decide) (by decide)) (show Rg 1 4096 r30239 from rg_w hr30239 (by decide) (by decide)) (by exact ⟨x12_0.1, ex_1 x12_0.2 er30239 (fun z _ c _ _ => absurd (by rw [qr30235, ← z]; exact c) (hr30236.2.2 c30237))⟩) (lv_sub (l' := [(0, .ref (b 0)), (2, .int x1), (3, .int y12_l3), (4, .int y12_l4), (5, .int r30239)]) hl [2, 3, 4, 1, 0] rfl) (me_up hm12 er30239 (by decide))
              · have g30240 : Rg 1 1 r30236 := rg_ne_lo (k := 0) hr30236.1 (by decide) c30237 (by decide)
                refine lv_iconst (v := 2) hx hb dX12_earOf_68 (by decide) ?_
                refine lv_aload_n hx hb dX12_earOf_69 rfl (lv_at hl 0 rfl) ?_
                refine va_get (D := D) (ci := 12) (v := .ref (b 2)) (C := RX12) (T := TX12) (N := 24) hx hb hts hin12 hown hK hP 0 rfl rfl 3 (by decide) (hts (.fieldLink RX12 17 "MissedPointsModel" "pairs" "[I") (by decide +kernel)) (fun _ h9 => h9) rfl dX12_earOf_70 ?_
                refine lv_iload_n hx hb dX12_earOf_73 rfl (lv_at hl 2 rfl) ?_
                refine lv_iload hx hb dX12_earOf_74 (lv_at hl 4 rfl) ?_
                refine lv_iconst (v := (-1)) hx hb dX12_earOf_76 (by decide) ?_
                refine lv_ixor hx hb dX12_earOf_77 ?_
                refine wk_topP (P := fun r => r = y12_l5 ^^^ ((-1) : Int32)) rfl (fun r30241 qr30241 => ?_)
                refine wk_iandl hx hb dX12_earOf_78 g30220 (by decide) (fun r30242 hr30242 qr30242 => ?_)
                refine va_iald hx hb hK hP 2 0 rfl rfl (rg_in hr30242 (by decide) (by decide)) dX12_earOf_79 ?_
                refine lz_top (y := (v 2 r30242.toNatClampNeg)) rfl ?_
                refine lv_imul hx hb dX12_earOf_80 ?_
                refine wk_topP (P := fun r => r = (2 : Int32) * (v 2 r30242.toNatClampNeg)) rfl (fun r30244 qr30244 => ?_)
                refine lv_iload_n hx hb dX12_earOf_81 rfl (lv_at hl 2 rfl) ?_
                refine lv_iload hx hb dX12_earOf_82 (lv_at hl 4 rfl) ?_
                refine lv_iconst (v := (-1)) hx hb dX12_earOf_84 (by decide) ?_
                refine lv_ixor hx hb dX12_earOf_85 ?_
                refine wk_topP (P := fun r => r = y12_l5 ^^^ ((-1) : Int32)) rfl (fun r30245 qr30245 => ?_)
                refine wk_iandl hx hb dX12_earOf_86 g30220 (by decide) (fun r30246 hr30246 qr30246 => ?_)
                refine lz_ss (As := [.int r30246]) (rest := [.int r30244]) ⟨hx, hb, hml, hown, hts⟩ (w_X12_bits_E l D cI cS r30246 hr30246) hKK (hP.sub (ws' := []) [] rfl) (va_cwS 1 hts gX12_earOf_X12_bits rfl rfl rfl (by decide +kernel) ⟨Nat.le_of_ble_eq_true rfl, Nat.le_of_ble_eq_true rfl⟩) rfl hl.1 rfl (Nat.le_of_ble_eq_true rfl) dX12_earOf_87 ⟨Nat.le_of_ble_eq_true rfl, Nat.le_of_ble_eq_true rfl⟩ (fun r30247 hr30247 => ?_)
                refine lv_icmp_ne (tgt := 98) hx hb dX12_earOf_90 (by decide) (fun c30248 => ?_) (fun c30248 => ?_)
                · refine lv_iload hx hb dX12_earOf_98 (lv_at hl 3 rfl) ?_
                  refine lv_istore (lv' := [(4, .int y12_l4), (0, .ref (b 0)), (2, .int x1), (3, .int y12_l3), (5, .int y12_l5)]) hx hb dX12_earOf_100 hl (by decide) rfl (fun ls hl => ?_)
                  refine wk_iinc (lv' := fun r => [(5, .int r), (4, .int y12_l4), (0, .ref (b 0)), (2, .int x1), (3, .int y12_l3)]) (e1 := 2) (f := 4096) hx hb dX12_earOf_102 hl (k := 4) rfl (by decide) g30221 (by decide) (fun _ => rfl) (fun r30249 ls hr30249 er30249 hl => ?_)
                  refine lv_goto (tgt := 12) hx hb dX12_earOf_105 (by decide) ?_
                  exact ih12 y12_l3 y12_l4 r30249 ls g12_l2 (show Rg 0 4095 y12_l3 from rg_w g30220 (by decide) (by decide)) (show Rg 0 4095 y12_l4 from rg_w g30234 (by decide) (by decide)) (show Rg 1 4096 r30249 from rg_w hr30249 (by decide) (by decide)) (by exact ⟨x12_0.1, ex_1 x12_0.2 er30249 (fun z _ _ _ w => absurd w (fun w2 => c30248 (by rw [qr30244, (show r30242 = y12_l3 &&& (y12_l5 ^^^ (-1)) from by rw [qr30242, qr30241]), hr30247.2, (show r30246 = y12_l3 &&& (y12_l5 ^^^ (-1)) from by rw [qr30246, qr30245]), show y12_l3 &&& (y12_l5 ^^^ (-1)) = 0 from by rw [← z]; exact bit_s _]; exact w2)))⟩) (lv_sub (l' := [(0, .ref (b 0)), (2, .int x1), (3, .int y12_l3), (4, .int y12_l4), (5, .int r30249)]) hl [2, 3, 4, 1, 0] rfl) (me_up hm12 er30249 (by decide))
                · have g30250 : Rg 0 12 r30244 := wk_eql (rg_any r30244) hr30247.1 c30248 (by decide)
                  refine lv_iload hx hb dX12_earOf_93 (lv_at hl 4 rfl) ?_
                  refine lv_goto (tgt := 100) hx hb dX12_earOf_95 (by decide) ?_
                  refine lv_istore (lv' := [(4, .int y12_l5), (0, .ref (b 0)), (2, .int x1), (3, .int y12_l3), (5, .int y12_l5)]) hx hb dX12_earOf_100 hl (by decide) rfl (fun ls hl => ?_)
                  refine wk_iinc (lv' := fun r => [(5, .int r), (4, .int y12_l5), (0, .ref (b 0)), (2, .int x1), (3, .int y12_l3)]) (e1 := 2) (f := 4096) hx hb dX12_earOf_102 hl (k := 4) rfl (by decide) g30221 (by decide) (fun _ => rfl) (fun r30251 ls hr30251 er30251 hl => ?_)
                  refine lv_goto (tgt := 12) hx hb dX12_earOf_105 (by decide) ?_
                  exact ih12 y12_l3 y12_l5 r30251 ls g12_l2 (show Rg 0 4095 y12_l3 from rg_w g30220 (by decide) (by decide)) (show Rg 0 4095 y12_l5 from rg_w g30221 (by decide) (by decide)) (show Rg 1 4096 r30251 from rg_w hr30251 (by decide) (by decide)) (by exact ⟨x12_0.1, ex_2 g30221 (by rw [← qr30222, ← qr30223]; exact c30224) (by have z1 := c30248; rw [qr30244, (show r30242 = y12_l3 &&& (y12_l5 ^^^ (-1)) from by rw [qr30242, qr30241]), hr30247.2, (show r30246 = y12_l3 &&& (y12_l5 ^^^ (-1)) from by rw [qr30246, qr30245])] at z1; exact z1)⟩) (lv_sub (l' := [(0, .ref (b 0)), (2, .int x1), (3, .int y12_l3), (4, .int y12_l5), (5, .int r30251)]) hl [2, 3, 4, 1, 0] rfl) (me_up hm12 er30251 (by decide))
            · have g30252 : Rg 1 4095 y12_l4 := rg_ne_lo (k := 0) g12_l4 (by decide) c30233 (by decide)
              refine lv_iload hx hb dX12_earOf_41 (lv_at hl 4 rfl) ?_
              refine lz_ss (As := [.int y12_l5]) (rest := []) ⟨hx, hb, hml, hown, hts⟩ (w_X12_bits_E l D cI cS y12_l5 (show Rg 0 4095 y12_l5 from rg_w g30221 (by decide) (by decide))) hKK (hP.sub (ws' := []) [] rfl) (va_cwS 1 hts gX12_earOf_X12_bits rfl rfl rfl (by decide +kernel) ⟨Nat.le_of_ble_eq_true rfl, Nat.le_of_ble_eq_true rfl⟩) rfl hl.1 rfl (Nat.le_of_ble_eq_true rfl) dX12_earOf_43 ⟨Nat.le_of_ble_eq_true rfl, Nat.le_of_ble_eq_true rfl⟩ (fun r30253 hr30253 => ?_)
              refine lv_iload hx hb dX12_earOf_46 (lv_at hl 3 rfl) ?_
              refine lz_ss (As := [.int y12_l4]) (rest := [.int r30253]) ⟨hx, hb, hml, hown, hts⟩ (w_X12_bits_E l D cI cS y12_l4 (show Rg 0 4095 y12_l4 from rg_w g30252 (by decide) (by decide))) hKK (hP.sub (ws' := []) [] rfl) (va_cwS 1 hts gX12_earOf_X12_bits rfl rfl rfl (by decide +kernel) ⟨Nat.le_of_ble_eq_true rfl, Nat.le_of_ble_eq_true rfl⟩) rfl hl.1 rfl (Nat.le_of_ble_eq_true rfl) dX12_earOf_48 ⟨Nat.le_of_ble_eq_true rfl, Nat.le_of_ble_eq_true rfl⟩ (fun r30254 hr30254 => ?_)
              refine lv_icmp_lt (tgt := 57) hx hb dX12_earOf_51 (by decide) (fun c30255 => ?_) (fun c30255 => ?_)
              · have g30256 : Rg 0 11 r30253 := rg_ltl hr30253.1 hr30254.1 c30255 (by decide)
                have g30257 : Rg 1 12 r30254 := rg_ltr hr30253.1 hr30254.1 c30255 (by decide)
                refine lv_aload_n hx hb dX12_earOf_57 rfl (lv_at hl 0 rfl) ?_
                refine lv_iload_n hx hb dX12_earOf_58 rfl (lv_at hl 1 rfl) ?_
                refine lv_iload hx hb dX12_earOf_59 (lv_at hl 4 rfl) ?_
                refine wk_ior 12 (e1 := 1) (f := 4095) hx hb dX12_earOf_61 g12_l2 g30221 (by decide) (fun r30258 hr30258 qr30258 => ?_)
                refine wk_sv 0 (As := [.int r30258]) (rest := []) ⟨hx, hb, hml, hown, hts⟩ (w_X12_isCritical_E l D cI cS b L v hL hV r30258 (show Rg 0 4095 r30258 from rg_w hr30258 (by decide) (by decide))) hKK hP (ci := 12) rfl rfl (cwV 1 hts gX12_earOf_X12_isCritical rfl rfl rfl (by decide +kernel) ⟨Nat.le_of_ble_eq_true rfl, Nat.le_of_ble_eq_true rfl⟩) rfl hl.1 rfl (Nat.le_of_ble_eq_true rfl) dX12_earOf_62 ⟨Nat.le_of_ble_eq_true rfl, Nat.le_of_ble_eq_true rfl⟩ (fun r30259 hr30259 => ?_)
                refine lv_if_eq (tgt := 98) hx hb dX12_earOf_65 (by decide) (fun c30260 => ?_) (fun c30260 => ?_)
                · have g30261 : Rg 0 0 r30259 := wk_eql hr30259.1 (by decide : Rg 0 0 (0 : Int32)) c30260 (by decide)
                  refine lv_iload hx hb dX12_earOf_98 (lv_at hl 3 rfl) ?_
                  refine lv_istore (lv' := [(4, .int y12_l4), (0, .ref (b 0)), (2, .int x1), (3, .int y12_l3), (5, .int y12_l5)]) hx hb dX12_earOf_100 hl (by decide) rfl (fun ls hl => ?_)
                  refine wk_iinc (lv' := fun r => [(5, .int r), (4, .int y12_l4), (0, .ref (b 0)), (2, .int x1), (3, .int y12_l3)]) (e1 := 2) (f := 4096) hx hb dX12_earOf_102 hl (k := 4) rfl (by decide) g30221 (by decide) (fun _ => rfl) (fun r30262 ls hr30262 er30262 hl => ?_)
                  refine lv_goto (tgt := 12) hx hb dX12_earOf_105 (by decide) ?_
                  exact ih12 y12_l3 y12_l4 r30262 ls g12_l2 (show Rg 0 4095 y12_l3 from rg_w g30220 (by decide) (by decide)) (show Rg 0 4095 y12_l4 from rg_w g30252 (by decide) (by decide)) (show Rg 1 4096 r30262 from rg_w hr30262 (by decide) (by decide)) (by exact ⟨x12_0.1, ex_1 x12_0.2 er30262 (fun z _ c _ _ => absurd (by rw [qr30258, ← z]; exact c) (hr30259.2.2 c30260))⟩) (lv_sub (l' := [(0, .ref (b 0)), (2, .int x1), (3, .int y12_l3), (4, .int y12_l4), (5, .int r30262)]) hl [2, 3, 4, 1, 0] rfl) (me_up hm12 er30262 (by decide))
                · have g30263 : Rg 1 1 r30259 := rg_ne_lo (k := 0) hr30259.1 (by decide) c30260 (by decide)
                  refine lv_iconst (v := 2) hx hb dX12_earOf_68 (by decide) ?_
                  refine lv_aload_n hx hb dX12_earOf_69 rfl (lv_at hl 0 rfl) ?_
                  refine va_get (D := D) (ci := 12) (v := .ref (b 2)) (C := RX12) (T := TX12) (N := 24) hx hb hts hin12 hown hK hP 0 rfl rfl 3 (by decide) (hts (.fieldLink RX12 17 "MissedPointsModel" "pairs" "[I") (by decide +kernel)) (fun _ h9 => h9) rfl dX12_earOf_70 ?_
                  refine lv_iload_n hx hb dX12_earOf_73 rfl (lv_at hl 2 rfl) ?_
                  refine lv_iload hx hb dX12_earOf_74 (lv_at hl 4 rfl) ?_
                  refine lv_iconst (v := (-1)) hx hb dX12_earOf_76 (by decide) ?_
                  refine lv_ixor hx hb dX12_earOf_77 ?_
                  refine wk_topP (P := fun r => r = y12_l5 ^^^ ((-1) : Int32)) rfl (fun r30264 qr30264 => ?_)
                  refine wk_iandl hx hb dX12_earOf_78 g30220 (by decide) (fun r30265 hr30265 qr30265 => ?_)
                  refine va_iald hx hb hK hP 2 0 rfl rfl (rg_in hr30265 (by decide) (by decide)) dX12_earOf_79 ?_
                  refine lz_top (y := (v 2 r30265.toNatClampNeg)) rfl ?_
                  refine lv_imul hx hb dX12_earOf_80 ?_
                  refine wk_topP (P := fun r => r = (2 : Int32) * (v 2 r30265.toNatClampNeg)) rfl (fun r30267 qr30267 => ?_)
                  refine lv_iload_n hx hb dX12_earOf_81 rfl (lv_at hl 2 rfl) ?_
                  refine lv_iload hx hb dX12_earOf_82 (lv_at hl 4 rfl) ?_
                  refine lv_iconst (v := (-1)) hx hb dX12_earOf_84 (by decide) ?_
                  refine lv_ixor hx hb dX12_earOf_85 ?_
                  refine wk_topP (P := fun r => r = y12_l5 ^^^ ((-1) : Int32)) rfl (fun r30268 qr30268 => ?_)
                  refine wk_iandl hx hb dX12_earOf_86 g30220 (by decide) (fun r30269 hr30269 qr30269 => ?_)
                  refine lz_ss (As := [.int r30269]) (rest := [.int r30267]) ⟨hx, hb, hml, hown, hts⟩ (w_X12_bits_E l D cI cS r30269 hr30269) hKK (hP.sub (ws' := []) [] rfl) (va_cwS 1 hts gX12_earOf_X12_bits rfl rfl rfl (by decide +kernel) ⟨Nat.le_of_ble_eq_true rfl, Nat.le_of_ble_eq_true rfl⟩) rfl hl.1 rfl (Nat.le_of_ble_eq_true rfl) dX12_earOf_87 ⟨Nat.le_of_ble_eq_true rfl, Nat.le_of_ble_eq_true rfl⟩ (fun r30270 hr30270 => ?_)
                  refine lv_icmp_ne (tgt := 98) hx hb dX12_earOf_90 (by decide) (fun c30271 => ?_) (fun c30271 => ?_)
                  · refine lv_iload hx hb dX12_earOf_98 (lv_at hl 3 rfl) ?_
                    refine lv_istore (lv' := [(4, .int y12_l4), (0, .ref (b 0)), (2, .int x1), (3, .int y12_l3), (5, .int y12_l5)]) hx hb dX12_earOf_100 hl (by decide) rfl (fun ls hl => ?_)
                    refine wk_iinc (lv' := fun r => [(5, .int r), (4, .int y12_l4), (0, .ref (b 0)), (2, .int x1), (3, .int y12_l3)]) (e1 := 2) (f := 4096) hx hb dX12_earOf_102 hl (k := 4) rfl (by decide) g30221 (by decide) (fun _ => rfl) (fun r30272 ls hr30272 er30272 hl => ?_)
                    refine lv_goto (tgt := 12) hx hb dX12_earOf_105 (by decide) ?_
                    exact ih12 y12_l3 y12_l4 r30272 ls g12_l2 (show Rg 0 4095 y12_l3 from rg_w g30220 (by decide) (by decide)) (show Rg 0 4095 y12_l4 from rg_w g30252 (by decide) (by decide)) (show Rg 1 4096 r30272 from rg_w hr30272 (by decide) (by decide)) (by exact ⟨x12_0.1, ex_1 x12_0.2 er30272 (fun z _ _ _ w => absurd w (fun w2 => c30271 (by rw [qr30267, (show r30265 = y12_l3 &&& (y12_l5 ^^^ (-1)) from by rw [qr30265, qr30264]), hr30270.2, (show r30269 = y12_l3 &&& (y12_l5 ^^^ (-1)) from by rw [qr30269, qr30268]), show y12_l3 &&& (y12_l5 ^^^ (-1)) = 0 from by rw [← z]; exact bit_s _]; exact w2)))⟩) (lv_sub (l' := [(0, .ref (b 0)), (2, .int x1), (3, .int y12_l3), (4, .int y12_l4), (5, .int r30272)]) hl [2, 3, 4, 1, 0] rfl) (me_up hm12 er30272 (by decide))
                  · have g30273 : Rg 0 12 r30267 := wk_eql (rg_any r30267) hr30270.1 c30271 (by decide)
                    refine lv_iload hx hb dX12_earOf_93 (lv_at hl 4 rfl) ?_
                    refine lv_goto (tgt := 100) hx hb dX12_earOf_95 (by decide) ?_
                    refine lv_istore (lv' := [(4, .int y12_l5), (0, .ref (b 0)), (2, .int x1), (3, .int y12_l3), (5, .int y12_l5)]) hx hb dX12_earOf_100 hl (by decide) rfl (fun ls hl => ?_)
                    refine wk_iinc (lv' := fun r => [(5, .int r), (4, .int y12_l5), (0, .ref (b 0)), (2, .int x1), (3, .int y12_l3)]) (e1 := 2) (f := 4096) hx hb dX12_earOf_102 hl (k := 4) rfl (by decide) g30221 (by decide) (fun _ => rfl) (fun r30274 ls hr30274 er30274 hl => ?_)
                    refine lv_goto (tgt := 12) hx hb dX12_earOf_105 (by decide) ?_
                    exact ih12 y12_l3 y12_l5 r30274 ls g12_l2 (show Rg 0 4095 y12_l3 from rg_w g30220 (by decide) (by decide)) (show Rg 0 4095 y12_l5 from rg_w g30221 (by decide) (by decide)) (show Rg 1 4096 r30274 from rg_w hr30274 (by decide) (by decide)) (by exact ⟨x12_0.1, ex_2 g30221 (by rw [← qr30222, ← qr30223]; exact c30224) (by have z1 := c30271; rw [qr30267, (show r30265 = y12_l3 &&& (y12_l5 ^^^ (-1)) from by rw [qr30265, qr30264]), hr30270.2, (show r30269 = y12_l3 &&& (y12_l5 ^^^ (-1)) from by rw [qr30269, qr30268])] at z1; exact z1)⟩) (lv_sub (l' := [(0, .ref (b 0)), (2, .int x1), (3, .int y12_l3), (4, .int y12_l5), (5, .int r30274)]) hl [2, 3, 4, 1, 0] rfl) (me_up hm12 er30274 (by decide))
              · refine lv_goto (tgt := 102) hx hb dX12_earOf_54 (by decide) ?_
                refine wk_iinc (lv' := fun r => [(5, .int r), (0, .ref (b 0)), (2, .int x1), (3, .int y12_l3), (4, .int y12_l4)]) (e1 := 2) (f := 4096) hx hb dX12_earOf_102 hl (k := 4) rfl (by decide) g30221 (by decide) (fun _ => rfl) (fun r30275 ls hr30275 er30275 hl => ?_)
                refine lv_goto (tgt := 12) hx hb dX12_earOf_105 (by decide) ?_
                exact ih12 y12_l3 y12_l4 r30275 ls g12_l2 (show Rg 0 4095 y12_l3 from rg_w g30220 (by decide) (by decide)) (show Rg 0 4095 y12_l4 from rg_w g30252 (by decide) (by decide)) (show Rg 1 4096 r30275 from rg_w hr30275 (by decide) (by decide)) (by exact ⟨x12_0.1, ex_1 x12_0.2 er30275 (fun _ _ _ _ _ => c30233)⟩) (lv_sub (l' := [(0, .ref (b 0)), (2, .int x1), (3, .int y12_l3), (4, .int y12_l4), (5, .int r30275)]) hl [1, 2, 3, 4, 0] rfl) (me_up hm12 er30275 (by decide))
  refine lv_iload_n hx hb dX12_earOf_0 rfl (lv_at hl 1 rfl) ?_
  refine lv_iload_n hx hb dX12_earOf_1 rfl (lv_at hl 2 rfl) ?_
  refine lv_iconst (v := (-1)) hx hb dX12_earOf_2 (by decide) ?_
  refine lv_ixor hx hb dX12_earOf_3 ?_
  refine wk_topP (P := fun r => r = x1 ^^^ ((-1) : Int32)) rfl (fun r30276 qr30276 => ?_)
  refine wk_iandl hx hb dX12_earOf_4 px0 (by decide) (fun r30277 hr30277 qr30277 => ?_)
  refine lv_istore_n (lv' := [(3, .int r30277), (0, .ref (b 0)), (1, .int x0), (2, .int x1)]) hx hb dX12_earOf_5 rfl hl (by decide) rfl (fun ls hl => ?_)
  refine lv_iconst (v := 0) hx hb dX12_earOf_6 (by decide) ?_
  refine lv_istore (lv' := [(4, .int 0), (3, .int r30277), (0, .ref (b 0)), (1, .int x0), (2, .int x1)]) hx hb dX12_earOf_7 hl (by decide) rfl (fun ls hl => ?_)
  refine lv_iconst (v := 1) hx hb dX12_earOf_9 (by decide) ?_
  refine lv_istore (lv' := [(5, .int 1), (4, .int 0), (3, .int r30277), (0, .ref (b 0)), (1, .int x0), (2, .int x1)]) hx hb dX12_earOf_10 hl (by decide) rfl (fun ls hl => ?_)
  exact lp12 4096 r30277 (0 : Int32) (1 : Int32) ls px1 hr30277 (by decide : Rg 0 4095 (0 : Int32)) (by decide : Rg 1 4096 (1 : Int32)) (by exact ⟨by rw [qr30277, qr30276], ex_0 hr30277.1 (by decide)⟩) (lv_sub (l' := [(0, .ref (b 0)), (2, .int x1), (3, .int r30277), (4, .int 0), (5, .int 1)]) hl [3, 5, 2, 1, 0] rfl) (me_i (by decide : Rg 1 4096 (1 : Int32)) (by decide))
set_option maxRecDepth 20000 in
theorem ggX12_ear_X12_earOf : GoodIn wsX12_ear wsX12_earOf := goodIn_r _ [34, 16, 28, 29, 4, 30, 24, 25, 26, 27, 10, 21, 22, 23, 35, 36, 37, 38, 39, 40, 41, 42, 43, 44, 45, 46, 47, 48, 49, 50, 51, 52, 53, 54, 55, 56, 57, 58] (by decide +kernel) (by decide +kernel)
set_option maxRecDepth 20000 in
theorem gX12_ear_X12_earOf : GoodIn wsX12_ear (wsV RX12 147 RX12 yX12_earOf wsX12_earOf) := goodIn_app (goodIn_of _ (by decide +kernel)) ggX12_ear_X12_earOf
theorem dX12_ear_10 : decode cX12_ear 10 = .ok (.ireturn, 1) := by decide +kernel
theorem dX12_ear_26 : decode cX12_ear 26 = .ok (.iload_n 1, 1) := by decide +kernel
theorem dX12_ear_27 : decode cX12_ear 27 = .ok (.iload_n 1, 1) := by decide +kernel
theorem dX12_ear_28 : decode cX12_ear 28 = .ok (.ineg, 1) := by decide +kernel
theorem dX12_ear_29 : decode cX12_ear 29 = .ok (.iand, 1) := by decide +kernel
theorem dX12_ear_30 : decode cX12_ear 30 = .ok (.istore_n 3, 1) := by decide +kernel
theorem dX12_ear_31 : decode cX12_ear 31 = .ok (.iconst 0, 1) := by decide +kernel
theorem dX12_ear_32 : decode cX12_ear 32 = .ok (.istore 4, 2) := by decide +kernel
theorem dX12_ear_34 : decode cX12_ear 34 = .ok (.iload_n 3, 1) := by decide +kernel
theorem dX12_ear_35 : decode cX12_ear 35 = .ok (.iload_n 1, 1) := by decide +kernel
theorem dX12_ear_36 : decode cX12_ear 36 = .ok (.if_icmp .eq 31, 3) := by decide +kernel
theorem dX12_ear_39 : decode cX12_ear 39 = .ok (.aload_n 0, 1) := by decide +kernel
theorem dX12_ear_40 : decode cX12_ear 40 = .ok (.iload_n 1, 1) := by decide +kernel
theorem dX12_ear_41 : decode cX12_ear 41 = .ok (.iload_n 3, 1) := by decide +kernel
theorem dX12_ear_42 : decode cX12_ear 42 = .ok (.invokevirtual 147, 3) := by decide +kernel
theorem dX12_ear_45 : decode cX12_ear 45 = .ok (.istore 5, 2) := by decide +kernel
theorem dX12_ear_47 : decode cX12_ear 47 = .ok (.iload 4, 2) := by decide +kernel
theorem dX12_ear_49 : decode cX12_ear 49 = .ok (.iload_n 2, 1) := by decide +kernel
theorem dX12_ear_50 : decode cX12_ear 50 = .ok (.if_icmp .ne 6, 3) := by decide +kernel
theorem dX12_ear_53 : decode cX12_ear 53 = .ok (.iload 5, 2) := by decide +kernel
theorem dX12_ear_55 : decode cX12_ear 55 = .ok (.ireturn, 1) := by decide +kernel
theorem dX12_ear_56 : decode cX12_ear 56 = .ok (.iload_n 3, 1) := by decide +kernel
theorem dX12_ear_57 : decode cX12_ear 57 = .ok (.iload 5, 2) := by decide +kernel
theorem dX12_ear_59 : decode cX12_ear 59 = .ok (.ior, 1) := by decide +kernel
theorem dX12_ear_60 : decode cX12_ear 60 = .ok (.istore_n 3, 1) := by decide +kernel
theorem dX12_ear_61 : decode cX12_ear 61 = .ok (.iinc 4 1, 3) := by decide +kernel
theorem dX12_ear_64 : decode cX12_ear 64 = .ok (.goto (-30), 3) := by decide +kernel
theorem dX12_ear_67 : decode cX12_ear 67 = .ok (.iload_n 2, 1) := by decide +kernel
theorem dX12_ear_68 : decode cX12_ear 68 = .ok (.iconst (-1), 1) := by decide +kernel
theorem dX12_ear_69 : decode cX12_ear 69 = .ok (.if_icmp .ne 8, 3) := by decide +kernel
theorem dX12_ear_72 : decode cX12_ear 72 = .ok (.iload 4, 2) := by decide +kernel
theorem dX12_ear_74 : decode cX12_ear 74 = .ok (.goto 4, 3) := by decide +kernel
theorem dX12_ear_77 : decode cX12_ear 77 = .ok (.iconst (-1), 1) := by decide +kernel
theorem dX12_ear_78 : decode cX12_ear 78 = .ok (.ireturn, 1) := by decide +kernel
set_option maxHeartbeats 4000000 in
set_option maxRecDepth 100000 in
theorem w_X12_ear (l : Launch) (D : va_G) (cI cS : ClassId) (sz : Nat) (b : Nat → Nat) (L v0 : SU) (hL : TyL L) (hV : TyV v0) (x0 x1 : Int32) : Met l yX12_ear wsX12_ear ({ frames := 3, cells := 0, slots := 0, locals := 120 }) (PQ D cI cS (wM cI b L v0) sz [.ref (b 0), .int x0, .int x1]) (QF (S := SU) D (wM cI b L v0) (wM cI b L) sz (fun r u => TyV u ∧ Rg (-2147483648) 2147483647 r ∧ True)) 0 0 (va_A (wM cI b L v0) sz) := by
  refine Met.ofW (cc := cX12_ear) (maxL := 6) (ret := (some .int)) (by decide) rfl ?_
  intro p e s m args below meth c s₁ B hml hv
  obtain ⟨rfl, hsz, hP, hKK, hD0⟩ := hv
  have hx := B.exec
  have hb := B.bytes
  have hr := B.returns
  have hts := atoms_spec (ws := wsX12_ear) B.pre
  have hown : s.vm.findClass RX12 = some m.cls := findClass_of_methodNamed B.named
  have hlocks := B.notSynchronized
  have hK := hKK.1
  subst hsz
  have hD := hD0.self (sz := s.heap.size)
  obtain ⟨A, hAe⟩ : ∃ A, A = va_A (wM cI b L v0) s.heap.size := ⟨_, rfl⟩
  rw [← hAe] at hD
  have hA : ∀ q : Nat, s.heap.size ≤ q → A q := fun q h => by rw [hAe]; exact Or.inr h
  have hS : va_S A s.heap s.heap [] := va_S.rf
  have hl := lv_entry ([.ref (b 0), .int x0, .int x1]) (n := 6) (Nat.le_of_ble_eq_true rfl)
  rw [lg_entry_eq]
  generalize (lg_sl ([.ref (b 0), .int x0, .int x1]) ++ List.replicate (6 - (lg_sl ([.ref (b 0), .int x0, .int x1])).length) Slot.unset).toArray = ls at hl ⊢
  have hl : lv_has ls 6 [(0, .ref (b 0)), (1, .int x0), (2, .int x1)] := hl
  obtain ⟨v, hv9⟩ : ∃ v : SU, v = v0 := ⟨_, rfl⟩
  rw [← hv9] at hP hD hV
  have lp34 : ∀ (n34 : Nat) (y34_l3 : Int32) (y34_l4 : Int32) (v : SU) (H : Heap) (locs : List Loc) (ls : Array Slot), Rg 0 4095 x0 → Rg 0 4095 y34_l3 → (EA v (L 0 0) x0 y34_l3 ∧ Rg 0 4095 x0) → TyV v → va_P D cls (wM cI b L v) H → va_D A (wM cI b L v) → va_S A s.heap H locs → lv_has ls 6 [(0, .ref (b 0)), (1, .int x0), (2, .int x1), (3, .int y34_l3), (4, .int y34_l4)] → 4095 - y34_l3.toInt < (n34 : Int) → W p l e (headSpec wsX12_ear ({ frames := 3, cells := 0, slots := 0, locals := 120 })).room s m ([.ref (b 0), .int x0, .int x1]).toArray below meth c H locs 0 0 (MQ below (QF (S := SU) D (wM cI b L v0) (wM cI b L) s.heap.size (fun r u => TyV u ∧ Rg (-2147483648) 2147483647 r ∧ True)) ([.ref (b 0), .int x0, .int x1]).toArray s 0 0 (va_A (wM cI b L v0) s.heap.size)) (F0 m 34 ls []) := by
    intro n34
    induction n34 with
    | zero =>
      intro y34_l3 y34_l4 v H locs ls g34_l1 g34_l3 x34_0 hV hP hD hS hl hm34
      exact absurd rfl (me_z g34_l3 hm34)
    | succ n34 ih34 =>
      intro y34_l3 y34_l4 v H locs ls g34_l1 g34_l3 x34_0 hV hP hD hS hl hm34
      refine lv_iload_n hx hb dX12_ear_34 rfl (lv_at hl 3 rfl) ?_
      refine lv_iload_n hx hb dX12_ear_35 rfl (lv_at hl 1 rfl) ?_
      refine lv_icmp_eq (tgt := 67) hx hb dX12_ear_36 (by decide) (fun c30885 => ?_) (fun c30885 => ?_)
      · refine lv_iload_n hx hb dX12_ear_67 rfl (lv_at hl 2 rfl) ?_
        refine lv_iconst (v := (-1)) hx hb dX12_ear_68 (by decide) ?_
        refine lv_icmp_ne (tgt := 77) hx hb dX12_ear_69 (by decide) (fun c30886 => ?_) (fun c30886 => ?_)
        · refine lv_iconst (v := (-1)) hx hb dX12_ear_77 (by decide) ?_
          subst hAe
          exact W.iret (v := (-1)) hx hb hr (fun t ht hW => ⟨⟨_, v, rfl, ⟨hV, (by decide : Rg (-2147483648) 2147483647 ((-1) : Int32)), trivial⟩, by rw [ht]; exact hP, hD⟩, hS.F ht⟩) hS.2.2 dX12_ear_78
        · have g30887 : Rg (-1) (-1) x1 := wk_eql (rg_any x1) (by decide : Rg (-1) (-1) ((-1) : Int32)) c30886 (by decide)
          refine lv_iload hx hb dX12_ear_72 (lv_at hl 4 rfl) ?_
          refine lv_goto (tgt := 78) hx hb dX12_ear_74 (by decide) ?_
          subst hAe
          exact W.iret (v := y34_l4) hx hb hr (fun t ht hW => ⟨⟨_, v, rfl, ⟨hV, (rg_any y34_l4), trivial⟩, by rw [ht]; exact hP, hD⟩, hS.F ht⟩) hS.2.2 dX12_ear_78
      · refine lv_aload_n hx hb dX12_ear_39 rfl (lv_at hl 0 rfl) ?_
        refine lv_iload_n hx hb dX12_ear_40 rfl (lv_at hl 1 rfl) ?_
        refine lv_iload_n hx hb dX12_ear_41 rfl (lv_at hl 3 rfl) ?_
        refine wk_sv 0 (As := [.int x0, .int y34_l3]) (rest := []) ⟨hx, hb, hml, hown, hts⟩ (w_X12_earOf l D cI cS b L v hL hV x0 y34_l3 g34_l1 g34_l3) hKK hP (ci := 12) rfl rfl (cwV 2 hts gX12_ear_X12_earOf rfl rfl rfl (by decide +kernel) ⟨Nat.le_of_ble_eq_true rfl, Nat.le_of_ble_eq_true rfl⟩) rfl hl.1 rfl (Nat.le_of_ble_eq_true rfl) dX12_ear_42 ⟨Nat.le_of_ble_eq_true rfl, Nat.le_of_ble_eq_true rfl⟩ (fun r30888 hr30888 => ?_)
        refine lv_istore (lv' := [(5, .int r30888), (0, .ref (b 0)), (1, .int x0), (2, .int x1), (3, .int y34_l3), (4, .int y34_l4)]) hx hb dX12_ear_45 hl (by decide) rfl (fun ls hl => ?_)
        refine lv_iload hx hb dX12_ear_47 (lv_at hl 5 rfl) ?_
        refine lv_iload_n hx hb dX12_ear_49 rfl (lv_at hl 3 rfl) ?_
        refine lv_icmp_ne (tgt := 56) hx hb dX12_ear_50 (by decide) (fun c30889 => ?_) (fun c30889 => ?_)
        · have g30890 : Rg 0 4095 r30888 := (ea_1 x34_0.1 hV.2.1 x34_0.2 g34_l3 c30885 hr30888.2 rfl).2.2
          refine lv_iload_n hx hb dX12_ear_56 rfl (lv_at hl 4 rfl) ?_
          refine lv_iload hx hb dX12_ear_57 (lv_at hl 0 rfl) ?_
          refine wk_ior 12 (e1 := 0) (f := 4095) hx hb dX12_ear_59 g34_l3 g30890 (by decide) (fun r30891 hr30891 qr30891 => ?_)
          refine lv_istore_n (lv' := [(3, .int r30891), (5, .int r30888), (0, .ref (b 0)), (1, .int x0), (2, .int x1), (4, .int y34_l4)]) hx hb dX12_ear_60 rfl hl (by decide) rfl (fun ls hl => ?_)
          refine wk_iincA (lv' := fun r => [(4, .int r), (3, .int r30891), (5, .int r30888), (0, .ref (b 0)), (1, .int x0), (2, .int x1)]) hx hb dX12_ear_61 hl (k := 5) rfl (by decide) (fun _ => rfl) (fun r30892 ls hl => ?_)
          refine lv_goto (tgt := 34) hx hb dX12_ear_64 (by decide) ?_
          exact ih34 r30891 r30892 v _ _ ls g34_l1 hr30891 (by exact ⟨(ea_1 x34_0.1 hV.2.1 x34_0.2 g34_l3 c30885 hr30888.2 qr30891).1, x34_0.2⟩) hV hP hD hS (lv_sub (l' := [(0, .ref (b 0)), (1, .int x0), (2, .int x1), (3, .int r30891), (4, .int r30892)]) hl [3, 4, 5, 1, 0] rfl) (by have z1 := (ea_1 x34_0.1 hV.2.1 x34_0.2 g34_l3 c30885 hr30888.2 qr30891).2.1; have z2 := hm34; omega)
        · refine lv_iload hx hb dX12_ear_53 (lv_at hl 0 rfl) ?_
          subst hAe
          exact W.iret (v := r30888) hx hb hr (fun t ht hW => ⟨⟨_, v, rfl, ⟨hV, (rg_any r30888), trivial⟩, by rw [ht]; exact hP, hD⟩, hS.F ht⟩) hS.2.2 dX12_ear_55
  refine lv_aload_n hx hb dX12_ear_0 rfl (lv_at hl 0 rfl) ?_
  refine lv_iload_n hx hb dX12_ear_1 rfl (lv_at hl 1 rfl) ?_
  refine wk_sv 0 (As := [.int x0]) (rest := []) ⟨hx, hb, hml, hown, hts⟩ (w_X12_isSet l D cI cS b L v hL hV x0) hKK hP (ci := 12) rfl rfl (cwV 1 hts gX12_ear_X12_isSet rfl rfl rfl (by decide +kernel) ⟨Nat.le_of_ble_eq_true rfl, Nat.le_of_ble_eq_true rfl⟩) rfl hl.1 rfl (Nat.le_of_ble_eq_true rfl) dX12_ear_2 ⟨Nat.le_of_ble_eq_true rfl, Nat.le_of_ble_eq_true rfl⟩ (fun r30893 hr30893 => ?_)
  refine lv_if_ne (tgt := 11) hx hb dX12_ear_5 (by decide) (fun c30894 => ?_) (fun c30894 => ?_)
  · have g30895 : Rg 0 4095 x0 := (hr30893.2.1 c30894)
    have g30896 : Rg 1 1 r30893 := rg_ne_lo (k := 0) hr30893.1 (by decide) c30894 (by decide)
    refine lv_aload_n hx hb dX12_ear_11 rfl (lv_at hl 0 rfl) ?_
    refine wk_qv (wM cI b L) v (As := []) (rest := []) ⟨hx, hb, hml, hown, hts⟩ (w_X12_reckons l D cI cS _ b L v hL hV) hKK hP hD hS hA 0 (ci := 12) rfl rfl (cwV 0 hts gX12_ear_X12_reckons rfl rfl rfl (by decide +kernel) ⟨Nat.le_of_ble_eq_true rfl, Nat.le_of_ble_eq_true rfl⟩) rfl hl.1 rfl (Nat.le_of_ble_eq_true rfl) dX12_ear_12 ⟨Nat.le_of_ble_eq_true rfl, Nat.le_of_ble_eq_true rfl⟩ (fun v H locs hr30897 hP hD hS => ?_)
    have hV := hr30897.1
    refine lv_aload_n hx hb dX12_ear_15 rfl (lv_at hl 0 rfl) ?_
    refine lv_iload_n hx hb dX12_ear_16 rfl (lv_at hl 1 rfl) ?_
    refine wk_sv 0 (As := [.int x0]) (rest := []) ⟨hx, hb, hml, hown, hts⟩ (w_X12_isCritical_E l D cI cS b L v hL hV x0 g30895) hKK hP (ci := 12) rfl rfl (cwV 1 hts gX12_ear_X12_isCritical rfl rfl rfl (by decide +kernel) ⟨Nat.le_of_ble_eq_true rfl, Nat.le_of_ble_eq_true rfl⟩) rfl hl.1 rfl (Nat.le_of_ble_eq_true rfl) dX12_ear_17 ⟨Nat.le_of_ble_eq_true rfl, Nat.le_of_ble_eq_true rfl⟩ (fun r30898 hr30898 => ?_)
    refine lv_if_ne (tgt := 26) hx hb dX12_ear_20 (by decide) (fun c30899 => ?_) (fun c30899 => ?_)
    · have g30900 : Rg 1 1 r30898 := rg_ne_lo (k := 0) hr30898.1 (by decide) c30899 (by decide)
      refine lv_iload_n hx hb dX12_ear_26 rfl (lv_at hl 1 rfl) ?_
      refine lv_iload_n hx hb dX12_ear_27 rfl (lv_at hl 1 rfl) ?_
      refine lv_ineg hx hb dX12_ear_28 ?_
      refine wk_topP (P := fun r => r = -x0) rfl (fun r30901 qr30901 => ?_)
      refine wk_iandl hx hb dX12_ear_29 g30895 (by decide) (fun r30902 hr30902 qr30902 => ?_)
      refine lv_istore_n (lv' := [(3, .int r30902), (0, .ref (b 0)), (1, .int x0), (2, .int x1)]) hx hb dX12_ear_30 rfl hl (by decide) rfl (fun ls hl => ?_)
      refine lv_iconst (v := 0) hx hb dX12_ear_31 (by decide) ?_
      refine lv_istore (lv' := [(4, .int 0), (3, .int r30902), (0, .ref (b 0)), (1, .int x0), (2, .int x1)]) hx hb dX12_ear_32 hl (by decide) rfl (fun ls hl => ?_)
      exact lp34 4096 r30902 (0 : Int32) v _ _ ls g30895 hr30902 (by rw [qr30902, qr30901]; exact ⟨ea_0 (hr30898.2.1 c30899) g30895 hL.1 (hr30893.2.2 c30894), g30895⟩) hV hP hD hS (lv_sub (l' := [(0, .ref (b 0)), (1, .int x0), (2, .int x1), (3, .int r30902), (4, .int 0)]) hl [2, 3, 4, 1, 0] rfl) (me_i hr30902 (by decide))
    · have g30903 : Rg 0 0 r30898 := wk_eql hr30898.1 (by decide : Rg 0 0 (0 : Int32)) c30899 (by decide)
      refine lv_bipush (v := (-3)) hx hb dX12_ear_23 (by decide) ?_
      subst hAe
      exact W.iret (v := (-3)) hx hb hr (fun t ht hW => ⟨⟨_, v, rfl, ⟨hV, (by decide : Rg (-2147483648) 2147483647 ((-3) : Int32)), trivial⟩, by rw [ht]; exact hP, hD⟩, hS.F ht⟩) hS.2.2 dX12_ear_25
  · have g30904 : Rg 0 0 r30893 := wk_eql hr30893.1 (by decide : Rg 0 0 (0 : Int32)) c30894 (by decide)
    refine lv_bipush (v := (-2)) hx hb dX12_ear_8 (by decide) ?_
    subst hAe
    exact W.iret (v := (-2)) hx hb hr (fun t ht hW => ⟨⟨_, v, rfl, ⟨hV, (by decide : Rg (-2147483648) 2147483647 ((-2) : Int32)), trivial⟩, by rw [ht]; exact hP, hD⟩, hS.F ht⟩) hS.2.2 dX12_ear_10
