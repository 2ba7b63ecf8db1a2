theorem dX12_misses_12 : decode cX12_misses 12 = .ok (.iconst 0, 1) := by decide +kernel
theorem dX12_misses_13 : decode cX12_misses 13 = .ok (.istore_n 3, 1) := by decide +kernel
theorem dX12_misses_14 : decode cX12_misses 14 = .ok (.iconst 0, 1) := by decide +kernel
theorem dX12_misses_15 : decode cX12_misses 15 = .ok (.istore 4, 2) := by decide +kernel
theorem dX12_misses_17 : decode cX12_misses 17 = .ok (.iload 4, 2) := by decide +kernel
theorem dX12_misses_19 : decode cX12_misses 19 = .ok (.aload_n 0, 1) := by decide +kernel
theorem dX12_misses_20 : decode cX12_misses 20 = .ok (.getfield 63, 3) := by decide +kernel
theorem dX12_misses_23 : decode cX12_misses 23 = .ok (.if_icmp .ge 31, 3) := by decide +kernel
theorem dX12_misses_26 : decode cX12_misses 26 = .ok (.iload_n 3, 1) := by decide +kernel
theorem dX12_misses_27 : decode cX12_misses 27 = .ok (.aload_n 0, 1) := by decide +kernel
theorem dX12_misses_28 : decode cX12_misses 28 = .ok (.getfield 26, 3) := by decide +kernel
theorem dX12_misses_31 : decode cX12_misses 31 = .ok (.iload 4, 2) := by decide +kernel
theorem dX12_misses_33 : decode cX12_misses 33 = .ok (.iaload, 1) := by decide +kernel
theorem dX12_misses_34 : decode cX12_misses 34 = .ok (.iconst (-1), 1) := by decide +kernel
theorem dX12_misses_35 : decode cX12_misses 35 = .ok (.if_icmp .ne 10, 3) := by decide +kernel
theorem dX12_misses_38 : decode cX12_misses 38 = .ok (.iconst 1, 1) := by decide +kernel
theorem dX12_misses_39 : decode cX12_misses 39 = .ok (.iload 4, 2) := by decide +kernel
theorem dX12_misses_41 : decode cX12_misses 41 = .ok (.ishl, 1) := by decide +kernel
theorem dX12_misses_42 : decode cX12_misses 42 = .ok (.goto 4, 3) := by decide +kernel
theorem dX12_misses_45 : decode cX12_misses 45 = .ok (.iconst 0, 1) := by decide +kernel
theorem dX12_misses_46 : decode cX12_misses 46 = .ok (.ior, 1) := by decide +kernel
theorem dX12_misses_47 : decode cX12_misses 47 = .ok (.istore_n 3, 1) := by decide +kernel
theorem dX12_misses_48 : decode cX12_misses 48 = .ok (.iinc 4 1, 3) := by decide +kernel
theorem dX12_misses_51 : decode cX12_misses 51 = .ok (.goto (-34), 3) := by decide +kernel
theorem dX12_misses_54 : decode cX12_misses 54 = .ok (.iload_n 3, 1) := by decide +kernel
theorem dX12_misses_55 : decode cX12_misses 55 = .ok (.ireturn, 1) := by decide +kernel
set_option maxHeartbeats 4000000 in
set_option maxRecDepth 100000 in
theorem w_X12_misses (l : Launch) (D : va_G) (cI cS : ClassId) (sz : Nat) (b : Nat → Nat) (L v0 : SU) (hL : TyL L) (hV : TyV v0) (x0 : Int32) : Met l yX12_misses wsX12_misses ({ frames := 3, cells := 0, slots := 0, locals := 120 }) (PQ D cI cS (wM cI b L v0) sz [.ref (b 0), .int x0]) (QF (S := SU) D (wM cI b L v0) (wM cI b L) sz (fun r u => TyV u ∧ Rg (-11) 4095 r ∧ True)) 0 0 (va_A (wM cI b L v0) sz) := by
  refine Met.ofW (cc := cX12_misses) (maxL := 5) (ret := (some .int)) (by decide) rfl ?_
  intro p e s m args below meth c s₁ B hml hv
  obtain ⟨rfl, hsz, hP, hKK, hD0⟩ := hv
  have hx := B.exec
  have hb := B.bytes
  have hr := B.returns
  have hts := atoms_spec (ws := wsX12_misses) B.pre
  have hown : s.vm.findClass RX12 = some m.cls := findClass_of_methodNamed B.named
  have hlocks := B.notSynchronized
  have hK := hKK.1
  have hin12 : ∀ w ∈ wsX120, w ∈ wsX12_misses := by decide +kernel
  subst hsz
  have hD := hD0.self (sz := s.heap.size)
  obtain ⟨A, hAe⟩ : ∃ A, A = va_A (wM cI b L v0) s.heap.size := ⟨_, rfl⟩
  rw [← hAe] at hD
  have hA : ∀ q : Nat, s.heap.size ≤ q → A q := fun q h => by rw [hAe]; exact Or.inr h
  have hS : va_S A s.heap s.heap [] := va_S.rf
  have hl := lv_entry ([.ref (b 0), .int x0]) (n := 5) (Nat.le_of_ble_eq_true rfl)
  rw [lg_entry_eq]
  generalize (lg_sl ([.ref (b 0), .int x0]) ++ List.replicate (5 - (lg_sl ([.ref (b 0), .int x0])).length) Slot.unset).toArray = ls at hl ⊢
  have hl : lv_has ls 5 [(0, .ref (b 0)), (1, .int x0)] := hl
  obtain ⟨v, hv9⟩ : ∃ v : SU, v = v0 := ⟨_, rfl⟩
  rw [← hv9] at hP hD hV
  have lp17 : ∀ (n17 : Nat) (y17_l3 : Int32) (y17_l4 : Int32) (v : SU) (H : Heap) (locs : List Loc) (ls : Array Slot), Rg 0 4095 y17_l3 → Rg 0 12 y17_l4 → TyV v → va_P D cls (wM cI b L v) H → va_D A (wM cI b L v) → va_S A s.heap H locs → lv_has ls 5 [(0, .ref (b 0)), (3, .int y17_l3), (4, .int y17_l4)] → 12 - y17_l4.toInt < (n17 : Int) → W p l e (headSpec wsX12_misses ({ frames := 3, cells := 0, slots := 0, locals := 120 })).room s m ([.ref (b 0), .int x0]).toArray below meth c H locs 0 0 (MQ below (QF (S := SU) D (wM cI b L v0) (wM cI b L) s.heap.size (fun r u => TyV u ∧ Rg (-11) 4095 r ∧ True)) ([.ref (b 0), .int x0]).toArray s 0 0 (va_A (wM cI b L v0) s.heap.size)) (F0 m 17 ls []) := by
    intro n17
    induction n17 with
    | zero =>
      intro y17_l3 y17_l4 v H locs ls g17_l3 g17_l4 hV hP hD hS hl hm17
      exact absurd rfl (me_z g17_l4 hm17)
    | succ n17 ih17 =>
      intro y17_l3 y17_l4 v H locs ls g17_l3 g17_l4 hV hP hD hS hl hm17
      refine lv_iload hx hb dX12_misses_17 (lv_at hl 2 rfl) ?_
      refine lv_aload_n hx hb dX12_misses_19 rfl (lv_at hl 0 rfl) ?_
      refine va_get (D := D) (ci := 12) (v := .int (L 0 0)) (C := RX12) (T := TX12) (N := 24) hx hb hts hin12 hown hK hP 0 rfl rfl 0 (by decide) (hts (.fieldLink RX12 63 "MissedPointsModel" "many" "I") (by decide +kernel)) (fun _ h9 => h9) rfl dX12_misses_20 ?_
      refine lv_icmp_ge (tgt := 54) hx hb dX12_misses_23 (by decide) (fun c9719 => ?_) (fun c9719 => ?_)
      · refine lv_iload_n hx hb dX12_misses_54 rfl (lv_at hl 1 rfl) ?_
        subst hAe
        exact W.iret (v := y17_l3) hx hb hr (fun t ht hW => ⟨⟨_, v, rfl, ⟨hV, (show Rg (-11) 4095 y17_l3 from rg_w g17_l3 (by decide) (by decide)), trivial⟩, by rw [ht]; exact hP, hD⟩, hS.F ht⟩) hS.2.2 dX12_misses_55
      · have g9720 : Rg 1 12 (L 0 0) := rg_ltr g17_l4 hL.1 (rg_nle c9719) (by decide)
        have g9721 : Rg 0 11 y17_l4 := rg_ltl g17_l4 hL.1 (rg_nle c9719) (by decide)
        refine lv_iload_n hx hb dX12_misses_26 rfl (lv_at hl 1 rfl) ?_
        refine lv_aload_n hx hb dX12_misses_27 rfl (lv_at hl 0 rfl) ?_
        refine va_get (D := D) (ci := 12) (v := .ref (b 5)) (C := RX12) (T := TX12) (N := 24) hx hb hts hin12 hown hK hP 0 rfl rfl 6 (by decide) (hts (.fieldLink RX12 26 "MissedPointsModel" "mates" "[I") (by decide +kernel)) (fun _ h9 => h9) rfl dX12_misses_28 ?_
        refine lv_iload hx hb dX12_misses_31 (lv_at hl 2 rfl) ?_
        refine wk_ald hx hb hK hP 5 0 rfl rfl (rg_in g9721 (by decide) (by decide)) dX12_misses_33 hV.2.2.1 (fun r9722 hr9722 => ?_)
        refine lv_iconst (v := (-1)) hx hb dX12_misses_34 (by decide) ?_
        refine lv_icmp_ne (tgt := 45) hx hb dX12_misses_35 (by decide) (fun c9723 => ?_) (fun c9723 => ?_)
        · have g9724 : Rg 0 11 r9722 := rg_ne_lo (k := (-1)) hr9722 (by decide) c9723 (by decide)
          refine lv_iconst (v := 0) hx hb dX12_misses_45 (by decide) ?_
          refine wk_ior 12 (e1 := 0) (f := 4095) hx hb dX12_misses_46 g17_l3 (by decide : Rg 0 0 (0 : Int32)) (by decide) (fun r9725 hr9725 qr9725 => ?_)
          refine lv_istore_n (lv' := [(3, .int r9725), (0, .ref (b 0)), (4, .int y17_l4)]) hx hb dX12_misses_47 rfl hl (by decide) rfl (fun ls hl => ?_)
          refine wk_iinc (lv' := fun r => [(4, .int r), (3, .int r9725), (0, .ref (b 0))]) (e1 := 1) (f := 12) hx hb dX12_misses_48 hl (k := 2) rfl (by decide) g9721 (by decide) (fun _ => rfl) (fun r9726 ls hr9726 er9726 hl => ?_)
          refine lv_goto (tgt := 17) hx hb dX12_misses_51 (by decide) ?_
          exact ih17 r9725 r9726 v _ _ ls hr9725 (show Rg 0 12 r9726 from rg_w hr9726 (by decide) (by decide)) hV hP hD hS (lv_sub (l' := [(0, .ref (b 0)), (3, .int r9725), (4, .int r9726)]) hl [2, 1, 0] rfl) (me_up hm17 er9726 (by decide))
        · have g9727 : Rg (-1) (-1) r9722 := wk_eql hr9722 (by decide : Rg (-1) (-1) ((-1) : Int32)) c9723 (by decide)
          refine lv_iconst (v := 1) hx hb dX12_misses_38 (by decide) ?_
          refine lv_iload hx hb dX12_misses_39 (lv_at hl 2 rfl) ?_
          refine wk_ishl1 (f := 2048) hx hb dX12_misses_41 g9721 (by decide) (fun r9728 hr9728 qr9728 => ?_)
          refine lv_goto (tgt := 46) hx hb dX12_misses_42 (by decide) ?_
          refine wk_ior 12 (e1 := 1) (f := 4095) hx hb dX12_misses_46 g17_l3 hr9728 (by decide) (fun r9729 hr9729 qr9729 => ?_)
          refine lv_istore_n (lv' := [(3, .int r9729), (0, .ref (b 0)), (4, .int y17_l4)]) hx hb dX12_misses_47 rfl hl (by decide) rfl (fun ls hl => ?_)
          refine wk_iinc (lv' := fun r => [(4, .int r), (3, .int r9729), (0, .ref (b 0))]) (e1 := 1) (f := 12) hx hb dX12_misses_48 hl (k := 2) rfl (by decide) g9721 (by decide) (fun _ => rfl) (fun r9730 ls hr9730 er9730 hl => ?_)
          refine lv_goto (tgt := 17) hx hb dX12_misses_51 (by decide) ?_
          exact ih17 r9729 r9730 v _ _ ls (show Rg 0 4095 r9729 from rg_w hr9729 (by decide) (by decide)) (show Rg 0 12 r9730 from rg_w hr9730 (by decide) (by decide)) hV hP hD hS (lv_sub (l' := [(0, .ref (b 0)), (3, .int r9729), (4, .int r9730)]) hl [2, 1, 0] rfl) (me_up hm17 er9730 (by decide))
  refine lv_aload_n hx hb dX12_misses_0 rfl (lv_at hl 0 rfl) ?_
  refine lv_iload_n hx hb dX12_misses_1 rfl (lv_at hl 1 rfl) ?_
  refine wk_qi (wM cI b L) v (As := [.int x0]) (rest := []) ⟨hx, hb, hml, hown, hts⟩ (w_X12_wrongPairing l D cI cS _ b L v hL hV x0) hKK hP hD hS hA 0 (ci := 12) rfl rfl (cwV 1 hts gX12_misses_X12_wrongPairing rfl rfl rfl (by decide +kernel) ⟨Nat.le_of_ble_eq_true rfl, Nat.le_of_ble_eq_true rfl⟩) rfl hl.1 rfl (Nat.le_of_ble_eq_true rfl) dX12_misses_2 ⟨Nat.le_of_ble_eq_true rfl, Nat.le_of_ble_eq_true rfl⟩ (fun r9731 v H locs hr9731 hP hD hS => ?_)
  have hV := hr9731.1
  refine lv_istore_n (lv' := [(2, .int r9731), (0, .ref (b 0)), (1, .int x0)]) hx hb dX12_misses_5 rfl hl (by decide) rfl (fun ls hl => ?_)
  refine lv_iload_n hx hb dX12_misses_6 rfl (lv_at hl 0 rfl) ?_
  refine lv_if_eq (tgt := 12) hx hb dX12_misses_7 (by decide) (fun c9732 => ?_) (fun c9732 => ?_)
  · have g9733 : Rg 0 3 x0 := (hr9731.2.2 c9732)
    have g9734 : Rg 0 0 r9731 := wk_eql hr9731.2.1 (by decide : Rg 0 0 (0 : Int32)) c9732 (by decide)
    refine lv_iconst (v := 0) hx hb dX12_misses_12 (by decide) ?_
    refine lv_istore_n (lv' := [(3, .int 0), (2, .int r9731), (0, .ref (b 0)), (1, .int x0)]) hx hb dX12_misses_13 rfl hl (by decide) rfl (fun ls hl => ?_)
    refine lv_iconst (v := 0) hx hb dX12_misses_14 (by decide) ?_
    refine lv_istore (lv' := [(4, .int 0), (3, .int 0), (2, .int r9731), (0, .ref (b 0)), (1, .int x0)]) hx hb dX12_misses_15 hl (by decide) rfl (fun ls hl => ?_)
    exact lp17 13 (0 : Int32) (0 : Int32) v _ _ ls (by decide : Rg 0 4095 (0 : Int32)) (by decide : Rg 0 12 (0 : Int32)) hV hP hD hS (lv_sub (l' := [(0, .ref (b 0)), (3, .int 0), (4, .int 0)]) hl [3, 1, 0] rfl) (me_i (by decide : Rg 0 12 (0 : Int32)) (by decide))
  · have g9735 : Rg (-11) (-1) r9731 := rg_ne_hi (k := 0) hr9731.2.1 (by decide) c9732 (by decide)
    refine lv_iload_n hx hb dX12_misses_10 rfl (lv_at hl 0 rfl) ?_
    subst hAe
    exact W.iret (v := r9731) hx hb hr (fun t ht hW => ⟨⟨_, v, rfl, ⟨hV, (show Rg (-11) 4095 r9731 from rg_w g9735 (by decide) (by decide)), trivial⟩, by rw [ht]; exact hP, hD⟩, hS.F ht⟩) hS.2.2 dX12_misses_11
set_option maxRecDepth 20000 in
theorem ggX12_chains_X12_bits : GoodIn wsX12_chains wsX12_bits := goodIn_r _ [28] rfl (by decide +kernel)
set_option maxRecDepth 20000 in
theorem gX12_chains_X12_bits : GoodIn wsX12_chains (va_wsS RX12 85 yX12_bits wsX12_bits) := goodIn_app (goodIn_of _ (by decide +kernel)) ggX12_chains_X12_bits
set_option maxRecDepth 20000 in
theorem ggX12_chains_X12_has : GoodIn wsX12_chains wsX12_has := goodIn_r _ [25] rfl (by decide +kernel)
set_option maxRecDepth 20000 in
theorem gX12_chains_X12_has : GoodIn wsX12_chains (va_wsS RX12 59 yX12_has wsX12_has) := goodIn_app (goodIn_of _ (by decide +kernel)) ggX12_chains_X12_has
set_option maxRecDepth 20000 in
theorem ggX12_chains_X12_wrongPairing : GoodIn wsX12_chains wsX12_wrongPairing := goodIn_r _ [15, 1, 16, 2, 17, 18, 4, 5, 6, 7, 8, 9, 10, 11, 19, 20, 21, 22, 23, 24, 25, 29, 30, 31, 32, 33, 34, 35, 36, 37, 38, 39, 40, 41, 42, 43, 44, 45, 46, 47, 48, 49, 50, 51, 52] rfl (by decide +kernel)
set_option maxRecDepth 20000 in
theorem gX12_chains_X12_wrongPairing : GoodIn wsX12_chains (wsV RX12 160 RX12 yX12_wrongPairing wsX12_wrongPairing) := goodIn_app (goodIn_of _ (by decide +kernel)) ggX12_chains_X12_wrongPairing
theorem dX12_chains_100 : decode cX12_chains 100 = .ok (.bipush (-3), 2) := by decide +kernel
theorem dX12_chains_102 : decode cX12_chains 102 = .ok (.ireturn, 1) := by decide +kernel
theorem dX12_chains_103 : decode cX12_chains 103 = .ok (.iconst 0, 1) := by decide +kernel
theorem dX12_chains_104 : decode cX12_chains 104 = .ok (.istore 4, 2) := by decide +kernel
theorem dX12_chains_106 : decode cX12_chains 106 = .ok (.iconst 0, 1) := by decide +kernel
theorem dX12_chains_107 : decode cX12_chains 107 = .ok (.istore 5, 2) := by decide +kernel
theorem dX12_chains_109 : decode cX12_chains 109 = .ok (.iload 5, 2) := by decide +kernel
theorem dX12_chains_111 : decode cX12_chains 111 = .ok (.aload_n 0, 1) := by decide +kernel
theorem dX12_chains_112 : decode cX12_chains 112 = .ok (.getfield 63, 3) := by decide +kernel
theorem dX12_chains_115 : decode cX12_chains 115 = .ok (.if_icmp .ge 39, 3) := by decide +kernel
theorem dX12_chains_118 : decode cX12_chains 118 = .ok (.iload 4, 2) := by decide +kernel
theorem dX12_chains_120 : decode cX12_chains 120 = .ok (.aload_n 0, 1) := by decide +kernel
theorem dX12_chains_121 : decode cX12_chains 121 = .ok (.getfield 26, 3) := by decide +kernel
theorem dX12_chains_124 : decode cX12_chains 124 = .ok (.iload 5, 2) := by decide +kernel
theorem dX12_chains_126 : decode cX12_chains 126 = .ok (.iaload, 1) := by decide +kernel
theorem dX12_chains_127 : decode cX12_chains 127 = .ok (.aload_n 0, 1) := by decide +kernel
theorem dX12_chains_128 : decode cX12_chains 128 = .ok (.getfield 32, 3) := by decide +kernel
theorem dX12_chains_131 : decode cX12_chains 131 = .ok (.iload 5, 2) := by decide +kernel
theorem dX12_chains_133 : decode cX12_chains 133 = .ok (.iaload, 1) := by decide +kernel
theorem dX12_chains_134 : decode cX12_chains 134 = .ok (.if_icmp .eq 10, 3) := by decide +kernel
theorem dX12_chains_137 : decode cX12_chains 137 = .ok (.iconst 1, 1) := by decide +kernel
theorem dX12_chains_138 : decode cX12_chains 138 = .ok (.iload 5, 2) := by decide +kernel
theorem dX12_chains_140 : decode cX12_chains 140 = .ok (.ishl, 1) := by decide +kernel
theorem dX12_chains_141 : decode cX12_chains 141 = .ok (.goto 4, 3) := by decide +kernel
theorem dX12_chains_144 : decode cX12_chains 144 = .ok (.iconst 0, 1) := by decide +kernel
theorem dX12_chains_145 : decode cX12_chains 145 = .ok (.ior, 1) := by decide +kernel
theorem dX12_chains_146 : decode cX12_chains 146 = .ok (.istore 4, 2) := by decide +kernel
theorem dX12_chains_148 : decode cX12_chains 148 = .ok (.iinc 5 1, 3) := by decide +kernel
theorem dX12_chains_151 : decode cX12_chains 151 = .ok (.goto (-42), 3) := by decide +kernel
theorem dX12_chains_154 : decode cX12_chains 154 = .ok (.iconst 0, 1) := by decide +kernel
theorem dX12_chains_155 : decode cX12_chains 155 = .ok (.istore 5, 2) := by decide +kernel
theorem dX12_chains_157 : decode cX12_chains 157 = .ok (.iconst 0, 1) := by decide +kernel
theorem dX12_chains_158 : decode cX12_chains 158 = .ok (.istore 6, 2) := by decide +kernel
theorem dX12_chains_160 : decode cX12_chains 160 = .ok (.iconst 0, 1) := by decide +kernel
theorem dX12_chains_161 : decode cX12_chains 161 = .ok (.istore 7, 2) := by decide +kernel
theorem dX12_chains_163 : decode cX12_chains 163 = .ok (.iload 4, 2) := by decide +kernel
theorem dX12_chains_165 : decode cX12_chains 165 = .ok (.ifCond .eq 228, 3) := by decide +kernel
theorem dX12_chains_168 : decode cX12_chains 168 = .ok (.iload 4, 2) := by decide +kernel
theorem dX12_chains_170 : decode cX12_chains 170 = .ok (.iload 4, 2) := by decide +kernel
theorem dX12_chains_172 : decode cX12_chains 172 = .ok (.ineg, 1) := by decide +kernel
theorem dX12_chains_173 : decode cX12_chains 173 = .ok (.iand, 1) := by decide +kernel
theorem dX12_chains_174 : decode cX12_chains 174 = .ok (.istore 8, 2) := by decide +kernel
theorem dX12_chains_176 : decode cX12_chains 176 = .ok (.iconst 0, 1) := by decide +kernel
theorem dX12_chains_177 : decode cX12_chains 177 = .ok (.istore 9, 2) := by decide +kernel
theorem dX12_chains_179 : decode cX12_chains 179 = .ok (.iconst 0, 1) := by decide +kernel
theorem dX12_chains_180 : decode cX12_chains 180 = .ok (.istore 10, 2) := by decide +kernel
theorem dX12_chains_182 : decode cX12_chains 182 = .ok (.iload 10, 2) := by decide +kernel
theorem dX12_chains_184 : decode cX12_chains 184 = .ok (.aload_n 0, 1) := by decide +kernel
theorem dX12_chains_185 : decode cX12_chains 185 = .ok (.getfield 63, 3) := by decide +kernel
theorem dX12_chains_188 : decode cX12_chains 188 = .ok (.if_icmp .ge 148, 3) := by decide +kernel
theorem dX12_chains_191 : decode cX12_chains 191 = .ok (.iconst 0, 1) := by decide +kernel
theorem dX12_chains_192 : decode cX12_chains 192 = .ok (.istore 9, 2) := by decide +kernel
theorem dX12_chains_194 : decode cX12_chains 194 = .ok (.iconst 0, 1) := by decide +kernel
theorem dX12_chains_195 : decode cX12_chains 195 = .ok (.istore 11, 2) := by decide +kernel
theorem dX12_chains_197 : decode cX12_chains 197 = .ok (.iload 11, 2) := by decide +kernel
theorem dX12_chains_199 : decode cX12_chains 199 = .ok (.aload_n 0, 1) := by decide +kernel
theorem dX12_chains_200 : decode cX12_chains 200 = .ok (.getfield 63, 3) := by decide +kernel
theorem dX12_chains_203 : decode cX12_chains 203 = .ok (.if_icmp .ge 127, 3) := by decide +kernel
theorem dX12_chains_206 : decode cX12_chains 206 = .ok (.iload 8, 2) := by decide +kernel
theorem dX12_chains_208 : decode cX12_chains 208 = .ok (.iload 11, 2) := by decide +kernel
theorem dX12_chains_210 : decode cX12_chains 210 = .ok (.invokestatic 59, 3) := by decide +kernel
theorem dX12_chains_213 : decode cX12_chains 213 = .ok (.ifCond .eq 111, 3) := by decide +kernel
theorem dX12_chains_216 : decode cX12_chains 216 = .ok (.aload_n 0, 1) := by decide +kernel
theorem dX12_chains_217 : decode cX12_chains 217 = .ok (.getfield 26, 3) := by decide +kernel
theorem dX12_chains_220 : decode cX12_chains 220 = .ok (.iload 11, 2) := by decide +kernel
theorem dX12_chains_222 : decode cX12_chains 222 = .ok (.iaload, 1) := by decide +kernel
theorem dX12_chains_223 : decode cX12_chains 223 = .ok (.aload_n 0, 1) := by decide +kernel
theorem dX12_chains_224 : decode cX12_chains 224 = .ok (.getfield 32, 3) := by decide +kernel
theorem dX12_chains_227 : decode cX12_chains 227 = .ok (.iload 11, 2) := by decide +kernel
theorem dX12_chains_229 : decode cX12_chains 229 = .ok (.iaload, 1) := by decide +kernel
theorem dX12_chains_230 : decode cX12_chains 230 = .ok (.if_icmp .ne 6, 3) := by decide +kernel
theorem dX12_chains_233 : decode cX12_chains 233 = .ok (.goto 91, 3) := by decide +kernel
theorem dX12_chains_236 : decode cX12_chains 236 = .ok (.aload_n 0, 1) := by decide +kernel
theorem dX12_chains_237 : decode cX12_chains 237 = .ok (.getfield 26, 3) := by decide +kernel
theorem dX12_chains_240 : decode cX12_chains 240 = .ok (.iload 11, 2) := by decide +kernel
theorem dX12_chains_242 : decode cX12_chains 242 = .ok (.iaload, 1) := by decide +kernel
theorem dX12_chains_243 : decode cX12_chains 243 = .ok (.iconst (-1), 1) := by decide +kernel
theorem dX12_chains_244 : decode cX12_chains 244 = .ok (.if_icmp .eq 17, 3) := by decide +kernel
theorem dX12_chains_247 : decode cX12_chains 247 = .ok (.iload 8, 2) := by decide +kernel
theorem dX12_chains_249 : decode cX12_chains 249 = .ok (.iconst 1, 1) := by decide +kernel
theorem dX12_chains_250 : decode cX12_chains 250 = .ok (.aload_n 0, 1) := by decide +kernel
theorem dX12_chains_251 : decode cX12_chains 251 = .ok (.getfield 26, 3) := by decide +kernel
theorem dX12_chains_254 : decode cX12_chains 254 = .ok (.iload 11, 2) := by decide +kernel
theorem dX12_chains_256 : decode cX12_chains 256 = .ok (.iaload, 1) := by decide +kernel
theorem dX12_chains_257 : decode cX12_chains 257 = .ok (.ishl, 1) := by decide +kernel
theorem dX12_chains_258 : decode cX12_chains 258 = .ok (.ior, 1) := by decide +kernel
theorem dX12_chains_259 : decode cX12_chains 259 = .ok (.istore 8, 2) := by decide +kernel
theorem dX12_chains_261 : decode cX12_chains 261 = .ok (.aload_n 0, 1) := by decide +kernel
theorem dX12_chains_262 : decode cX12_chains 262 = .ok (.getfield 32, 3) := by decide +kernel
theorem dX12_chains_265 : decode cX12_chains 265 = .ok (.iload 11, 2) := by decide +kernel
theorem dX12_chains_267 : decode cX12_chains 267 = .ok (.iaload, 1) := by decide +kernel
theorem dX12_chains_268 : decode cX12_chains 268 = .ok (.iconst (-1), 1) := by decide +kernel
theorem dX12_chains_269 : decode cX12_chains 269 = .ok (.if_icmp .eq 17, 3) := by decide +kernel
theorem dX12_chains_272 : decode cX12_chains 272 = .ok (.iload 8, 2) := by decide +kernel
theorem dX12_chains_274 : decode cX12_chains 274 = .ok (.iconst 1, 1) := by decide +kernel
theorem dX12_chains_275 : decode cX12_chains 275 = .ok (.aload_n 0, 1) := by decide +kernel
theorem dX12_chains_276 : decode cX12_chains 276 = .ok (.getfield 32, 3) := by decide +kernel
theorem dX12_chains_279 : decode cX12_chains 279 = .ok (.iload 11, 2) := by decide +kernel
theorem dX12_chains_281 : decode cX12_chains 281 = .ok (.iaload, 1) := by decide +kernel
theorem dX12_chains_282 : decode cX12_chains 282 = .ok (.ishl, 1) := by decide +kernel
theorem dX12_chains_283 : decode cX12_chains 283 = .ok (.ior, 1) := by decide +kernel
theorem dX12_chains_284 : decode cX12_chains 284 = .ok (.istore 8, 2) := by decide +kernel
theorem dX12_chains_286 : decode cX12_chains 286 = .ok (.iload 9, 2) := by decide +kernel
theorem dX12_chains_288 : decode cX12_chains 288 = .ok (.aload_n 0, 1) := by decide +kernel
theorem dX12_chains_289 : decode cX12_chains 289 = .ok (.getfield 26, 3) := by decide +kernel
theorem dX12_chains_292 : decode cX12_chains 292 = .ok (.iload 11, 2) := by decide +kernel
theorem dX12_chains_294 : decode cX12_chains 294 = .ok (.iaload, 1) := by decide +kernel
theorem dX12_chains_295 : decode cX12_chains 295 = .ok (.iconst (-1), 1) := by decide +kernel
theorem dX12_chains_296 : decode cX12_chains 296 = .ok (.if_icmp .eq 7, 3) := by decide +kernel
theorem dX12_chains_299 : decode cX12_chains 299 = .ok (.iconst 1, 1) := by decide +kernel
theorem dX12_chains_300 : decode cX12_chains 300 = .ok (.goto 4, 3) := by decide +kernel
theorem dX12_chains_303 : decode cX12_chains 303 = .ok (.iconst 0, 1) := by decide +kernel
theorem dX12_chains_304 : decode cX12_chains 304 = .ok (.aload_n 0, 1) := by decide +kernel
theorem dX12_chains_305 : decode cX12_chains 305 = .ok (.getfield 32, 3) := by decide +kernel
theorem dX12_chains_308 : decode cX12_chains 308 = .ok (.iload 11, 2) := by decide +kernel
theorem dX12_chains_310 : decode cX12_chains 310 = .ok (.iaload, 1) := by decide +kernel
theorem dX12_chains_311 : decode cX12_chains 311 = .ok (.iconst (-1), 1) := by decide +kernel
theorem dX12_chains_312 : decode cX12_chains 312 = .ok (.if_icmp .eq 7, 3) := by decide +kernel
theorem dX12_chains_315 : decode cX12_chains 315 = .ok (.iconst 1, 1) := by decide +kernel
theorem dX12_chains_316 : decode cX12_chains 316 = .ok (.goto 4, 3) := by decide +kernel
theorem dX12_chains_319 : decode cX12_chains 319 = .ok (.iconst 0, 1) := by decide +kernel
theorem dX12_chains_320 : decode cX12_chains 320 = .ok (.iadd, 1) := by decide +kernel
theorem dX12_chains_321 : decode cX12_chains 321 = .ok (.iadd, 1) := by decide +kernel
theorem dX12_chains_322 : decode cX12_chains 322 = .ok (.istore 9, 2) := by decide +kernel
theorem dX12_chains_324 : decode cX12_chains 324 = .ok (.iinc 11 1, 3) := by decide +kernel
theorem dX12_chains_327 : decode cX12_chains 327 = .ok (.goto (-130), 3) := by decide +kernel
theorem dX12_chains_330 : decode cX12_chains 330 = .ok (.iinc 10 1, 3) := by decide +kernel
theorem dX12_chains_333 : decode cX12_chains 333 = .ok (.goto (-151), 3) := by decide +kernel
theorem dX12_chains_336 : decode cX12_chains 336 = .ok (.iload 9, 2) := by decide +kernel
theorem dX12_chains_338 : decode cX12_chains 338 = .ok (.iconst 2, 1) := by decide +kernel
theorem dX12_chains_339 : decode cX12_chains 339 = .ok (.idiv, 1) := by decide +kernel
theorem dX12_chains_340 : decode cX12_chains 340 = .ok (.istore 10, 2) := by decide +kernel
theorem dX12_chains_342 : decode cX12_chains 342 = .ok (.iinc 5 1, 3) := by decide +kernel
theorem dX12_chains_345 : decode cX12_chains 345 = .ok (.iload 10, 2) := by decide +kernel
theorem dX12_chains_347 : decode cX12_chains 347 = .ok (.iload 6, 2) := by decide +kernel
theorem dX12_chains_349 : decode cX12_chains 349 = .ok (.if_icmp .le 8, 3) := by decide +kernel
theorem dX12_chains_352 : decode cX12_chains 352 = .ok (.iload 10, 2) := by decide +kernel
theorem dX12_chains_354 : decode cX12_chains 354 = .ok (.goto 5, 3) := by decide +kernel
theorem dX12_chains_357 : decode cX12_chains 357 = .ok (.iload 6, 2) := by decide +kernel
theorem dX12_chains_359 : decode cX12_chains 359 = .ok (.istore 6, 2) := by decide +kernel
theorem dX12_chains_36 : decode cX12_chains 36 = .ok (.aload_n 0, 1) := by decide +kernel
theorem dX12_chains_361 : decode cX12_chains 361 = .ok (.iload 7, 2) := by decide +kernel
theorem dX12_chains_363 : decode cX12_chains 363 = .ok (.iload 10, 2) := by decide +kernel
theorem dX12_chains_365 : decode cX12_chains 365 = .ok (.iload 8, 2) := by decide +kernel
theorem dX12_chains_367 : decode cX12_chains 367 = .ok (.invokestatic 85, 3) := by decide +kernel
theorem dX12_chains_37 : decode cX12_chains 37 = .ok (.getfield 38, 3) := by decide +kernel
theorem dX12_chains_370 : decode cX12_chains 370 = .ok (.if_icmp .ne 7, 3) := by decide +kernel
theorem dX12_chains_373 : decode cX12_chains 373 = .ok (.iconst 1, 1) := by decide +kernel
theorem dX12_chains_374 : decode cX12_chains 374 = .ok (.goto 4, 3) := by decide +kernel
theorem dX12_chains_377 : decode cX12_chains 377 = .ok (.iconst 0, 1) := by decide +kernel
theorem dX12_chains_378 : decode cX12_chains 378 = .ok (.iadd, 1) := by decide +kernel
theorem dX12_chains_379 : decode cX12_chains 379 = .ok (.istore 7, 2) := by decide +kernel
theorem dX12_chains_381 : decode cX12_chains 381 = .ok (.iload 4, 2) := by decide +kernel
theorem dX12_chains_383 : decode cX12_chains 383 = .ok (.iload 8, 2) := by decide +kernel
theorem dX12_chains_385 : decode cX12_chains 385 = .ok (.iconst (-1), 1) := by decide +kernel
theorem dX12_chains_386 : decode cX12_chains 386 = .ok (.ixor, 1) := by decide +kernel
theorem dX12_chains_387 : decode cX12_chains 387 = .ok (.iand, 1) := by decide +kernel
theorem dX12_chains_388 : decode cX12_chains 388 = .ok (.istore 4, 2) := by decide +kernel
theorem dX12_chains_390 : decode cX12_chains 390 = .ok (.goto (-227), 3) := by decide +kernel
theorem dX12_chains_393 : decode cX12_chains 393 = .ok (.iload_n 3, 1) := by decide +kernel
theorem dX12_chains_394 : decode cX12_chains 394 = .ok (.ifCond .ne 8, 3) := by decide +kernel
theorem dX12_chains_397 : decode cX12_chains 397 = .ok (.iload 5, 2) := by decide +kernel
theorem dX12_chains_399 : decode cX12_chains 399 = .ok (.goto 15, 3) := by decide +kernel
theorem dX12_chains_40 : decode cX12_chains 40 = .ok (.iload_n 2, 1) := by decide +kernel
theorem dX12_chains_402 : decode cX12_chains 402 = .ok (.iload_n 3, 1) := by decide +kernel
theorem dX12_chains_403 : decode cX12_chains 403 = .ok (.iconst 1, 1) := by decide +kernel
theorem dX12_chains_404 : decode cX12_chains 404 = .ok (.if_icmp .ne 8, 3) := by decide +kernel
theorem dX12_chains_407 : decode cX12_chains 407 = .ok (.iload 6, 2) := by decide +kernel
theorem dX12_chains_409 : decode cX12_chains 409 = .ok (.goto 5, 3) := by decide +kernel
theorem dX12_chains_41 : decode cX12_chains 41 = .ok (.iaload, 1) := by decide +kernel
theorem dX12_chains_412 : decode cX12_chains 412 = .ok (.iload 7, 2) := by decide +kernel
theorem dX12_chains_414 : decode cX12_chains 414 = .ok (.ireturn, 1) := by decide +kernel
theorem dX12_chains_42 : decode cX12_chains 42 = .ok (.iconst (-1), 1) := by decide +kernel
theorem dX12_chains_43 : decode cX12_chains 43 = .ok (.if_icmp .ne 6, 3) := by decide +kernel
theorem dX12_chains_49 : decode cX12_chains 49 = .ok (.aload_n 0, 1) := by decide +kernel
theorem dX12_chains_50 : decode cX12_chains 50 = .ok (.iload_n 1, 1) := by decide +kernel
theorem dX12_chains_51 : decode cX12_chains 51 = .ok (.invokevirtual 160, 3) := by decide +kernel
theorem dX12_chains_54 : decode cX12_chains 54 = .ok (.ifCond .eq 6, 3) := by decide +kernel
theorem dX12_chains_57 : decode cX12_chains 57 = .ok (.bipush (-3), 2) := by decide +kernel
theorem dX12_chains_59 : decode cX12_chains 59 = .ok (.ireturn, 1) := by decide +kernel
theorem dX12_chains_60 : decode cX12_chains 60 = .ok (.iconst 0, 1) := by decide +kernel
theorem dX12_chains_61 : decode cX12_chains 61 = .ok (.istore 4, 2) := by decide +kernel
theorem dX12_chains_63 : decode cX12_chains 63 = .ok (.iload 4, 2) := by decide +kernel
theorem dX12_chains_65 : decode cX12_chains 65 = .ok (.aload_n 0, 1) := by decide +kernel
theorem dX12_chains_66 : decode cX12_chains 66 = .ok (.getfield 63, 3) := by decide +kernel
theorem dX12_chains_69 : decode cX12_chains 69 = .ok (.if_icmp .ge 23, 3) := by decide +kernel
theorem dX12_chains_72 : decode cX12_chains 72 = .ok (.aload_n 0, 1) := by decide +kernel
theorem dX12_chains_73 : decode cX12_chains 73 = .ok (.getfield 32, 3) := by decide +kernel
theorem dX12_chains_76 : decode cX12_chains 76 = .ok (.iload 4, 2) := by decide +kernel
theorem dX12_chains_78 : decode cX12_chains 78 = .ok (.aload_n 0, 1) := by decide +kernel
theorem dX12_chains_79 : decode cX12_chains 79 = .ok (.getfield 26, 3) := by decide +kernel
theorem dX12_chains_82 : decode cX12_chains 82 = .ok (.iload 4, 2) := by decide +kernel
theorem dX12_chains_84 : decode cX12_chains 84 = .ok (.iaload, 1) := by decide +kernel
theorem dX12_chains_85 : decode cX12_chains 85 = .ok (.iastore, 1) := by decide +kernel
theorem dX12_chains_86 : decode cX12_chains 86 = .ok (.iinc 4 1, 3) := by decide +kernel
theorem dX12_chains_89 : decode cX12_chains 89 = .ok (.goto (-26), 3) := by decide +kernel
theorem dX12_chains_92 : decode cX12_chains 92 = .ok (.aload_n 0, 1) := by decide +kernel
theorem dX12_chains_93 : decode cX12_chains 93 = .ok (.iload_n 2, 1) := by decide +kernel
theorem dX12_chains_94 : decode cX12_chains 94 = .ok (.invokevirtual 160, 3) := by decide +kernel
theorem dX12_chains_97 : decode cX12_chains 97 = .ok (.ifCond .eq 6, 3) := by decide +kernel
set_option maxHeartbeats 4000000 in
set_option maxRecDepth 100000 in
theorem w_X12_chains (l : Launch) (D : va_G) (cI cS : ClassId) (sz : Nat) (b : Nat → Nat) (L v0 : SU) (hL : TyL L) (hV : TyV v0) (x0 x1 x2 : Int32) : Met l yX12_chains wsX12_chains ({ frames := 3, cells := 0, slots := 0, locals := 120 }) (PQ D cI cS (wM cI b L v0) sz [.ref (b 0), .int x0, .int x1, .int x2]) (QF (S := SU) D (wM cI b L v0) (wM cI b L) sz (fun r u => TyV u ∧ Rg (-2147483648) 2147483647 r ∧ True)) 0 0 (va_A (wM cI b L v0) sz) := by
  refine Met.ofW (cc := cX12_chains) (maxL := 12) (ret := (some .int)) (by decide) rfl ?_
  intro p e s m args below meth c s₁ B hml hv
  obtain ⟨rfl, hsz, hP, hKK, hD0⟩ := hv
  have hx := B.exec
  have hb := B.bytes
  have hr := B.returns
  have hts := atoms_spec (ws := wsX12_chains) B.pre
  have hown : s.vm.findClass RX12 = some m.cls := findClass_of_methodNamed B.named
  have hlocks := B.notSynchronized
  have hK := hKK.1
  have hin12 : ∀ w ∈ wsX120, w ∈ wsX12_chains := by decide +kernel
  subst hsz
  have hD := hD0.self (sz := s.heap.size)
  obtain ⟨A, hAe⟩ : ∃ A, A = va_A (wM cI b L v0) s.heap.size := ⟨_, rfl⟩
  rw [← hAe] at hD
  have hA : ∀ q : Nat, s.heap.size ≤ q → A q := fun q h => by rw [hAe]; exact Or.inr h
  have hS : va_S A s.heap s.heap [] := va_S.rf
  have hl := lv_entry ([.ref (b 0), .int x0, .int x1, .int x2]) (n := 12) (Nat.le_of_ble_eq_true rfl)
  rw [lg_entry_eq]
  generalize (lg_sl ([.ref (b 0), .int x0, .int x1, .int x2]) ++ List.replicate (12 - (lg_sl ([.ref (b 0), .int x0, .int x1, .int x2])).length) Slot.unset).toArray = ls at hl ⊢
  have hl : lv_has ls 12 [(0, .ref (b 0)), (1, .int x0), (2, .int x1), (3, .int x2)] := hl
  obtain ⟨v, hv9⟩ : ∃ v : SU, v = v0 := ⟨_, rfl⟩
  rw [← hv9] at hP hD hV
  have lp163 : ∀ (n163 : Nat) (y163_l4 : Int32) (y163_l5 : Int32) (y163_l6 : Int32) (y163_l7 : Int32) (v : SU) (H : Heap) (locs : List Loc) (ls : Array Slot), Rg 0 2 x2 → Rg 0 4095 y163_l4 → Rg 0 2147483647 y163_l6 → TyV v → va_P D cls (wM cI b L v) H → va_D A (wM cI b L v) → va_S A s.heap H locs → lv_has ls 12 [(0, .ref (b 0)), (3, .int x2), (4, .int y163_l4), (5, .int y163_l5), (6, .int y163_l6), (7, .int y163_l7)] → y163_l4.toInt < (n163 : Int) → W p l e (headSpec wsX12_chains ({ frames := 3, cells := 0, slots := 0, locals := 120 })).room s m ([.ref (b 0), .int x0, .int x1, .int x2]).toArray below meth c H locs 0 0 (MQ below (QF (S := SU) D (wM cI b L v0) (wM cI b L) s.heap.size (fun r u => TyV u ∧ Rg (-2147483648) 2147483647 r ∧ True)) ([.ref (b 0), .int x0, .int x1, .int x2]).toArray s 0 0 (va_A (wM cI b L v0) s.heap.size)) (F0 m 163 ls []) := by
    intro n163
    induction n163 with
    | zero =>
      intro y163_l4 y163_l5 y163_l6 y163_l7 v H locs ls g163_l3 g163_l4 g163_l6 hV hP hD hS hl hm163
      exact absurd rfl (me_0 g163_l4 (by decide) hm163)
    | succ n163 ih163 =>
      intro y163_l4 y163_l5 y163_l6 y163_l7 v H locs ls g163_l3 g163_l4 g163_l6 hV hP hD hS hl hm163
      have ct359 : ∀ (y359_l5 : Int32) (y359_l8 : Int32) (y359_l10 : Int32) (y359_s0 : Int32) (v : SU) (H : Heap) (locs : List Loc) (ls : Array Slot), Rg 0 2 x2 → Rg 1 4095 y163_l4 → Rg 0 2147483647 y359_s0 → (y163_l4 &&& -y163_l4) &&& y359_l8 = y163_l4 &&& -y163_l4 → TyV v → va_P D cls (wM cI b L v) H → va_D A (wM cI b L v) → va_S A s.heap H locs → lv_has ls 12 [(0, .ref (b 0)), (3, .int x2), (4, .int y163_l4), (5, .int y359_l5), (7, .int y163_l7), (8, .int y359_l8), (10, .int y359_l10)] → W p l e (headSpec wsX12_chains ({ frames := 3, cells := 0, slots := 0, locals := 120 })).room s m ([.ref (b 0), .int x0, .int x1, .int x2]).toArray below meth c H locs 0 0 (MQ below (QF (S := SU) D (wM cI b L v0) (wM cI b L) s.heap.size (fun r u => TyV u ∧ Rg (-2147483648) 2147483647 r ∧ True)) ([.ref (b 0), .int x0, .int x1, .int x2]).toArray s 0 0 (va_A (wM cI b L v0) s.heap.size)) (F0 m 359 ls [.int y359_s0]) := by
        intro y359_l5 y359_l8 y359_l10 y359_s0 v H locs ls g359_l3 g359_l4 g359_s0 x359_0 hV hP hD hS hl
        refine lv_istore (lv' := [(6, .int y359_s0), (0, .ref (b 0)), (3, .int x2), (4, .int y163_l4), (5, .int y359_l5), (7, .int y163_l7), (8, .int y359_l8), (10, .int y359_l10)]) hx hb dX12_chains_359 hl (by decide) rfl (fun ls hl => ?_)
        refine lv_iload hx hb dX12_chains_361 (lv_at hl 5 rfl) ?_
        refine lv_iload hx hb dX12_chains_363 (lv_at hl 7 rfl) ?_
        refine lv_iload hx hb dX12_chains_365 (lv_at hl 6 rfl) ?_
        refine lz_ss (As := [.int y359_l8]) (rest := [.int y359_l10, .int y163_l7]) ⟨hx, hb, hml, hown, hts⟩ (w_X12_bits l D cI cS y359_l8) hKK (hP.sub (ws' := []) [] rfl) (va_cwS 1 hts gX12_chains_X12_bits rfl rfl rfl (by decide +kernel) ⟨Nat.le_of_ble_eq_true rfl, Nat.le_of_ble_eq_true rfl⟩) rfl hl.1 rfl (Nat.le_of_ble_eq_true rfl) dX12_chains_367 ⟨Nat.le_of_ble_eq_true rfl, Nat.le_of_ble_eq_true rfl⟩ (fun r16526 hr16526 => ?_)
        refine lv_icmp_ne (tgt := 377) hx hb dX12_chains_370 (by decide) (fun c16527 => ?_) (fun c16527 => ?_)
        · refine lv_iconst (v := 0) hx hb dX12_chains_377 (by decide) ?_
          refine wk_iadd (e1 := (-2147483648)) (f := 2147483647) hx hb dX12_chains_378 (rg_any y163_l7) (by decide : Rg 0 0 (0 : Int32)) (by decide) (fun r16528 hr16528 er16528 qr16528 => ?_)
          refine lv_istore (lv' := [(7, .int r16528), (6, .int y359_s0), (0, .ref (b 0)), (3, .int x2), (4, .int y163_l4), (5, .int y359_l5), (8, .int y359_l8), (10, .int y359_l10)]) hx hb dX12_chains_379 hl (by decide) rfl (fun ls hl => ?_)
          refine lv_iload hx hb dX12_chains_381 (lv_at hl 4 rfl) ?_
          refine lv_iload hx hb dX12_chains_383 (lv_at hl 6 rfl) ?_
          refine lv_iconst (v := (-1)) hx hb dX12_chains_385 (by decide) ?_
          refine lv_ixor hx hb dX12_chains_386 ?_
          refine wk_topP (P := fun r => r = y359_l8 ^^^ ((-1) : Int32)) rfl (fun r16529 qr16529 => ?_)
          refine wk_iandl hx hb dX12_chains_387 g359_l4 (by decide) (fun r16530 hr16530 qr16530 => ?_)
          refine lv_istore (lv' := [(4, .int r16530), (7, .int r16528), (6, .int y359_s0), (0, .ref (b 0)), (3, .int x2), (5, .int y359_l5), (8, .int y359_l8), (10, .int y359_l10)]) hx hb dX12_chains_388 hl (by decide) rfl (fun ls hl => ?_)
          refine lv_goto (tgt := 163) hx hb dX12_chains_390 (by decide) ?_
          exact ih163 r16530 y359_l5 y359_s0 r16528 v _ _ ls g359_l3 hr16530 g359_s0 hV hP hD hS (lv_sub (l' := [(0, .ref (b 0)), (3, .int x2), (4, .int r16530), (5, .int y359_l5), (6, .int y359_s0), (7, .int r16528)]) hl [3, 4, 0, 5, 2, 1] rfl) (me_lt hm163 (by rw [qr16530, qr16529]; exact an_piece g359_l4 x359_0))
        · refine lv_iconst (v := 1) hx hb dX12_chains_373 (by decide) ?_
          refine lv_goto (tgt := 378) hx hb dX12_chains_374 (by decide) ?_
          refine lv_iadd hx hb dX12_chains_378 ?_
          refine wk_topP (P := fun r => r = y163_l7 + (1 : Int32)) rfl (fun r16531 qr16531 => ?_)
          refine lv_istore (lv' := [(7, .int r16531), (6, .int y359_s0), (0, .ref (b 0)), (3, .int x2), (4, .int y163_l4), (5, .int y359_l5), (8, .int y359_l8), (10, .int y359_l10)]) hx hb dX12_chains_379 hl (by decide) rfl (fun ls hl => ?_)
          refine lv_iload hx hb dX12_chains_381 (lv_at hl 4 rfl) ?_
          refine lv_iload hx hb dX12_chains_383 (lv_at hl 6 rfl) ?_
          refine lv_iconst (v := (-1)) hx hb dX12_chains_385 (by decide) ?_
          refine lv_ixor hx hb dX12_chains_386 ?_
          refine wk_topP (P := fun r => r = y359_l8 ^^^ ((-1) : Int32)) rfl (fun r16532 qr16532 => ?_)
          refine wk_iandl hx hb dX12_chains_387 g359_l4 (by decide) (fun r16533 hr16533 qr16533 => ?_)
          refine lv_istore (lv' := [(4, .int r16533), (7, .int r16531), (6, .int y359_s0), (0, .ref (b 0)), (3, .int x2), (5, .int y359_l5), (8, .int y359_l8), (10, .int y359_l10)]) hx hb dX12_chains_388 hl (by decide) rfl (fun ls hl => ?_)
          refine lv_goto (tgt := 163) hx hb dX12_chains_390 (by decide) ?_
          exact ih163 r16533 y359_l5 y359_s0 r16531 v _ _ ls g359_l3 hr16533 g359_s0 hV hP hD hS (lv_sub (l' := [(0, .ref (b 0)), (3, .int x2), (4, .int r16533), (5, .int y359_l5), (6, .int y359_s0), (7, .int r16531)]) hl [3, 4, 0, 5, 2, 1] rfl) (me_lt hm163 (by rw [qr16533, qr16532]; exact an_piece g359_l4 x359_0))
      have lp182 : ∀ (n182 : Nat) (y182_l8 : Int32) (y182_l9 : Int32) (y182_l10 : Int32) (v : SU) (H : Heap) (locs : List Loc) (ls : Array Slot), Rg 0 2 x2 → Rg 1 4095 y163_l4 → Rg 0 2147483647 y163_l6 → Rg 0 12 y182_l10 → (y163_l4 &&& -y163_l4) &&& y182_l8 = y163_l4 &&& -y163_l4 → TyV v → va_P D cls (wM cI b L v) H → va_D A (wM cI b L v) → va_S A s.heap H locs → lv_has ls 12 [(0, .ref (b 0)), (3, .int x2), (4, .int y163_l4), (5, .int y163_l5), (6, .int y163_l6), (7, .int y163_l7), (8, .int y182_l8), (9, .int y182_l9), (10, .int y182_l10)] → 12 - y182_l10.toInt < (n182 : Int) → W p l e (headSpec wsX12_chains ({ frames := 3, cells := 0, slots := 0, locals := 120 })).room s m ([.ref (b 0), .int x0, .int x1, .int x2]).toArray below meth c H locs 0 0 (MQ below (QF (S := SU) D (wM cI b L v0) (wM cI b L) s.heap.size (fun r u => TyV u ∧ Rg (-2147483648) 2147483647 r ∧ True)) ([.ref (b 0), .int x0, .int x1, .int x2]).toArray s 0 0 (va_A (wM cI b L v0) s.heap.size)) (F0 m 182 ls []) := by
        intro n182
        induction n182 with
        | zero =>
          intro y182_l8 y182_l9 y182_l10 v H locs ls g182_l3 g182_l4 g182_l6 g182_l10 x182_0 hV hP hD hS hl hm182
          exact absurd rfl (me_z g182_l10 hm182)
        | succ n182 ih182 =>
          intro y182_l8 y182_l9 y182_l10 v H locs ls g182_l3 g182_l4 g182_l6 g182_l10 x182_0 hV hP hD hS hl hm182
          have lp197 : ∀ (n197 : Nat) (y197_l8 : Int32) (y197_l9 : Int32) (y197_l11 : Int32) (v : SU) (H : Heap) (locs : List Loc) (ls : Array Slot), Rg 0 2 x2 → Rg 1 4095 y163_l4 → Rg 0 2147483647 y163_l6 → Rg 0 11 y182_l10 → Rg 0 12 y197_l11 → (y163_l4 &&& -y163_l4) &&& y197_l8 = y163_l4 &&& -y163_l4 → TyV v → va_P D cls (wM cI b L v) H → va_D A (wM cI b L v) → va_S A s.heap H locs → lv_has ls 12 [(0, .ref (b 0)), (3, .int x2), (4, .int y163_l4), (5, .int y163_l5), (6, .int y163_l6), (7, .int y163_l7), (8, .int y197_l8), (9, .int y197_l9), (10, .int y182_l10), (11, .int y197_l11)] → 12 - y197_l11.toInt < (n197 : Int) → W p l e (headSpec wsX12_chains ({ frames := 3, cells := 0, slots := 0, locals := 120 })).room s m ([.ref (b 0), .int x0, .int x1, .int x2]).toArray below meth c H locs 0 0 (MQ below (QF (S := SU) D (wM cI b L v0) (wM cI b L) s.heap.size (fun r u => TyV u ∧ Rg (-2147483648) 2147483647 r ∧ True)) ([.ref (b 0), .int x0, .int x1, .int x2]).toArray s 0 0 (va_A (wM cI b L v0) s.heap.size)) (F0 m 197 ls []) := by
            intro n197
            induction n197 with
            | zero =>
              intro y197_l8 y197_l9 y197_l11 v H locs ls g197_l3 g197_l4 g197_l6 g197_l10 g197_l11 x197_0 hV hP hD hS hl hm197
              exact absurd rfl (me_z g197_l11 hm197)
            | succ n197 ih197 =>
              intro y197_l8 y197_l9 y197_l11 v H locs ls g197_l3 g197_l4 g197_l6 g197_l10 g197_l11 x197_0 hV hP hD hS hl hm197
              have ct304 : ∀ (y304_l8 : Int32) (y304_s0 : Int32) (v : SU) (H : Heap) (locs : List Loc) (ls : Array Slot), Rg 0 2 x2 → Rg 1 4095 y163_l4 → Rg 0 2147483647 y163_l6 → Rg 0 11 y182_l10 → Rg 0 11 y197_l11 → Rg 0 1 y304_s0 → (y163_l4 &&& -y163_l4) &&& y304_l8 = y163_l4 &&& -y163_l4 → TyV v → va_P D cls (wM cI b L v) H → va_D A (wM cI b L v) → va_S A s.heap H locs → lv_has ls 12 [(0, .ref (b 0)), (3, .int x2), (4, .int y163_l4), (5, .int y163_l5), (6, .int y163_l6), (7, .int y163_l7), (8, .int y304_l8), (10, .int y182_l10), (11, .int y197_l11)] → W p l e (headSpec wsX12_chains ({ frames := 3, cells := 0, slots := 0, locals := 120 })).room s m ([.ref (b 0), .int x0, .int x1, .int x2]).toArray below meth c H locs 0 0 (MQ below (QF (S := SU) D (wM cI b L v0) (wM cI b L) s.heap.size (fun r u => TyV u ∧ Rg (-2147483648) 2147483647 r ∧ True)) ([.ref (b 0), .int x0, .int x1, .int x2]).toArray s 0 0 (va_A (wM cI b L v0) s.heap.size)) (F0 m 304 ls [.int y304_s0, .int y197_l9]) := by
                intro y304_l8 y304_s0 v H locs ls g304_l3 g304_l4 g304_l6 g304_l10 g304_l11 g304_s0 x304_0 hV hP hD hS hl
                refine lv_aload_n hx hb dX12_chains_304 rfl (lv_at hl 0 rfl) ?_
                refine va_get (D := D) (ci := 12) (v := .ref (b 7)) (C := RX12) (T := TX12) (N := 24) hx hb hts hin12 hown hK hP 0 rfl rfl 8 (by decide) (hts (.fieldLink RX12 32 "MissedPointsModel" "others" "[I") (by decide +kernel)) (fun _ h9 => h9) rfl dX12_chains_305 ?_
                refine lv_iload hx hb dX12_chains_308 (lv_at hl 8 rfl) ?_
                refine wk_aldA hx hb hK hP 7 0 rfl rfl (rg_in g304_l11 (by decide) (by decide)) dX12_chains_310 (fun r16534 => ?_)
                refine lv_iconst (v := (-1)) hx hb dX12_chains_311 (by decide) ?_
                refine lv_icmp_eq (tgt := 319) hx hb dX12_chains_312 (by decide) (fun c16535 => ?_) (fun c16535 => ?_)
                · have g16536 : Rg (-1) (-1) r16534 := wk_eql (rg_any r16534) (by decide : Rg (-1) (-1) ((-1) : Int32)) c16535 (by decide)
                  refine lv_iconst (v := 0) hx hb dX12_chains_319 (by decide) ?_
                  refine wk_iadd (e1 := 0) (f := 1) hx hb dX12_chains_320 g304_s0 (by decide : Rg 0 0 (0 : Int32)) (by decide) (fun r16537 hr16537 er16537 qr16537 => ?_)
                  refine lv_iadd hx hb dX12_chains_321 ?_
                  refine wk_topP (P := fun r => r = y197_l9 + r16537) rfl (fun r16538 qr16538 => ?_)
                  refine lv_istore (lv' := [(9, .int r16538), (0, .ref (b 0)), (3, .int x2), (4, .int y163_l4), (5, .int y163_l5), (6, .int y163_l6), (7, .int y163_l7), (8, .int y304_l8), (10, .int y182_l10), (11, .int y197_l11)]) hx hb dX12_chains_322 hl (by decide) rfl (fun ls hl => ?_)
                  refine wk_iinc (lv' := fun r => [(11, .int r), (9, .int r16538), (0, .ref (b 0)), (3, .int x2), (4, .int y163_l4), (5, .int y163_l5), (6, .int y163_l6), (7, .int y163_l7), (8, .int y304_l8), (10, .int y182_l10)]) (e1 := 1) (f := 12) hx hb dX12_chains_324 hl (k := 9) rfl (by decide) g304_l11 (by decide) (fun _ => rfl) (fun r16539 ls hr16539 er16539 hl => ?_)
                  refine lv_goto (tgt := 197) hx hb dX12_chains_327 (by decide) ?_
                  exact ih197 y304_l8 r16538 r16539 v _ _ ls g304_l3 g304_l4 g304_l6 g304_l10 (show Rg 0 12 r16539 from rg_w hr16539 (by decide) (by decide)) (by exact x304_0) hV hP hD hS (lv_sub (l' := [(0, .ref (b 0)), (3, .int x2), (4, .int y163_l4), (5, .int y163_l5), (6, .int y163_l6), (7, .int y163_l7), (8, .int y304_l8), (9, .int r16538), (10, .int y182_l10), (11, .int r16539)]) hl [2, 3, 4, 5, 6, 7, 8, 1, 9, 0] rfl) (me_up hm197 er16539 (by decide))
                · refine lv_iconst (v := 1) hx hb dX12_chains_315 (by decide) ?_
                  refine lv_goto (tgt := 320) hx hb dX12_chains_316 (by decide) ?_
                  refine wk_iadd (e1 := 1) (f := 2) hx hb dX12_chains_320 g304_s0 (by decide : Rg 1 1 (1 : Int32)) (by decide) (fun r16540 hr16540 er16540 qr16540 => ?_)
                  refine lv_iadd hx hb dX12_chains_321 ?_
                  refine wk_topP (P := fun r => r = y197_l9 + r16540) rfl (fun r16541 qr16541 => ?_)
                  refine lv_istore (lv' := [(9, .int r16541), (0, .ref (b 0)), (3, .int x2), (4, .int y163_l4), (5, .int y163_l5), (6, .int y163_l6), (7, .int y163_l7), (8, .int y304_l8), (10, .int y182_l10), (11, .int y197_l11)]) hx hb dX12_chains_322 hl (by decide) rfl (fun ls hl => ?_)
                  refine wk_iinc (lv' := fun r => [(11, .int r), (9, .int r16541), (0, .ref (b 0)), (3, .int x2), (4, .int y163_l4), (5, .int y163_l5), (6, .int y163_l6), (7, .int y163_l7), (8, .int y304_l8), (10, .int y182_l10)]) (e1 := 1) (f := 12) hx hb dX12_chains_324 hl (k := 9) rfl (by decide) g304_l11 (by decide) (fun _ => rfl) (fun r16542 ls hr16542 er16542 hl => ?_)
                  refine lv_goto (tgt := 197) hx hb dX12_chains_327 (by decide) ?_
                  exact ih197 y304_l8 r16541 r16542 v _ _ ls g304_l3 g304_l4 g304_l6 g304_l10 (show Rg 0 12 r16542 from rg_w hr16542 (by decide) (by decide)) (by exact x304_0) hV hP hD hS (lv_sub (l' := [(0, .ref (b 0)), (3, .int x2), (4, .int y163_l4), (5, .int y163_l5), (6, .int y163_l6), (7, .int y163_l7), (8, .int y304_l8), (9, .int r16541), (10, .int y182_l10), (11, .int r16542)]) hl [2, 3, 4, 5, 6, 7, 8, 1, 9, 0] rfl) (me_up hm197 er16542 (by decide))
              have ct261 : ∀ (y261_l8 : Int32) (v : SU) (H : Heap) (locs : List Loc) (ls : Array Slot), Rg 0 2 x2 → Rg 1 4095 y163_l4 → Rg 0 2147483647 y163_l6 → Rg 0 11 y182_l10 → Rg 0 11 y197_l11 → (y163_l4 &&& -y163_l4) &&& y261_l8 = y163_l4 &&& -y163_l4 → TyV v → va_P D cls (wM cI b L v) H → va_D A (wM cI b L v) → va_S A s.heap H locs → lv_has ls 12 [(0, .ref (b 0)), (3, .int x2), (4, .int y163_l4), (5, .int y163_l5), (6, .int y163_l6), (7, .int y163_l7), (8, .int y261_l8), (9, .int y197_l9), (10, .int y182_l10), (11, .int y197_l11)] → W p l e (headSpec wsX12_chains ({ frames := 3, cells := 0, slots := 0, locals := 120 })).room s m ([.ref (b 0), .int x0, .int x1, .int x2]).toArray below meth c H locs 0 0 (MQ below (QF (S := SU) D (wM cI b L v0) (wM cI b L) s.heap.size (fun r u => TyV u ∧ Rg (-2147483648) 2147483647 r ∧ True)) ([.ref (b 0), .int x0, .int x1, .int x2]).toArray s 0 0 (va_A (wM cI b L v0) s.heap.size)) (F0 m 261 ls []) := by
                intro y261_l8 v H locs ls g261_l3 g261_l4 g261_l6 g261_l10 g261_l11 x261_0 hV hP hD hS hl
                refine lv_aload_n hx hb dX12_chains_261 rfl (lv_at hl 0 rfl) ?_
                refine va_get (D := D) (ci := 12) (v := .ref (b 7)) (C := RX12) (T := TX12) (N := 24) hx hb hts hin12 hown hK hP 0 rfl rfl 8 (by decide) (hts (.fieldLink RX12 32 "MissedPointsModel" "others" "[I") (by decide +kernel)) (fun _ h9 => h9) rfl dX12_chains_262 ?_
                refine lv_iload hx hb dX12_chains_265 (lv_at hl 9 rfl) ?_
                refine wk_aldA hx hb hK hP 7 0 rfl rfl (rg_in g261_l11 (by decide) (by decide)) dX12_chains_267 (fun r16543 => ?_)
                refine lv_iconst (v := (-1)) hx hb dX12_chains_268 (by decide) ?_
                refine lv_icmp_eq (tgt := 286) hx hb dX12_chains_269 (by decide) (fun c16544 => ?_) (fun c16544 => ?_)
                · have g16545 : Rg (-1) (-1) r16543 := wk_eql (rg_any r16543) (by decide : Rg (-1) (-1) ((-1) : Int32)) c16544 (by decide)
                  refine lv_iload hx hb dX12_chains_286 (lv_at hl 7 rfl) ?_
                  refine lv_aload_n hx hb dX12_chains_288 rfl (lv_at hl 0 rfl) ?_
                  refine va_get (D := D) (ci := 12) (v := .ref (b 5)) (C := RX12) (T := TX12) (N := 24) hx hb hts hin12 hown hK hP 0 rfl rfl 6 (by decide) (hts (.fieldLink RX12 26 "MissedPointsModel" "mates" "[I") (by decide +kernel)) (fun _ h9 => h9) rfl dX12_chains_289 ?_
                  refine lv_iload hx hb dX12_chains_292 (lv_at hl 9 rfl) ?_
                  refine wk_ald hx hb hK hP 5 0 rfl rfl (rg_in g261_l11 (by decide) (by decide)) dX12_chains_294 hV.2.2.1 (fun r16546 hr16546 => ?_)
                  refine lv_iconst (v := (-1)) hx hb dX12_chains_295 (by decide) ?_
                  refine lv_icmp_eq (tgt := 303) hx hb dX12_chains_296 (by decide) (fun c16547 => ?_) (fun c16547 => ?_)
                  · have g16548 : Rg (-1) (-1) r16546 := wk_eql hr16546 (by decide : Rg (-1) (-1) ((-1) : Int32)) c16547 (by decide)
                    refine lv_iconst (v := 0) hx hb dX12_chains_303 (by decide) ?_
                    exact ct304 y261_l8 (0 : Int32) v _ _ ls g261_l3 g261_l4 g261_l6 g261_l10 g261_l11 (by decide : Rg 0 1 (0 : Int32)) (by exact x261_0) hV hP hD hS (lv_sub (l' := [(0, .ref (b 0)), (3, .int x2), (4, .int y163_l4), (5, .int y163_l5), (6, .int y163_l6), (7, .int y163_l7), (8, .int y261_l8), (10, .int y182_l10), (11, .int y197_l11)]) hl [0, 1, 2, 3, 4, 5, 6, 8, 9] rfl)
                  · have g16549 : Rg 0 11 r16546 := rg_ne_lo (k := (-1)) hr16546 (by decide) c16547 (by decide)
                    refine lv_iconst (v := 1) hx hb dX12_chains_299 (by decide) ?_
                    refine lv_goto (tgt := 304) hx hb dX12_chains_300 (by decide) ?_
                    exact ct304 y261_l8 (1 : Int32) v _ _ ls g261_l3 g261_l4 g261_l6 g261_l10 g261_l11 (by decide : Rg 0 1 (1 : Int32)) (by exact x261_0) hV hP hD hS (lv_sub (l' := [(0, .ref (b 0)), (3, .int x2), (4, .int y163_l4), (5, .int y163_l5), (6, .int y163_l6), (7, .int y163_l7), (8, .int y261_l8), (10, .int y182_l10), (11, .int y197_l11)]) hl [0, 1, 2, 3, 4, 5, 6, 8, 9] rfl)
                · refine lv_iload hx hb dX12_chains_272 (lv_at hl 6 rfl) ?_
                  refine lv_iconst (v := 1) hx hb dX12_chains_274 (by decide) ?_
                  refine lv_aload_n hx hb dX12_chains_275 rfl (lv_at hl 0 rfl) ?_
                  refine va_get (D := D) (ci := 12) (v := .ref (b 7)) (C := RX12) (T := TX12) (N := 24) hx hb hts hin12 hown hK hP 0 rfl rfl 8 (by decide) (hts (.fieldLink RX12 32 "MissedPointsModel" "others" "[I") (by decide +kernel)) (fun _ h9 => h9) rfl dX12_chains_276 ?_
                  refine lv_iload hx hb dX12_chains_279 (lv_at hl 9 rfl) ?_
                  refine wk_aldA hx hb hK hP 7 0 rfl rfl (rg_in g261_l11 (by decide) (by decide)) dX12_chains_281 (fun r16550 => ?_)
                  refine lv_ishl hx hb dX12_chains_282 ?_
                  refine wk_topP (P := fun r => r = (1 : Int32) <<< (r16550 &&& 31)) rfl (fun r16551 qr16551 => ?_)
                  refine lv_ior hx hb dX12_chains_283 ?_
                  refine wk_topP (P := fun r => r = y261_l8 ||| r16551) rfl (fun r16552 qr16552 => ?_)
                  refine lv_istore (lv' := [(8, .int r16552), (0, .ref (b 0)), (3, .int x2), (4, .int y163_l4), (5, .int y163_l5), (6, .int y163_l6), (7, .int y163_l7), (9, .int y197_l9), (10, .int y182_l10), (11, .int y197_l11)]) hx hb dX12_chains_284 hl (by decide) rfl (fun ls hl => ?_)
                  refine lv_iload hx hb dX12_chains_286 (lv_at hl 7 rfl) ?_
                  refine lv_aload_n hx hb dX12_chains_288 rfl (lv_at hl 1 rfl) ?_
                  refine va_get (D := D) (ci := 12) (v := .ref (b 5)) (C := RX12) (T := TX12) (N := 24) hx hb hts hin12 hown hK hP 0 rfl rfl 6 (by decide) (hts (.fieldLink RX12 26 "MissedPointsModel" "mates" "[I") (by decide +kernel)) (fun _ h9 => h9) rfl dX12_chains_289 ?_
                  refine lv_iload hx hb dX12_chains_292 (lv_at hl 9 rfl) ?_
                  refine wk_ald hx hb hK hP 5 0 rfl rfl (rg_in g261_l11 (by decide) (by decide)) dX12_chains_294 hV.2.2.1 (fun r16553 hr16553 => ?_)
                  refine lv_iconst (v := (-1)) hx hb dX12_chains_295 (by decide) ?_
                  refine lv_icmp_eq (tgt := 303) hx hb dX12_chains_296 (by decide) (fun c16554 => ?_) (fun c16554 => ?_)
                  · have g16555 : Rg (-1) (-1) r16553 := wk_eql hr16553 (by decide : Rg (-1) (-1) ((-1) : Int32)) c16554 (by decide)
                    refine lv_iconst (v := 0) hx hb dX12_chains_303 (by decide) ?_
                    exact ct304 r16552 (0 : Int32) v _ _ ls g261_l3 g261_l4 g261_l6 g261_l10 g261_l11 (by decide : Rg 0 1 (0 : Int32)) (by exact (by rw [qr16552]; exact lb_or x261_0)) hV hP hD hS (lv_sub (l' := [(0, .ref (b 0)), (3, .int x2), (4, .int y163_l4), (5, .int y163_l5), (6, .int y163_l6), (7, .int y163_l7), (8, .int r16552), (10, .int y182_l10), (11, .int y197_l11)]) hl [1, 2, 3, 4, 5, 6, 0, 8, 9] rfl)
                  · have g16556 : Rg 0 11 r16553 := rg_ne_lo (k := (-1)) hr16553 (by decide) c16554 (by decide)
                    refine lv_iconst (v := 1) hx hb dX12_chains_299 (by decide) ?_
                    refine lv_goto (tgt := 304) hx hb dX12_chains_300 (by decide) ?_
                    exact ct304 r16552 (1 : Int32) v _ _ ls g261_l3 g261_l4 g261_l6 g261_l10 g261_l11 (by decide : Rg 0 1 (1 : Int32)) (by exact (by rw [qr16552]; exact lb_or x261_0)) hV hP hD hS (lv_sub (l' := [(0, .ref (b 0)), (3, .int x2), (4, .int y163_l4), (5, .int y163_l5), (6, .int y163_l6), (7, .int y163_l7), (8, .int r16552), (10, .int y182_l10), (11, .int y197_l11)]) hl [1, 2, 3, 4, 5, 6, 0, 8, 9] rfl)
              refine lv_iload hx hb dX12_chains_197 (lv_at hl 9 rfl) ?_
              refine lv_aload_n hx hb dX12_chains_199 rfl (lv_at hl 0 rfl) ?_
              refine va_get (D := D) (ci := 12) (v := .int (L 0 0)) (C := RX12) (T := TX12) (N := 24) hx hb hts hin12 hown hK hP 0 rfl rfl 0 (by decide) (hts (.fieldLink RX12 63 "MissedPointsModel" "many" "I") (by decide +kernel)) (fun _ h9 => h9) rfl dX12_chains_200 ?_
              refine lv_icmp_ge (tgt := 330) hx hb dX12_chains_203 (by decide) (fun c16557 => ?_) (fun c16557 => ?_)
              · refine wk_iinc (lv' := fun r => [(10, .int r), (0, .ref (b 0)), (3, .int x2), (4, .int y163_l4), (5, .int y163_l5), (6, .int y163_l6), (7, .int y163_l7), (8, .int y197_l8), (9, .int y197_l9), (11, .int y197_l11)]) (e1 := 1) (f := 12) hx hb dX12_chains_330 hl (k := 8) rfl (by decide) g197_l10 (by decide) (fun _ => rfl) (fun r16558 ls hr16558 er16558 hl => ?_)
                refine lv_goto (tgt := 182) hx hb dX12_chains_333 (by decide) ?_
                exact ih182 y197_l8 y197_l9 r16558 v _ _ ls g197_l3 g197_l4 g197_l6 (show Rg 0 12 r16558 from rg_w hr16558 (by decide) (by decide)) (by exact x197_0) hV hP hD hS (lv_sub (l' := [(0, .ref (b 0)), (3, .int x2), (4, .int y163_l4), (5, .int y163_l5), (6, .int y163_l6), (7, .int y163_l7), (8, .int y197_l8), (9, .int y197_l9), (10, .int r16558)]) hl [1, 2, 3, 4, 5, 6, 7, 8, 0] rfl) (me_up hm182 er16558 (by decide))
              · have g16559 : Rg 1 12 (L 0 0) := rg_ltr g197_l11 hL.1 (rg_nle c16557) (by decide)
                have g16560 : Rg 0 11 y197_l11 := rg_ltl g197_l11 hL.1 (rg_nle c16557) (by decide)
                refine lv_iload hx hb dX12_chains_206 (lv_at hl 6 rfl) ?_
                refine lv_iload hx hb dX12_chains_208 (lv_at hl 9 rfl) ?_
                refine lz_ss (As := [.int y197_l8, .int y197_l11]) (rest := []) ⟨hx, hb, hml, hown, hts⟩ (w_X12_has l D cI cS y197_l8 y197_l11) hKK (hP.sub (ws' := []) [] rfl) (va_cwS 2 hts gX12_chains_X12_has rfl rfl rfl (by decide +kernel) ⟨Nat.le_of_ble_eq_true rfl, Nat.le_of_ble_eq_true rfl⟩) rfl hl.1 rfl (Nat.le_of_ble_eq_true rfl) dX12_chains_210 ⟨Nat.le_of_ble_eq_true rfl, Nat.le_of_ble_eq_true rfl⟩ (fun r16561 hr16561 => ?_)
                refine lv_if_eq (tgt := 324) hx hb dX12_chains_213 (by decide) (fun c16562 => ?_) (fun c16562 => ?_)
                · have g16563 : Rg 0 0 r16561 := wk_eql hr16561.1 (by decide : Rg 0 0 (0 : Int32)) c16562 (by decide)
                  refine wk_iinc (lv' := fun r => [(11, .int r), (0, .ref (b 0)), (3, .int x2), (4, .int y163_l4), (5, .int y163_l5), (6, .int y163_l6), (7, .int y163_l7), (8, .int y197_l8), (9, .int y197_l9), (10, .int y182_l10)]) (e1 := 1) (f := 12) hx hb dX12_chains_324 hl (k := 9) rfl (by decide) g16560 (by decide) (fun _ => rfl) (fun r16564 ls hr16564 er16564 hl => ?_)
                  refine lv_goto (tgt := 197) hx hb dX12_chains_327 (by decide) ?_
                  exact ih197 y197_l8 y197_l9 r16564 v _ _ ls g197_l3 g197_l4 g197_l6 g197_l10 (show Rg 0 12 r16564 from rg_w hr16564 (by decide) (by decide)) (by exact x197_0) hV hP hD hS (lv_sub (l' := [(0, .ref (b 0)), (3, .int x2), (4, .int y163_l4), (5, .int y163_l5), (6, .int y163_l6), (7, .int y163_l7), (8, .int y197_l8), (9, .int y197_l9), (10, .int y182_l10), (11, .int r16564)]) hl [1, 2, 3, 4, 5, 6, 7, 8, 9, 0] rfl) (me_up hm197 er16564 (by decide))
                · have g16565 : Rg 1 1 r16561 := rg_ne_lo (k := 0) hr16561.1 (by decide) c16562 (by decide)
                  refine lv_aload_n hx hb dX12_chains_216 rfl (lv_at hl 0 rfl) ?_
                  refine va_get (D := D) (ci := 12) (v := .ref (b 5)) (C := RX12) (T := TX12) (N := 24) hx hb hts hin12 hown hK hP 0 rfl rfl 6 (by decide) (hts (.fieldLink RX12 26 "MissedPointsModel" "mates" "[I") (by decide +kernel)) (fun _ h9 => h9) rfl dX12_chains_217 ?_
                  refine lv_iload hx hb dX12_chains_220 (lv_at hl 9 rfl) ?_
                  refine wk_ald hx hb hK hP 5 0 rfl rfl (rg_in g16560 (by decide) (by decide)) dX12_chains_222 hV.2.2.1 (fun r16566 hr16566 => ?_)
                  refine lv_aload_n hx hb dX12_chains_223 rfl (lv_at hl 0 rfl) ?_
                  refine va_get (D := D) (ci := 12) (v := .ref (b 7)) (C := RX12) (T := TX12) (N := 24) hx hb hts hin12 hown hK hP 0 rfl rfl 8 (by decide) (hts (.fieldLink RX12 32 "MissedPointsModel" "others" "[I") (by decide +kernel)) (fun _ h9 => h9) rfl dX12_chains_224 ?_
                  refine lv_iload hx hb dX12_chains_227 (lv_at hl 9 rfl) ?_
                  refine wk_aldA hx hb hK hP 7 0 rfl rfl (rg_in g16560 (by decide) (by decide)) dX12_chains_229 (fun r16567 => ?_)
                  refine lv_icmp_ne (tgt := 236) hx hb dX12_chains_230 (by decide) (fun c16568 => ?_) (fun c16568 => ?_)
                  · refine lv_aload_n hx hb dX12_chains_236 rfl (lv_at hl 0 rfl) ?_
                    refine va_get (D := D) (ci := 12) (v := .ref (b 5)) (C := RX12) (T := TX12) (N := 24) hx hb hts hin12 hown hK hP 0 rfl rfl 6 (by decide) (hts (.fieldLink RX12 26 "MissedPointsModel" "mates" "[I") (by decide +kernel)) (fun _ h9 => h9) rfl dX12_chains_237 ?_
                    refine lv_iload hx hb dX12_chains_240 (lv_at hl 9 rfl) ?_
                    refine wk_ald hx hb hK hP 5 0 rfl rfl (rg_in g16560 (by decide) (by decide)) dX12_chains_242 hV.2.2.1 (fun r16569 hr16569 => ?_)
                    refine lv_iconst (v := (-1)) hx hb dX12_chains_243 (by decide) ?_
                    refine lv_icmp_eq (tgt := 261) hx hb dX12_chains_244 (by decide) (fun c16570 => ?_) (fun c16570 => ?_)
                    · have g16571 : Rg (-1) (-1) r16569 := wk_eql hr16569 (by decide : Rg (-1) (-1) ((-1) : Int32)) c16570 (by decide)
                      exact ct261 y197_l8 v _ _ ls g197_l3 g197_l4 g197_l6 g197_l10 g16560 (by exact x197_0) hV hP hD hS (lv_sub (l' := [(0, .ref (b 0)), (3, .int x2), (4, .int y163_l4), (5, .int y163_l5), (6, .int y163_l6), (7, .int y163_l7), (8, .int y197_l8), (9, .int y197_l9), (10, .int y182_l10), (11, .int y197_l11)]) hl [0, 1, 2, 3, 4, 5, 6, 7, 8, 9] rfl)
                    · have g16572 : Rg 0 11 r16569 := rg_ne_lo (k := (-1)) hr16569 (by decide) c16570 (by decide)
                      refine lv_iload hx hb dX12_chains_247 (lv_at hl 6 rfl) ?_
                      refine lv_iconst (v := 1) hx hb dX12_chains_249 (by decide) ?_
                      refine lv_aload_n hx hb dX12_chains_250 rfl (lv_at hl 0 rfl) ?_
                      refine va_get (D := D) (ci := 12) (v := .ref (b 5)) (C := RX12) (T := TX12) (N := 24) hx hb hts hin12 hown hK hP 0 rfl rfl 6 (by decide) (hts (.fieldLink RX12 26 "MissedPointsModel" "mates" "[I") (by decide +kernel)) (fun _ h9 => h9) rfl dX12_chains_251 ?_
                      refine lv_iload hx hb dX12_chains_254 (lv_at hl 9 rfl) ?_
                      refine wk_ald hx hb hK hP 5 0 rfl rfl (rg_in g16560 (by decide) (by decide)) dX12_chains_256 hV.2.2.1 (fun r16573 hr16573 => ?_)
                      refine lv_ishl hx hb dX12_chains_257 ?_
                      refine wk_topP (P := fun r => r = (1 : Int32) <<< (r16573 &&& 31)) rfl (fun r16574 qr16574 => ?_)
                      refine lv_ior hx hb dX12_chains_258 ?_
                      refine wk_topP (P := fun r => r = y197_l8 ||| r16574) rfl (fun r16575 qr16575 => ?_)
                      refine lv_istore (lv' := [(8, .int r16575), (0, .ref (b 0)), (3, .int x2), (4, .int y163_l4), (5, .int y163_l5), (6, .int y163_l6), (7, .int y163_l7), (9, .int y197_l9), (10, .int y182_l10), (11, .int y197_l11)]) hx hb dX12_chains_259 hl (by decide) rfl (fun ls hl => ?_)
                      exact ct261 r16575 v _ _ ls g197_l3 g197_l4 g197_l6 g197_l10 g16560 (by exact (by rw [qr16575]; exact lb_or x197_0)) hV hP hD hS (lv_sub (l' := [(0, .ref (b 0)), (3, .int x2), (4, .int y163_l4), (5, .int y163_l5), (6, .int y163_l6), (7, .int y163_l7), (8, .int r16575), (9, .int y197_l9), (10, .int y182_l10), (11, .int y197_l11)]) hl [1, 2, 3, 4, 5, 6, 0, 7, 8, 9] rfl)
                  · have g16576 : Rg (-1) 11 r16567 := wk_eqr hr16566 (rg_any r16567) c16568 (by decide)
                    refine lv_goto (tgt := 324) hx hb dX12_chains_233 (by decide) ?_
                    refine wk_iinc (lv' := fun r => [(11, .int r), (0, .ref (b 0)), (3, .int x2), (4, .int y163_l4), (5, .int y163_l5), (6, .int y163_l6), (7, .int y163_l7), (8, .int y197_l8), (9, .int y197_l9), (10, .int y182_l10)]) (e1 := 1) (f := 12) hx hb dX12_chains_324 hl (k := 9) rfl (by decide) g16560 (by decide) (fun _ => rfl) (fun r16577 ls hr16577 er16577 hl => ?_)
                    refine lv_goto (tgt := 197) hx hb dX12_chains_327 (by decide) ?_
                    exact ih197 y197_l8 y197_l9 r16577 v _ _ ls g197_l3 g197_l4 g197_l6 g197_l10 (show Rg 0 12 r16577 from rg_w hr16577 (by decide) (by decide)) (by exact x197_0) hV hP hD hS (lv_sub (l' := [(0, .ref (b 0)), (3, .int x2), (4, .int y163_l4), (5, .int y163_l5), (6, .int y163_l6), (7, .int y163_l7), (8, .int y197_l8), (9, .int y197_l9), (10, .int y182_l10), (11, .int r16577)]) hl [1, 2, 3, 4, 5, 6, 7, 8, 9, 0] rfl) (me_up hm197 er16577 (by decide))
          refine lv_iload hx hb dX12_chains_182 (lv_at hl 8 rfl) ?_
          refine lv_aload_n hx hb dX12_chains_184 rfl (lv_at hl 0 rfl) ?_
          refine va_get (D := D) (ci := 12) (v := .int (L 0 0)) (C := RX12) (T := TX12) (N := 24) hx hb hts hin12 hown hK hP 0 rfl rfl 0 (by decide) (hts (.fieldLink RX12 63 "MissedPointsModel" "many" "I") (by decide +kernel)) (fun _ h9 => h9) rfl dX12_chains_185 ?_
          refine lv_icmp_ge (tgt := 336) hx hb dX12_chains_188 (by decide) (fun c16578 => ?_) (fun c16578 => ?_)
          · refine lv_iload hx hb dX12_chains_336 (lv_at hl 7 rfl) ?_
            refine lv_iconst (v := 2) hx hb dX12_chains_338 (by decide) ?_
            refine lv_idiv hx hb dX12_chains_339 (by decide) ?_
            refine wk_any (fun r16579 => ?_)
            refine lv_istore (lv' := [(10, .int r16579), (0, .ref (b 0)), (3, .int x2), (4, .int y163_l4), (5, .int y163_l5), (6, .int y163_l6), (7, .int y163_l7), (8, .int y182_l8), (9, .int y182_l9)]) hx hb dX12_chains_340 hl (by decide) rfl (fun ls hl => ?_)
            refine wk_iincA (lv' := fun r => [(5, .int r), (10, .int r16579), (0, .ref (b 0)), (3, .int x2), (4, .int y163_l4), (6, .int y163_l6), (7, .int y163_l7), (8, .int y182_l8), (9, .int y182_l9)]) hx hb dX12_chains_342 hl (k := 4) rfl (by decide) (fun _ => rfl) (fun r16580 ls hl => ?_)
            refine lv_iload hx hb dX12_chains_345 (lv_at hl 1 rfl) ?_
            refine lv_iload hx hb dX12_chains_347 (lv_at hl 5 rfl) ?_
            refine lv_icmp_le (tgt := 357) hx hb dX12_chains_349 (by decide) (fun c16581 => ?_) (fun c16581 => ?_)
            · refine lv_iload hx hb dX12_chains_357 (lv_at hl 5 rfl) ?_
              exact ct359 r16580 y182_l8 r16579 y163_l6 v _ _ ls g182_l3 g182_l4 g182_l6 (by exact x182_0) hV hP hD hS (lv_sub (l' := [(0, .ref (b 0)), (3, .int x2), (4, .int y163_l4), (5, .int r16580), (7, .int y163_l7), (8, .int y182_l8), (10, .int r16579)]) hl [2, 3, 4, 0, 6, 7, 1] rfl)
            · have g16582 : Rg 1 2147483647 r16579 := rg_ltr g182_l6 (rg_any r16579) (rg_nle c16581) (by decide)
              have g16583 : Rg 0 2147483646 y163_l6 := rg_ltl g182_l6 (rg_any r16579) (rg_nle c16581) (by decide)
              refine lv_iload hx hb dX12_chains_352 (lv_at hl 1 rfl) ?_
              refine lv_goto (tgt := 359) hx hb dX12_chains_354 (by decide) ?_
              exact ct359 r16580 y182_l8 r16579 r16579 v _ _ ls g182_l3 g182_l4 (show Rg 0 2147483647 r16579 from rg_w g16582 (by decide) (by decide)) (by exact x182_0) hV hP hD hS (lv_sub (l' := [(0, .ref (b 0)), (3, .int x2), (4, .int y163_l4), (5, .int r16580), (7, .int y163_l7), (8, .int y182_l8), (10, .int r16579)]) hl [2, 3, 4, 0, 6, 7, 1] rfl)
          · have g16584 : Rg 1 12 (L 0 0) := rg_ltr g182_l10 hL.1 (rg_nle c16578) (by decide)
            have g16585 : Rg 0 11 y182_l10 := rg_ltl g182_l10 hL.1 (rg_nle c16578) (by decide)
            refine lv_iconst (v := 0) hx hb dX12_chains_191 (by decide) ?_
            refine lv_istore (lv' := [(9, .int 0), (0, .ref (b 0)), (3, .int x2), (4, .int y163_l4), (5, .int y163_l5), (6, .int y163_l6), (7, .int y163_l7), (8, .int y182_l8), (10, .int y182_l10)]) hx hb dX12_chains_192 hl (by decide) rfl (fun ls hl => ?_)
            refine lv_iconst (v := 0) hx hb dX12_chains_194 (by decide) ?_
            refine lv_istore (lv' := [(11, .int 0), (9, .int 0), (0, .ref (b 0)), (3, .int x2), (4, .int y163_l4), (5, .int y163_l5), (6, .int y163_l6), (7, .int y163_l7), (8, .int y182_l8), (10, .int y182_l10)]) hx hb dX12_chains_195 hl (by decide) rfl (fun ls hl => ?_)
            exact lp197 13 y182_l8 (0 : Int32) (0 : Int32) v _ _ ls g182_l3 g182_l4 g182_l6 g16585 (by decide : Rg 0 12 (0 : Int32)) (by exact x182_0) hV hP hD hS (lv_sub (l' := [(0, .ref (b 0)), (3, .int x2), (4, .int y163_l4), (5, .int y163_l5), (6, .int y163_l6), (7, .int y163_l7), (8, .int y182_l8), (9, .int 0), (10, .int y182_l10), (11, .int 0)]) hl [2, 3, 4, 5, 6, 7, 8, 1, 9, 0] rfl) (me_i (by decide : Rg 0 12 (0 : Int32)) (by decide))
      refine lv_iload hx hb dX12_chains_163 (lv_at hl 2 rfl) ?_
      refine lv_if_eq (tgt := 393) hx hb dX12_chains_165 (by decide) (fun c16586 => ?_) (fun c16586 => ?_)
      · have g16587 : Rg 0 0 y163_l4 := wk_eql g163_l4 (by decide : Rg 0 0 (0 : Int32)) c16586 (by decide)
        refine lv_iload_n hx hb dX12_chains_393 rfl (lv_at hl 1 rfl) ?_
        refine lv_if_ne (tgt := 402) hx hb dX12_chains_394 (by decide) (fun c16588 => ?_) (fun c16588 => ?_)
        · have g16589 : Rg 1 2 x2 := rg_ne_lo (k := 0) g163_l3 (by decide) c16588 (by decide)
          refine lv_iload_n hx hb dX12_chains_402 rfl (lv_at hl 1 rfl) ?_
          refine lv_iconst (v := 1) hx hb dX12_chains_403 (by decide) ?_
          refine lv_icmp_ne (tgt := 412) hx hb dX12_chains_404 (by decide) (fun c16590 => ?_) (fun c16590 => ?_)
          · have g16591 : Rg 2 2 x2 := rg_ne_lo (k := 1) g16589 (by decide) c16590 (by decide)
            refine lv_iload hx hb dX12_chains_412 (lv_at hl 5 rfl) ?_
            subst hAe
            exact W.iret (v := y163_l7) hx hb hr (fun t ht hW => ⟨⟨_, v, rfl, ⟨hV, (rg_any y163_l7), trivial⟩, by rw [ht]; exact hP, hD⟩, hS.F ht⟩) hS.2.2 dX12_chains_414
          · have g16592 : Rg 1 1 x2 := wk_eql g16589 (by decide : Rg 1 1 (1 : Int32)) c16590 (by decide)
            refine lv_iload hx hb dX12_chains_407 (lv_at hl 4 rfl) ?_
            refine lv_goto (tgt := 414) hx hb dX12_chains_409 (by decide) ?_
            subst hAe
            exact W.iret (v := y163_l6) hx hb hr (fun t ht hW => ⟨⟨_, v, rfl, ⟨hV, (rg_any y163_l6), trivial⟩, by rw [ht]; exact hP, hD⟩, hS.F ht⟩) hS.2.2 dX12_chains_414
        · have g16593 : Rg 0 0 x2 := wk_eql g163_l3 (by decide : Rg 0 0 (0 : Int32)) c16588 (by decide)
          refine lv_iload hx hb dX12_chains_397 (lv_at hl 3 rfl) ?_
          refine lv_goto (tgt := 414) hx hb dX12_chains_399 (by decide) ?_
          subst hAe
          exact W.iret (v := y163_l5) hx hb hr (fun t ht hW => ⟨⟨_, v, rfl, ⟨hV, (rg_any y163_l5), trivial⟩, by rw [ht]; exact hP, hD⟩, hS.F ht⟩) hS.2.2 dX12_chains_414
      · have g16594 : Rg 1 4095 y163_l4 := rg_ne_lo (k := 0) g163_l4 (by decide) c16586 (by decide)
        refine lv_iload hx hb dX12_chains_168 (lv_at hl 2 rfl) ?_
        refine lv_iload hx hb dX12_chains_170 (lv_at hl 2 rfl) ?_
        refine lv_ineg hx hb dX12_chains_172 ?_
        refine wk_topP (P := fun r => r = -y163_l4) rfl (fun r16595 qr16595 => ?_)
        refine wk_iandl hx hb dX12_chains_173 g16594 (by decide) (fun r16596 hr16596 qr16596 => ?_)
        refine lv_istore (lv' := [(8, .int r16596), (0, .ref (b 0)), (3, .int x2), (4, .int y163_l4), (5, .int y163_l5), (6, .int y163_l6), (7, .int y163_l7)]) hx hb dX12_chains_174 hl (by decide) rfl (fun ls hl => ?_)
        refine lv_iconst (v := 0) hx hb dX12_chains_176 (by decide) ?_
        refine lv_istore (lv' := [(9, .int 0), (8, .int r16596), (0, .ref (b 0)), (3, .int x2), (4, .int y163_l4), (5, .int y163_l5), (6, .int y163_l6), (7, .int y163_l7)]) hx hb dX12_chains_177 hl (by decide) rfl (fun ls hl => ?_)
        refine lv_iconst (v := 0) hx hb dX12_chains_179 (by decide) ?_
        refine lv_istore (lv' := [(10, .int 0), (9, .int 0), (8, .int r16596), (0, .ref (b 0)), (3, .int x2), (4, .int y163_l4), (5, .int y163_l5), (6, .int y163_l6), (7, .int y163_l7)]) hx hb dX12_chains_180 hl (by decide) rfl (fun ls hl => ?_)
        exact lp182 13 r16596 (0 : Int32) (0 : Int32) v _ _ ls g163_l3 g16594 g163_l6 (by decide : Rg 0 12 (0 : Int32)) (by exact (by rw [qr16596, qr16595]; exact Int32.and_self)) hV hP hD hS (lv_sub (l' := [(0, .ref (b 0)), (3, .int x2), (4, .int y163_l4), (5, .int y163_l5), (6, .int y163_l6), (7, .int y163_l7), (8, .int r16596), (9, .int 0), (10, .int 0)]) hl [3, 4, 5, 6, 7, 8, 2, 1, 0] rfl) (me_i (by decide : Rg 0 12 (0 : Int32)) (by decide))
  have lp109 : ∀ (n109 : Nat) (y109_l4 : Int32) (y109_l5 : Int32) (v : SU) (H : Heap) (locs : List Loc) (ls : Array Slot), Rg 0 2 x2 → Rg 0 4095 y109_l4 → Rg 0 12 y109_l5 → TyV v → va_P D cls (wM cI b L v) H → va_D A (wM cI b L v) → va_S A s.heap H locs → lv_has ls 12 [(0, .ref (b 0)), (3, .int x2), (4, .int y109_l4), (5, .int y109_l5)] → 12 - y109_l5.toInt < (n109 : Int) → W p l e (headSpec wsX12_chains ({ frames := 3, cells := 0, slots := 0, locals := 120 })).room s m ([.ref (b 0), .int x0, .int x1, .int x2]).toArray below meth c H locs 0 0 (MQ below (QF (S := SU) D (wM cI b L v0) (wM cI b L) s.heap.size (fun r u => TyV u ∧ Rg (-2147483648) 2147483647 r ∧ True)) ([.ref (b 0), .int x0, .int x1, .int x2]).toArray s 0 0 (va_A (wM cI b L v0) s.heap.size)) (F0 m 109 ls []) := by
    intro n109
    induction n109 with
    | zero =>
      intro y109_l4 y109_l5 v H locs ls g109_l3 g109_l4 g109_l5 hV hP hD hS hl hm109
      exact absurd rfl (me_z g109_l5 hm109)
    | succ n109 ih109 =>
      intro y109_l4 y109_l5 v H locs ls g109_l3 g109_l4 g109_l5 hV hP hD hS hl hm109
      refine lv_iload hx hb dX12_chains_109 (lv_at hl 3 rfl) ?_
      refine lv_aload_n hx hb dX12_chains_111 rfl (lv_at hl 0 rfl) ?_
      refine va_get (D := D) (ci := 12) (v := .int (L 0 0)) (C := RX12) (T := TX12) (N := 24) hx hb hts hin12 hown hK hP 0 rfl rfl 0 (by decide) (hts (.fieldLink RX12 63 "MissedPointsModel" "many" "I") (by decide +kernel)) (fun _ h9 => h9) rfl dX12_chains_112 ?_
      refine lv_icmp_ge (tgt := 154) hx hb dX12_chains_115 (by decide) (fun c16597 => ?_) (fun c16597 => ?_)
      · refine lv_iconst (v := 0) hx hb dX12_chains_154 (by decide) ?_
        refine lv_istore (lv' := [(5, .int 0), (0, .ref (b 0)), (3, .int x2), (4, .int y109_l4)]) hx hb dX12_chains_155 hl (by decide) rfl (fun ls hl => ?_)
        refine lv_iconst (v := 0) hx hb dX12_chains_157 (by decide) ?_
        refine lv_istore (lv' := [(6, .int 0), (5, .int 0), (0, .ref (b 0)), (3, .int x2), (4, .int y109_l4)]) hx hb dX12_chains_158 hl (by decide) rfl (fun ls hl => ?_)
        refine lv_iconst (v := 0) hx hb dX12_chains_160 (by decide) ?_
        refine lv_istore (lv' := [(7, .int 0), (6, .int 0), (5, .int 0), (0, .ref (b 0)), (3, .int x2), (4, .int y109_l4)]) hx hb dX12_chains_161 hl (by decide) rfl (fun ls hl => ?_)
        exact lp163 4096 y109_l4 (0 : Int32) (0 : Int32) (0 : Int32) v _ _ ls g109_l3 g109_l4 (by decide : Rg 0 2147483647 (0 : Int32)) hV hP hD hS (lv_sub (l' := [(0, .ref (b 0)), (3, .int x2), (4, .int y109_l4), (5, .int 0), (6, .int 0), (7, .int 0)]) hl [3, 4, 5, 2, 1, 0] rfl) (me_k g109_l4 (by decide))
      · have g16598 : Rg 1 12 (L 0 0) := rg_ltr g109_l5 hL.1 (rg_nle c16597) (by decide)
        have g16599 : Rg 0 11 y109_l5 := rg_ltl g109_l5 hL.1 (rg_nle c16597) (by decide)
        refine lv_iload hx hb dX12_chains_118 (lv_at hl 2 rfl) ?_
        refine lv_aload_n hx hb dX12_chains_120 rfl (lv_at hl 0 rfl) ?_
        refine va_get (D := D) (ci := 12) (v := .ref (b 5)) (C := RX12) (T := TX12) (N := 24) hx hb hts hin12 hown hK hP 0 rfl rfl 6 (by decide) (hts (.fieldLink RX12 26 "MissedPointsModel" "mates" "[I") (by decide +kernel)) (fun _ h9 => h9) rfl dX12_chains_121 ?_
        refine lv_iload hx hb dX12_chains_124 (lv_at hl 3 rfl) ?_
        refine wk_ald hx hb hK hP 5 0 rfl rfl (rg_in g16599 (by decide) (by decide)) dX12_chains_126 hV.2.2.1 (fun r16600 hr16600 => ?_)
        refine lv_aload_n hx hb dX12_chains_127 rfl (lv_at hl 0 rfl) ?_
        refine va_get (D := D) (ci := 12) (v := .ref (b 7)) (C := RX12) (T := TX12) (N := 24) hx hb hts hin12 hown hK hP 0 rfl rfl 8 (by decide) (hts (.fieldLink RX12 32 "MissedPointsModel" "others" "[I") (by decide +kernel)) (fun _ h9 => h9) rfl dX12_chains_128 ?_
        refine lv_iload hx hb dX12_chains_131 (lv_at hl 3 rfl) ?_
        refine wk_aldA hx hb hK hP 7 0 rfl rfl (rg_in g16599 (by decide) (by decide)) dX12_chains_133 (fun r16601 => ?_)
        refine lv_icmp_eq (tgt := 144) hx hb dX12_chains_134 (by decide) (fun c16602 => ?_) (fun c16602 => ?_)
        · have g16603 : Rg (-1) 11 r16601 := wk_eqr hr16600 (rg_any r16601) c16602 (by decide)
          refine lv_iconst (v := 0) hx hb dX12_chains_144 (by decide) ?_
          refine wk_ior 12 (e1 := 0) (f := 4095) hx hb dX12_chains_145 g109_l4 (by decide : Rg 0 0 (0 : Int32)) (by decide) (fun r16604 hr16604 qr16604 => ?_)
          refine lv_istore (lv' := [(4, .int r16604), (0, .ref (b 0)), (3, .int x2), (5, .int y109_l5)]) hx hb dX12_chains_146 hl (by decide) rfl (fun ls hl => ?_)
          refine wk_iinc (lv' := fun r => [(5, .int r), (4, .int r16604), (0, .ref (b 0)), (3, .int x2)]) (e1 := 1) (f := 12) hx hb dX12_chains_148 hl (k := 3) rfl (by decide) g16599 (by decide) (fun _ => rfl) (fun r16605 ls hr16605 er16605 hl => ?_)
          refine lv_goto (tgt := 109) hx hb dX12_chains_151 (by decide) ?_
          exact ih109 r16604 r16605 v _ _ ls g109_l3 hr16604 (show Rg 0 12 r16605 from rg_w hr16605 (by decide) (by decide)) hV hP hD hS (lv_sub (l' := [(0, .ref (b 0)), (3, .int x2), (4, .int r16604), (5, .int r16605)]) hl [2, 3, 1, 0] rfl) (me_up hm109 er16605 (by decide))
        · refine lv_iconst (v := 1) hx hb dX12_chains_137 (by decide) ?_
          refine lv_iload hx hb dX12_chains_138 (lv_at hl 3 rfl) ?_
          refine wk_ishl1 (f := 2048) hx hb dX12_chains_140 g16599 (by decide) (fun r16606 hr16606 qr16606 => ?_)
          refine lv_goto (tgt := 145) hx hb dX12_chains_141 (by decide) ?_
          refine wk_ior 12 (e1 := 1) (f := 4095) hx hb dX12_chains_145 g109_l4 hr16606 (by decide) (fun r16607 hr16607 qr16607 => ?_)
          refine lv_istore (lv' := [(4, .int r16607), (0, .ref (b 0)), (3, .int x2), (5, .int y109_l5)]) hx hb dX12_chains_146 hl (by decide) rfl (fun ls hl => ?_)
          refine wk_iinc (lv' := fun r => [(5, .int r), (4, .int r16607), (0, .ref (b 0)), (3, .int x2)]) (e1 := 1) (f := 12) hx hb dX12_chains_148 hl (k := 3) rfl (by decide) g16599 (by decide) (fun _ => rfl) (fun r16608 ls hr16608 er16608 hl => ?_)
          refine lv_goto (tgt := 109) hx hb dX12_chains_151 (by decide) ?_
          exact ih109 r16607 r16608 v _ _ ls g109_l3 (show Rg 0 4095 r16607 from rg_w hr16607 (by decide) (by decide)) (show Rg 0 12 r16608 from rg_w hr16608 (by decide) (by decide)) hV hP hD hS (lv_sub (l' := [(0, .ref (b 0)), (3, .int x2), (4, .int r16607), (5, .int r16608)]) hl [2, 3, 1, 0] rfl) (me_up hm109 er16608 (by decide))
  have lp63 : ∀ (n63 : Nat) (y63_l4 : Int32) (v : SU) (H : Heap) (locs : List Loc) (ls : Array Slot), Rg 0 3 x1 → Rg 0 2 x2 → Rg 0 12 y63_l4 → TyV v → va_P D cls (wM cI b L v) H → va_D A (wM cI b L v) → va_S A s.heap H locs → lv_has ls 12 [(0, .ref (b 0)), (2, .int x1), (3, .int x2), (4, .int y63_l4)] → 12 - y63_l4.toInt < (n63 : Int) → W p l e (headSpec wsX12_chains ({ frames := 3, cells := 0, slots := 0, locals := 120 })).room s m ([.ref (b 0), .int x0, .int x1, .int x2]).toArray below meth c H locs 0 0 (MQ below (QF (S := SU) D (wM cI b L v0) (wM cI b L) s.heap.size (fun r u => TyV u ∧ Rg (-2147483648) 2147483647 r ∧ True)) ([.ref (b 0), .int x0, .int x1, .int x2]).toArray s 0 0 (va_A (wM cI b L v0) s.heap.size)) (F0 m 63 ls []) := by
    intro n63
    induction n63 with
    | zero =>
      intro y63_l4 v H locs ls g63_l2 g63_l3 g63_l4 hV hP hD hS hl hm63
      exact absurd rfl (me_z g63_l4 hm63)
    | succ n63 ih63 =>
      intro y63_l4 v H locs ls g63_l2 g63_l3 g63_l4 hV hP hD hS hl hm63
      refine lv_iload hx hb dX12_chains_63 (lv_at hl 3 rfl) ?_
      refine lv_aload_n hx hb dX12_chains_65 rfl (lv_at hl 0 rfl) ?_
      refine va_get (D := D) (ci := 12) (v := .int (L 0 0)) (C := RX12) (T := TX12) (N := 24) hx hb hts hin12 hown hK hP 0 rfl rfl 0 (by decide) (hts (.fieldLink RX12 63 "MissedPointsModel" "many" "I") (by decide +kernel)) (fun _ h9 => h9) rfl dX12_chains_66 ?_
      refine lv_icmp_ge (tgt := 92) hx hb dX12_chains_69 (by decide) (fun c16609 => ?_) (fun c16609 => ?_)
      · refine lv_aload_n hx hb dX12_chains_92 rfl (lv_at hl 0 rfl) ?_
        refine lv_iload_n hx hb dX12_chains_93 rfl (lv_at hl 1 rfl) ?_
        refine wk_qi (wM cI b L) v (As := [.int x1]) (rest := []) ⟨hx, hb, hml, hown, hts⟩ (w_X12_wrongPairing l D cI cS _ b L v hL hV x1) hKK hP hD hS hA 0 (ci := 12) rfl rfl (cwV 1 hts gX12_chains_X12_wrongPairing rfl rfl rfl (by decide +kernel) ⟨Nat.le_of_ble_eq_true rfl, Nat.le_of_ble_eq_true rfl⟩) rfl hl.1 rfl (Nat.le_of_ble_eq_true rfl) dX12_chains_94 ⟨Nat.le_of_ble_eq_true rfl, Nat.le_of_ble_eq_true rfl⟩ (fun r16610 v H locs hr16610 hP hD hS => ?_)
        have hV := hr16610.1
        refine lv_if_eq (tgt := 103) hx hb dX12_chains_97 (by decide) (fun c16611 => ?_) (fun c16611 => ?_)
        · have g16612 : Rg 0 0 r16610 := wk_eql hr16610.2.1 (by decide : Rg 0 0 (0 : Int32)) c16611 (by decide)
          refine lv_iconst (v := 0) hx hb dX12_chains_103 (by decide) ?_
          refine lv_istore (lv' := [(4, .int 0), (0, .ref (b 0)), (2, .int x1), (3, .int x2)]) hx hb dX12_chains_104 hl (by decide) rfl (fun ls hl => ?_)
          refine lv_iconst (v := 0) hx hb dX12_chains_106 (by decide) ?_
          refine lv_istore (lv' := [(5, .int 0), (4, .int 0), (0, .ref (b 0)), (2, .int x1), (3, .int x2)]) hx hb dX12_chains_107 hl (by decide) rfl (fun ls hl => ?_)
          exact lp109 13 (0 : Int32) (0 : Int32) v _ _ ls g63_l3 (by decide : Rg 0 4095 (0 : Int32)) (by decide : Rg 0 12 (0 : Int32)) hV hP hD hS (lv_sub (l' := [(0, .ref (b 0)), (3, .int x2), (4, .int 0), (5, .int 0)]) hl [2, 4, 1, 0] rfl) (me_i (by decide : Rg 0 12 (0 : Int32)) (by decide))
        · have g16613 : Rg (-11) (-1) r16610 := rg_ne_hi (k := 0) hr16610.2.1 (by decide) c16611 (by decide)
          refine lv_bipush (v := (-3)) hx hb dX12_chains_100 (by decide) ?_
          subst hAe
          exact W.iret (v := (-3)) hx hb hr (fun t ht hW => ⟨⟨_, v, rfl, ⟨hV, (by decide : Rg (-2147483648) 2147483647 ((-3) : Int32)), trivial⟩, by rw [ht]; exact hP, hD⟩, hS.F ht⟩) hS.2.2 dX12_chains_102
      · have g16614 : Rg 1 12 (L 0 0) := rg_ltr g63_l4 hL.1 (rg_nle c16609) (by decide)
        have g16615 : Rg 0 11 y63_l4 := rg_ltl g63_l4 hL.1 (rg_nle c16609) (by decide)
        refine lv_aload_n hx hb dX12_chains_72 rfl (lv_at hl 0 rfl) ?_
        refine va_get (D := D) (ci := 12) (v := .ref (b 7)) (C := RX12) (T := TX12) (N := 24) hx hb hts hin12 hown hK hP 0 rfl rfl 8 (by decide) (hts (.fieldLink RX12 32 "MissedPointsModel" "others" "[I") (by decide +kernel)) (fun _ h9 => h9) rfl dX12_chains_73 ?_
        refine lv_iload hx hb dX12_chains_76 (lv_at hl 3 rfl) ?_
        refine lv_aload_n hx hb dX12_chains_78 rfl (lv_at hl 0 rfl) ?_
        refine va_get (D := D) (ci := 12) (v := .ref (b 5)) (C := RX12) (T := TX12) (N := 24) hx hb hts hin12 hown hK hP 0 rfl rfl 6 (by decide) (hts (.fieldLink RX12 26 "MissedPointsModel" "mates" "[I") (by decide +kernel)) (fun _ h9 => h9) rfl dX12_chains_79 ?_
        refine lv_iload hx hb dX12_chains_82 (lv_at hl 3 rfl) ?_
        refine wk_ald hx hb hK hP 5 0 rfl rfl (rg_in g16615 (by decide) (by decide)) dX12_chains_84 hV.2.2.1 (fun r16616 hr16616 => ?_)
        refine ms_7 hx hb hK hP hD hS hV rfl (rg_in g16615 (by decide) (by decide)) dX12_chains_85 (fun v H locs hV ev16617 hP hD hS => ?_)
        refine wk_iinc (lv' := fun r => [(4, .int r), (0, .ref (b 0)), (2, .int x1), (3, .int x2)]) (e1 := 1) (f := 12) hx hb dX12_chains_86 hl (k := 3) rfl (by decide) g16615 (by decide) (fun _ => rfl) (fun r16618 ls hr16618 er16618 hl => ?_)
        refine lv_goto (tgt := 63) hx hb dX12_chains_89 (by decide) ?_
        exact ih63 r16618 v _ _ ls g63_l2 g63_l3 (show Rg 0 12 r16618 from rg_w hr16618 (by decide) (by decide)) hV hP hD hS (lv_sub (l' := [(0, .ref (b 0)), (2, .int x1), (3, .int x2), (4, .int r16618)]) hl [1, 2, 3, 0] rfl) (me_up hm63 er16618 (by decide))
  refine lv_iload_n hx hb dX12_chains_0 rfl (lv_at hl 1 rfl) ?_
  refine lz_ss (As := [.int x0]) (rest := []) ⟨hx, hb, hml, hown, hts⟩ (w_X12_isSheet l D cI cS x0) hKK (hP.sub (ws' := []) [] rfl) (va_cwS 1 hts gX12_chains_X12_isSheet rfl rfl rfl (by decide +kernel) ⟨Nat.le_of_ble_eq_true rfl, Nat.le_of_ble_eq_true rfl⟩) rfl hl.1 rfl (Nat.le_of_ble_eq_true rfl) dX12_chains_1 ⟨Nat.le_of_ble_eq_true rfl, Nat.le_of_ble_eq_true rfl⟩ (fun r16619 hr16619 => ?_)
  refine lv_if_eq (tgt := 23) hx hb dX12_chains_4 (by decide) (fun c16620 => ?_) (fun c16620 => ?_)
  · have zt16621 : (x0.toInt < 0 ∨ 3 < x0.toInt) := hr16619.2.2 c16620
    have g16622 : Rg 0 0 r16619 := wk_eql hr16619.1 (by decide : Rg 0 0 (0 : Int32)) c16620 (by decide)
    refine lv_bipush (v := (-2)) hx hb dX12_chains_23 (by decide) ?_
    subst hAe
    exact W.iret (v := (-2)) hx hb hr (fun t ht hW => ⟨⟨_, v, rfl, ⟨hV, (by decide : Rg (-2147483648) 2147483647 ((-2) : Int32)), trivial⟩, by rw [ht]; exact hP, hD⟩, hS.F ht⟩) hS.2.2 dX12_chains_25
  · have g16623 : Rg 0 3 x0 := (hr16619.2.1 c16620)
    have g16624 : Rg 1 1 r16619 := rg_ne_lo (k := 0) hr16619.1 (by decide) c16620 (by decide)
    refine lv_iload_n hx hb dX12_chains_7 rfl (lv_at hl 2 rfl) ?_
    refine lz_ss (As := [.int x1]) (rest := []) ⟨hx, hb, hml, hown, hts⟩ (w_X12_isSheet l D cI cS x1) hKK (hP.sub (ws' := []) [] rfl) (va_cwS 1 hts gX12_chains_X12_isSheet rfl rfl rfl (by decide +kernel) ⟨Nat.le_of_ble_eq_true rfl, Nat.le_of_ble_eq_true rfl⟩) rfl hl.1 rfl (Nat.le_of_ble_eq_true rfl) dX12_chains_8 ⟨Nat.le_of_ble_eq_true rfl, Nat.le_of_ble_eq_true rfl⟩ (fun r16625 hr16625 => ?_)
    refine lv_if_eq (tgt := 23) hx hb dX12_chains_11 (by decide) (fun c16626 => ?_) (fun c16626 => ?_)
    · have zt16627 : (x1.toInt < 0 ∨ 3 < x1.toInt) := hr16625.2.2 c16626
      have g16628 : Rg 0 0 r16625 := wk_eql hr16625.1 (by decide : Rg 0 0 (0 : Int32)) c16626 (by decide)
      refine lv_bipush (v := (-2)) hx hb dX12_chains_23 (by decide) ?_
      subst hAe
      exact W.iret (v := (-2)) hx hb hr (fun t ht hW => ⟨⟨_, v, rfl, ⟨hV, (by decide : Rg (-2147483648) 2147483647 ((-2) : Int32)), trivial⟩, by rw [ht]; exact hP, hD⟩, hS.F ht⟩) hS.2.2 dX12_chains_25
    · have g16629 : Rg 0 3 x1 := (hr16625.2.1 c16626)
      have g16630 : Rg 1 1 r16625 := rg_ne_lo (k := 0) hr16625.1 (by decide) c16626 (by decide)
      refine lv_iload_n hx hb dX12_chains_14 rfl (lv_at hl 3 rfl) ?_
      refine lv_iconst (v := 0) hx hb dX12_chains_15 (by decide) ?_
      refine lv_iconst (v := 2) hx hb dX12_chains_16 (by decide) ?_
      refine lz_ss (As := [.int x2, .int 0, .int 2]) (rest := []) ⟨hx, hb, hml, hown, hts⟩ (w_X12_in l D cI cS x2 (0 : Int32) (2 : Int32)) hKK (hP.sub (ws' := []) [] rfl) (va_cwS 3 hts gX12_chains_X12_in rfl rfl rfl (by decide +kernel) ⟨Nat.le_of_ble_eq_true rfl, Nat.le_of_ble_eq_true rfl⟩) rfl hl.1 rfl (Nat.le_of_ble_eq_true rfl) dX12_chains_17 ⟨Nat.le_of_ble_eq_true rfl, Nat.le_of_ble_eq_true rfl⟩ (fun r16631 hr16631 => ?_)
      refine lv_if_ne (tgt := 26) hx hb dX12_chains_20 (by decide) (fun c16632 => ?_) (fun c16632 => ?_)
      · have zn16633 : (0 : Int32).toInt ≤ x2.toInt ∧ x2.toInt ≤ (2 : Int32).toInt := (hr16631.2.2 c16632)
        have g16634 : Rg 0 2 x2 := wk_in3 (rg_any x2) (by decide : Rg 0 0 (0 : Int32)) (by decide : Rg 2 2 (2 : Int32)) (hr16631.2.2 c16632) (by decide)
        have g16635 : Rg 1 1 r16631 := rg_ne_lo (k := 0) hr16631.1 (by decide) c16632 (by decide)
        refine lv_aload_n hx hb dX12_chains_26 rfl (lv_at hl 0 rfl) ?_
        refine va_get (D := D) (ci := 12) (v := .ref (b 9)) (C := RX12) (T := TX12) (N := 24) hx hb hts hin12 hown hK hP 0 rfl rfl 16 (by decide) (hts (.fieldLink RX12 38 "MissedPointsModel" "sort" "[I") (by decide +kernel)) (fun _ h9 => h9) rfl dX12_chains_27 ?_
        refine lv_iload_n hx hb dX12_chains_30 rfl (lv_at hl 1 rfl) ?_
        refine va_iald hx hb hK hP 9 0 rfl rfl (rg_in g16623 (by decide) (by decide)) dX12_chains_31 ?_
        refine lz_top (y := (L 9 x0.toNatClampNeg)) rfl ?_
        refine lv_iconst (v := (-1)) hx hb dX12_chains_32 (by decide) ?_
        refine lv_icmp_eq (tgt := 46) hx hb dX12_chains_33 (by decide) (fun c16637 => ?_) (fun c16637 => ?_)
        · have g16638 : Rg (-1) (-1) (L 9 x0.toNatClampNeg) := wk_eql (hL.2.2.1 x0.toNatClampNeg) (by decide : Rg (-1) (-1) ((-1) : Int32)) c16637 (by decide)
          refine lv_bipush (v := (-11)) hx hb dX12_chains_46 (by decide) ?_
          subst hAe
          exact W.iret (v := (-11)) hx hb hr (fun t ht hW => ⟨⟨_, v, rfl, ⟨hV, (by decide : Rg (-2147483648) 2147483647 ((-11) : Int32)), trivial⟩, by rw [ht]; exact hP, hD⟩, hS.F ht⟩) hS.2.2 dX12_chains_48
        · have g16639 : Rg 0 1 (L 9 x0.toNatClampNeg) := rg_ne_lo (k := (-1)) (hL.2.2.1 x0.toNatClampNeg) (by decide) c16637 (by decide)
          refine lv_aload_n hx hb dX12_chains_36 rfl (lv_at hl 0 rfl) ?_
          refine va_get (D := D) (ci := 12) (v := .ref (b 9)) (C := RX12) (T := TX12) (N := 24) hx hb hts hin12 hown hK hP 0 rfl rfl 16 (by decide) (hts (.fieldLink RX12 38 "MissedPointsModel" "sort" "[I") (by decide +kernel)) (fun _ h9 => h9) rfl dX12_chains_37 ?_
          refine lv_iload_n hx hb dX12_chains_40 rfl (lv_at hl 2 rfl) ?_
          refine va_iald hx hb hK hP 9 0 rfl rfl (rg_in g16629 (by decide) (by decide)) dX12_chains_41 ?_
          refine lz_top (y := (L 9 x1.toNatClampNeg)) rfl ?_
          refine lv_iconst (v := (-1)) hx hb dX12_chains_42 (by decide) ?_
          refine lv_icmp_ne (tgt := 49) hx hb dX12_chains_43 (by decide) (fun c16641 => ?_) (fun c16641 => ?_)
          · have g16642 : Rg 0 1 (L 9 x1.toNatClampNeg) := rg_ne_lo (k := (-1)) (hL.2.2.1 x1.toNatClampNeg) (by decide) c16641 (by decide)
            refine lv_aload_n hx hb dX12_chains_49 rfl (lv_at hl 0 rfl) ?_
            refine lv_iload_n hx hb dX12_chains_50 rfl (lv_at hl 1 rfl) ?_
            refine wk_qi (wM cI b L) v (As := [.int x0]) (rest := []) ⟨hx, hb, hml, hown, hts⟩ (w_X12_wrongPairing l D cI cS _ b L v hL hV x0) hKK hP hD hS hA 0 (ci := 12) rfl rfl (cwV 1 hts gX12_chains_X12_wrongPairing rfl rfl rfl (by decide +kernel) ⟨Nat.le_of_ble_eq_true rfl, Nat.le_of_ble_eq_true rfl⟩) rfl hl.1 rfl (Nat.le_of_ble_eq_true rfl) dX12_chains_51 ⟨Nat.le_of_ble_eq_true rfl, Nat.le_of_ble_eq_true rfl⟩ (fun r16643 v H locs hr16643 hP hD hS => ?_)
            have hV := hr16643.1
            refine lv_if_eq (tgt := 60) hx hb dX12_chains_54 (by decide) (fun c16644 => ?_) (fun c16644 => ?_)
            · have g16645 : Rg 0 0 r16643 := wk_eql hr16643.2.1 (by decide : Rg 0 0 (0 : Int32)) c16644 (by decide)
              refine lv_iconst (v := 0) hx hb dX12_chains_60 (by decide) ?_
              refine lv_istore (lv' := [(4, .int 0), (0, .ref (b 0)), (1, .int x0), (2, .int x1), (3, .int x2)]) hx hb dX12_chains_61 hl (by decide) rfl (fun ls hl => ?_)
              exact lp63 13 (0 : Int32) v _ _ ls g16629 g16634 (by decide : Rg 0 12 (0 : Int32)) hV hP hD hS (lv_sub (l' := [(0, .ref (b 0)), (2, .int x1), (3, .int x2), (4, .int 0)]) hl [1, 3, 4, 0] rfl) (me_i (by decide : Rg 0 12 (0 : Int32)) (by decide))
            · have g16646 : Rg (-11) (-1) r16643 := rg_ne_hi (k := 0) hr16643.2.1 (by decide) c16644 (by decide)
              refine lv_bipush (v := (-3)) hx hb dX12_chains_57 (by decide) ?_
              subst hAe
              exact W.iret (v := (-3)) hx hb hr (fun t ht hW => ⟨⟨_, v, rfl, ⟨hV, (by decide : Rg (-2147483648) 2147483647 ((-3) : Int32)), trivial⟩, by rw [ht]; exact hP, hD⟩, hS.F ht⟩) hS.2.2 dX12_chains_59
          · have g16647 : Rg (-1) (-1) (L 9 x1.toNatClampNeg) := wk_eql (hL.2.2.1 x1.toNatClampNeg) (by decide : Rg (-1) (-1) ((-1) : Int32)) c16641 (by decide)
            refine lv_bipush (v := (-11)) hx hb dX12_chains_46 (by decide) ?_
            subst hAe
            exact W.iret (v := (-11)) hx hb hr (fun t ht hW => ⟨⟨_, v, rfl, ⟨hV, (by decide : Rg (-2147483648) 2147483647 ((-11) : Int32)), trivial⟩, by rw [ht]; exact hP, hD⟩, hS.F ht⟩) hS.2.2 dX12_chains_48
      · have zt16648 : (x2.toInt < (0 : Int32).toInt ∨ (2 : Int32).toInt < x2.toInt) := hr16631.2.1 c16632
        have g16649 : Rg 0 0 r16631 := wk_eql hr16631.1 (by decide : Rg 0 0 (0 : Int32)) c16632 (by decide)
        refine lv_bipush (v := (-2)) hx hb dX12_chains_23 (by decide) ?_
        subst hAe
        exact W.iret (v := (-2)) hx hb hr (fun t ht hW => ⟨⟨_, v, rfl, ⟨hV, (by decide : Rg (-2147483648) 2147483647 ((-2) : Int32)), trivial⟩, by rw [ht]; exact hP, hD⟩, hS.F ht⟩) hS.2.2 dX12_chains_25
theorem dX12_over_0 : decode cX12_over 0 = .ok (.iload_n 0, 1) := by decide +kernel
theorem dX12_over_1 : decode cX12_over 1 = .ok (.ifCond .ne 7, 3) := by decide +kernel
theorem dX12_over_10 : decode cX12_over 10 = .ok (.if_icmp .ge 7, 3) := by decide +kernel
theorem dX12_over_13 : decode cX12_over 13 = .ok (.iconst 0, 1) := by decide +kernel
theorem dX12_over_14 : decode cX12_over 14 = .ok (.goto 13, 3) := by decide +kernel
theorem dX12_over_17 : decode cX12_over 17 = .ok (.iload_n 0, 1) := by decide +kernel
theorem dX12_over_18 : decode cX12_over 18 = .ok (.iconst 3, 1) := by decide +kernel
theorem dX12_over_19 : decode cX12_over 19 = .ok (.if_icmp .ne 7, 3) := by decide +kernel
theorem dX12_over_22 : decode cX12_over 22 = .ok (.iconst 1, 1) := by decide +kernel
theorem dX12_over_23 : decode cX12_over 23 = .ok (.goto 4, 3) := by decide +kernel
theorem dX12_over_26 : decode cX12_over 26 = .ok (.iconst 2, 1) := by decide +kernel
theorem dX12_over_27 : decode cX12_over 27 = .ok (.ireturn, 1) := by decide +kernel
theorem dX12_over_4 : decode cX12_over 4 = .ok (.iconst (-1), 1) := by decide +kernel
theorem dX12_over_5 : decode cX12_over 5 = .ok (.goto 22, 3) := by decide +kernel
theorem dX12_over_8 : decode cX12_over 8 = .ok (.iload_n 0, 1) := by decide +kernel
theorem dX12_over_9 : decode cX12_over 9 = .ok (.iconst 3, 1) := by decide +kernel
set_option maxHeartbeats 4000000 in
set_option maxRecDepth 100000 in
theorem w_X12_over (l : Launch) (D : va_G) (cI cS : ClassId) (x0 : Int32) (px0 : Rg 0 6 x0) : Met l yX12_over wsX12_over ({ frames := 0, cells := 0, slots := 0, locals := 0 }) (PS D cI cS [] [.int x0]) (vp_Si (fun r => Rg (-1) 2 r ∧ (r = 0 → Rg 1 2 x0) ∧ r.toInt < x0.toInt)) 0 0 (fun _ => False) := by
  refine Met.ofW (cc := cX12_over) (maxL := 1) (ret := (some .int)) (by decide) rfl ?_
  intro p e s m args below meth c s₁ B hml hv
  obtain ⟨rfl, hP, hKK⟩ := hv
  have hx := B.exec
  have hb := B.bytes
  have hr := B.returns
  have hts := atoms_spec (ws := wsX12_over) B.pre
  have hown : s.vm.findClass RX12 = some m.cls := findClass_of_methodNamed B.named
  have hlocks := B.notSynchronized
  have hK := hKK.1
  have hl := lv_entry ([.int x0]) (n := 1) (Nat.le_of_ble_eq_true rfl)
  rw [lg_entry_eq]
  generalize (lg_sl ([.int x0]) ++ List.replicate (1 - (lg_sl ([.int x0])).length) Slot.unset).toArray = ls at hl ⊢
  have hl : lv_has ls 1 [(0, .int x0)] := hl
  refine lv_iload_n hx hb dX12_over_0 rfl (lv_at hl 0 rfl) ?_
  refine lv_if_ne (tgt := 8) hx hb dX12_over_1 (by decide) (fun c16659 => ?_) (fun c16659 => ?_)
  · have g16660 : Rg 1 6 x0 := rg_ne_lo (k := 0) px0 (by decide) c16659 (by decide)
    refine lv_iload_n hx hb dX12_over_8 rfl (lv_at hl 0 rfl) ?_
    refine lv_iconst (v := 3) hx hb dX12_over_9 (by decide) ?_
    refine lv_icmp_ge (tgt := 17) hx hb dX12_over_10 (by decide) (fun c16661 => ?_) (fun c16661 => ?_)
    · have g16662 : Rg 3 6 x0 := rg_ler (by decide : Rg 3 3 (3 : Int32)) g16660 c16661 (by decide)
      refine lv_iload_n hx hb dX12_over_17 rfl (lv_at hl 0 rfl) ?_
      refine lv_iconst (v := 3) hx hb dX12_over_18 (by decide) ?_
      refine lv_icmp_ne (tgt := 26) hx hb dX12_over_19 (by decide) (fun c16663 => ?_) (fun c16663 => ?_)
      · have g16664 : Rg 4 6 x0 := rg_ne_lo (k := 3) g16662 (by decide) c16663 (by decide)
        refine lv_iconst (v := 2) hx hb dX12_over_26 (by decide) ?_
        exact W.iret (v := 2) hx hb hr (fun t ht hW => ⟨_, rfl, ⟨(by decide : Rg (-1) 2 (2 : Int32)), fun h9 => absurd h9 (by decide), (Int.lt_of_lt_of_le (by decide : (2 : Int32).toInt < 4) g16664.1)⟩, ht⟩) (fun q hq => absurd hq List.not_mem_nil) dX12_over_27
      · have g16665 : Rg 3 3 x0 := wk_eql g16662 (by decide : Rg 3 3 (3 : Int32)) c16663 (by decide)
        refine lv_iconst (v := 1) hx hb dX12_over_22 (by decide) ?_
        refine lv_goto (tgt := 27) hx hb dX12_over_23 (by decide) ?_
        exact W.iret (v := 1) hx hb hr (fun t ht hW => ⟨_, rfl, ⟨(by decide : Rg (-1) 2 (1 : Int32)), fun h9 => absurd h9 (by decide), (Int.lt_of_lt_of_le (by decide : (1 : Int32).toInt < 3) g16665.1)⟩, ht⟩) (fun q hq => absurd hq List.not_mem_nil) dX12_over_27
    · have g16666 : Rg 1 2 x0 := rg_ltl g16660 (by decide : Rg 3 3 (3 : Int32)) (rg_nle c16661) (by decide)
      refine lv_iconst (v := 0) hx hb dX12_over_13 (by decide) ?_
      refine lv_goto (tgt := 27) hx hb dX12_over_14 (by decide) ?_
      exact W.iret (v := 0) hx hb hr (fun t ht hW => ⟨_, rfl, ⟨(by decide : Rg (-1) 2 (0 : Int32)), fun _ => g16666, (Int.lt_of_lt_of_le (by decide : (0 : Int32).toInt < 1) g16666.1)⟩, ht⟩) (fun q hq => absurd hq List.not_mem_nil) dX12_over_27
  · have g16667 : Rg 0 0 x0 := wk_eql px0 (by decide : Rg 0 0 (0 : Int32)) c16659 (by decide)
    refine lv_iconst (v := (-1)) hx hb dX12_over_4 (by decide) ?_
    refine lv_goto (tgt := 27) hx hb dX12_over_5 (by decide) ?_
    exact W.iret (v := (-1)) hx hb hr (fun t ht hW => ⟨_, rfl, ⟨(by decide : Rg (-1) 2 ((-1) : Int32)), fun h9 => absurd h9 (by decide), (Int.lt_of_lt_of_le (by decide : ((-1) : Int32).toInt < 0) g16667.1)⟩, ht⟩) (fun q hq => absurd hq List.not_mem_nil) dX12_over_27
set_option maxRecDepth 20000 in
theorem ggX12_isOf_X12_over : GoodIn wsX12_isOf wsX12_over := goodIn_r _ [4] rfl (by decide +kernel)
set_option maxRecDepth 20000 in
theorem gX12_isOf_X12_over : GoodIn wsX12_isOf (va_wsS RX12 228 yX12_over wsX12_over) := goodIn_app (goodIn_of _ (by decide +kernel)) ggX12_isOf_X12_over
theorem dX12_isOf_0 : decode cX12_isOf 0 = .ok (.iload_n 0, 1) := by decide +kernel
theorem dX12_isOf_1 : decode cX12_isOf 1 = .ok (.istore_n 2, 1) := by decide +kernel
theorem dX12_isOf_12 : decode cX12_isOf 12 = .ok (.iload_n 2, 1) := by decide +kernel
theorem dX12_isOf_13 : decode cX12_isOf 13 = .ok (.invokestatic 228, 3) := by decide +kernel
theorem dX12_isOf_16 : decode cX12_isOf 16 = .ok (.istore_n 2, 1) := by decide +kernel
theorem dX12_isOf_17 : decode cX12_isOf 17 = .ok (.goto (-15), 3) := by decide +kernel
theorem dX12_isOf_2 : decode cX12_isOf 2 = .ok (.iload_n 2, 1) := by decide +kernel
theorem dX12_isOf_20 : decode cX12_isOf 20 = .ok (.iload_n 2, 1) := by decide +kernel
theorem dX12_isOf_21 : decode cX12_isOf 21 = .ok (.iload_n 1, 1) := by decide +kernel
theorem dX12_isOf_22 : decode cX12_isOf 22 = .ok (.if_icmp .ne 7, 3) := by decide +kernel
theorem dX12_isOf_25 : decode cX12_isOf 25 = .ok (.iconst 1, 1) := by decide +kernel
theorem dX12_isOf_26 : decode cX12_isOf 26 = .ok (.goto 4, 3) := by decide +kernel
theorem dX12_isOf_29 : decode cX12_isOf 29 = .ok (.iconst 0, 1) := by decide +kernel
theorem dX12_isOf_3 : decode cX12_isOf 3 = .ok (.iconst (-1), 1) := by decide +kernel
theorem dX12_isOf_30 : decode cX12_isOf 30 = .ok (.ireturn, 1) := by decide +kernel
theorem dX12_isOf_4 : decode cX12_isOf 4 = .ok (.if_icmp .eq 16, 3) := by decide +kernel
theorem dX12_isOf_7 : decode cX12_isOf 7 = .ok (.iload_n 2, 1) := by decide +kernel
theorem dX12_isOf_8 : decode cX12_isOf 8 = .ok (.iload_n 1, 1) := by decide +kernel
theorem dX12_isOf_9 : decode cX12_isOf 9 = .ok (.if_icmp .eq 11, 3) := by decide +kernel
set_option maxHeartbeats 4000000 in
set_option maxRecDepth 100000 in
theorem w_X12_isOf (l : Launch) (D : va_G) (cI cS : ClassId) (x0 x1 : Int32) (px0 : Rg (-1) 6 x0) : Met l yX12_isOf wsX12_isOf ({ frames := 1, cells := 0, slots := 0, locals := 40 }) (PS D cI cS [] [.int x0, .int x1]) (vp_Si (fun r => Rg 0 1 r ∧ (r ≠ 0 → Rg (-1) 6 x1))) 0 0 (fun _ => False) := by
  refine Met.ofW (cc := cX12_isOf) (maxL := 3) (ret := (some .boolean)) (by decide) rfl ?_
  intro p e s m args below meth c s₁ B hml hv
  obtain ⟨rfl, hP, hKK⟩ := hv
  have hx := B.exec
  have hb := B.bytes
  have hr := B.returns
  have hts := atoms_spec (ws := wsX12_isOf) B.pre
  have hown : s.vm.findClass RX12 = some m.cls := findClass_of_methodNamed B.named
  have hlocks := B.notSynchronized
  have hK := hKK.1
  have hl := lv_entry ([.int x0, .int x1]) (n := 3) (Nat.le_of_ble_eq_true rfl)
  rw [lg_entry_eq]
  generalize (lg_sl ([.int x0, .int x1]) ++ List.replicate (3 - (lg_sl ([.int x0, .int x1])).length) Slot.unset).toArray = ls at hl ⊢
  have hl : lv_has ls 3 [(0, .int x0), (1, .int x1)] := hl
  have lp2 : ∀ (n2 : Nat) (y2_l2 : Int32) (ls : Array Slot), Rg (-1) 6 y2_l2 → lv_has ls 3 [(1, .int x1), (2, .int y2_l2)] → y2_l2.toInt + 1 < (n2 : Int) → W p l e (headSpec wsX12_isOf ({ frames := 1, cells := 0, slots := 0, locals := 40 })).room s m ([.int x0, .int x1]).toArray below meth c s.heap [] 0 0 (MQ below (vp_Si (fun r => Rg 0 1 r ∧ (r ≠ 0 → Rg (-1) 6 x1))) ([.int x0, .int x1]).toArray s 0 0 (fun _ => False)) (F0 m 2 ls []) := by
    intro n2
    induction n2 with
    | zero =>
      intro y2_l2 ls g2_l2 hl hm2
      exact False.elim (by have z9 := g2_l2.1; omega)
    | succ n2 ih2 =>
      intro y2_l2 ls g2_l2 hl hm2
      refine lv_iload_n hx hb dX12_isOf_2 rfl (lv_at hl 1 rfl) ?_
      refine lv_iconst (v := (-1)) hx hb dX12_isOf_3 (by decide) ?_
      refine lv_icmp_eq (tgt := 20) hx hb dX12_isOf_4 (by decide) (fun c16686 => ?_) (fun c16686 => ?_)
      · have g16687 : Rg (-1) (-1) y2_l2 := wk_eql g2_l2 (by decide : Rg (-1) (-1) ((-1) : Int32)) c16686 (by decide)
        refine lv_iload_n hx hb dX12_isOf_20 rfl (lv_at hl 1 rfl) ?_
        refine lv_iload_n hx hb dX12_isOf_21 rfl (lv_at hl 0 rfl) ?_
        refine lv_icmp_ne (tgt := 29) hx hb dX12_isOf_22 (by decide) (fun c16688 => ?_) (fun c16688 => ?_)
        · refine lv_iconst (v := 0) hx hb dX12_isOf_29 (by decide) ?_
          exact W.zret (v := 0) hx hb hr (by decide) (fun t ht hW => ⟨_, rfl, ⟨(by decide : Rg 0 1 (0 : Int32)), fun h9 => absurd rfl h9⟩, ht⟩) (fun q hq => absurd hq List.not_mem_nil) dX12_isOf_30
        · have g16689 : Rg (-1) (-1) x1 := wk_eqr g16687 (rg_any x1) c16688 (by decide)
          refine lv_iconst (v := 1) hx hb dX12_isOf_25 (by decide) ?_
          refine lv_goto (tgt := 30) hx hb dX12_isOf_26 (by decide) ?_
          exact W.zret (v := 1) hx hb hr (by decide) (fun t ht hW => ⟨_, rfl, ⟨(by decide : Rg 0 1 (1 : Int32)), fun _ => (show Rg (-1) 6 x1 from rg_w g16689 (by decide) (by decide))⟩, ht⟩) (fun q hq => absurd hq List.not_mem_nil) dX12_isOf_30
      · have g16690 : Rg 0 6 y2_l2 := rg_ne_lo (k := (-1)) g2_l2 (by decide) c16686 (by decide)
        refine lv_iload_n hx hb dX12_isOf_7 rfl (lv_at hl 1 rfl) ?_
        refine lv_iload_n hx hb dX12_isOf_8 rfl (lv_at hl 0 rfl) ?_
        refine lv_icmp_eq (tgt := 20) hx hb dX12_isOf_9 (by decide) (fun c16691 => ?_) (fun c16691 => ?_)
        · have g16692 : Rg 0 6 x1 := wk_eqr g16690 (rg_any x1) c16691 (by decide)
          refine lv_iload_n hx hb dX12_isOf_20 rfl (lv_at hl 1 rfl) ?_
          refine lv_iload_n hx hb dX12_isOf_21 rfl (lv_at hl 0 rfl) ?_
          refine lv_icmp_ne (tgt := 29) hx hb dX12_isOf_22 (by decide) (fun c16693 => ?_) (fun c16693 => ?_)
          · refine lv_iconst (v := 0) hx hb dX12_isOf_29 (by decide) ?_
            exact W.zret (v := 0) hx hb hr (by decide) (fun t ht hW => ⟨_, rfl, ⟨(by decide : Rg 0 1 (0 : Int32)), fun h9 => absurd rfl h9⟩, ht⟩) (fun q hq => absurd hq List.not_mem_nil) dX12_isOf_30
          · refine lv_iconst (v := 1) hx hb dX12_isOf_25 (by decide) ?_
            refine lv_goto (tgt := 30) hx hb dX12_isOf_26 (by decide) ?_
            exact W.zret (v := 1) hx hb hr (by decide) (fun t ht hW => ⟨_, rfl, ⟨(by decide : Rg 0 1 (1 : Int32)), fun _ => (show Rg (-1) 6 x1 from rg_w g16692 (by decide) (by decide))⟩, ht⟩) (fun q hq => absurd hq List.not_mem_nil) dX12_isOf_30
        · refine lv_iload_n hx hb dX12_isOf_12 rfl (lv_at hl 1 rfl) ?_
          refine lz_ss (As := [.int y2_l2]) (rest := []) ⟨hx, hb, hml, hown, hts⟩ (w_X12_over l D cI cS y2_l2 g16690) hKK (hP.sub (ws' := []) [] rfl) (va_cwS 1 hts gX12_isOf_X12_over rfl rfl rfl (by decide +kernel) ⟨Nat.le_of_ble_eq_true rfl, Nat.le_of_ble_eq_true rfl⟩) rfl hl.1 rfl (Nat.le_of_ble_eq_true rfl) dX12_isOf_13 ⟨Nat.le_of_ble_eq_true rfl, Nat.le_of_ble_eq_true rfl⟩ (fun r16694 hr16694 => ?_)
          refine lv_istore_n (lv' := [(2, .int r16694), (1, .int x1)]) hx hb dX12_isOf_16 rfl hl (by decide) rfl (fun ls hl => ?_)
          refine lv_goto (tgt := 2) hx hb dX12_isOf_17 (by decide) ?_
          exact ih2 r16694 ls (show Rg (-1) 6 r16694 from rg_w hr16694.1 (by decide) (by decide)) (lv_sub (l' := [(1, .int x1), (2, .int r16694)]) hl [1, 0] rfl) (by have z9 := hr16694.2.2; omega)
  refine lv_iload_n hx hb dX12_isOf_0 rfl (lv_at hl 0 rfl) ?_
  refine lv_istore_n (lv' := [(2, .int x0), (0, .int x0), (1, .int x1)]) hx hb dX12_isOf_1 rfl hl (by decide) rfl (fun ls hl => ?_)
  exact lp2 8 x0 ls px0 (lv_sub (l' := [(1, .int x1), (2, .int x0)]) hl [2, 0] rfl) (by have z9 := px0.2; omega)
set_option maxRecDepth 20000 in
theorem ggX12_taken_X12_isOf : GoodIn wsX12_taken wsX12_isOf := goodIn_r _ [13, 14, 15, 6, 16] rfl (by decide +kernel)
set_option maxRecDepth 20000 in
theorem gX12_taken_X12_isOf : GoodIn wsX12_taken (va_wsS RX12 231 yX12_isOf wsX12_isOf) := goodIn_app (goodIn_of _ (by decide +kernel)) ggX12_taken_X12_isOf
theorem dX12_taken_100 : decode cX12_taken 100 = .ok (.iload_n 3, 1) := by decide +kernel
theorem dX12_taken_101 : decode cX12_taken 101 = .ok (.ifCond .eq 12, 3) := by decide +kernel
theorem dX12_taken_104 : decode cX12_taken 104 = .ok (.aload_n 0, 1) := by decide +kernel
theorem dX12_taken_105 : decode cX12_taken 105 = .ok (.getfield 50, 3) := by decide +kernel
theorem dX12_taken_108 : decode cX12_taken 108 = .ok (.iload_n 1, 1) := by decide +kernel
theorem dX12_taken_109 : decode cX12_taken 109 = .ok (.iaload, 1) := by decide +kernel
theorem dX12_taken_110 : decode cX12_taken 110 = .ok (.goto 5, 3) := by decide +kernel
theorem dX12_taken_113 : decode cX12_taken 113 = .ok (.bipush (-13), 2) := by decide +kernel
theorem dX12_taken_115 : decode cX12_taken 115 = .ok (.ireturn, 1) := by decide +kernel
theorem dX12_taken_43 : decode cX12_taken 43 = .ok (.aload_n 0, 1) := by decide +kernel
theorem dX12_taken_44 : decode cX12_taken 44 = .ok (.getfield 47, 3) := by decide +kernel
theorem dX12_taken_47 : decode cX12_taken 47 = .ok (.iload_n 1, 1) := by decide +kernel
theorem dX12_taken_48 : decode cX12_taken 48 = .ok (.iaload, 1) := by decide +kernel
theorem dX12_taken_49 : decode cX12_taken 49 = .ok (.bipush 6, 2) := by decide +kernel
theorem dX12_taken_51 : decode cX12_taken 51 = .ok (.if_icmp .ne 24, 3) := by decide +kernel
theorem dX12_taken_54 : decode cX12_taken 54 = .ok (.iload_n 2, 1) := by decide +kernel
theorem dX12_taken_55 : decode cX12_taken 55 = .ok (.bipush 10, 2) := by decide +kernel
theorem dX12_taken_57 : decode cX12_taken 57 = .ok (.isub, 1) := by decide +kernel
theorem dX12_taken_58 : decode cX12_taken 58 = .ok (.aload_n 0, 1) := by decide +kernel
theorem dX12_taken_59 : decode cX12_taken 59 = .ok (.getfield 53, 3) := by decide +kernel
theorem dX12_taken_62 : decode cX12_taken 62 = .ok (.iload_n 1, 1) := by decide +kernel
theorem dX12_taken_63 : decode cX12_taken 63 = .ok (.iaload, 1) := by decide +kernel
theorem dX12_taken_64 : decode cX12_taken 64 = .ok (.if_icmp .ne 7, 3) := by decide +kernel
theorem dX12_taken_67 : decode cX12_taken 67 = .ok (.iconst 1, 1) := by decide +kernel
theorem dX12_taken_68 : decode cX12_taken 68 = .ok (.goto 31, 3) := by decide +kernel
theorem dX12_taken_71 : decode cX12_taken 71 = .ok (.iconst 0, 1) := by decide +kernel
theorem dX12_taken_72 : decode cX12_taken 72 = .ok (.goto 27, 3) := by decide +kernel
theorem dX12_taken_75 : decode cX12_taken 75 = .ok (.iload_n 2, 1) := by decide +kernel
theorem dX12_taken_76 : decode cX12_taken 76 = .ok (.bipush 10, 2) := by decide +kernel
theorem dX12_taken_78 : decode cX12_taken 78 = .ok (.if_icmp .ge 20, 3) := by decide +kernel
theorem dX12_taken_81 : decode cX12_taken 81 = .ok (.aload_n 0, 1) := by decide +kernel
theorem dX12_taken_82 : decode cX12_taken 82 = .ok (.getfield 47, 3) := by decide +kernel
theorem dX12_taken_85 : decode cX12_taken 85 = .ok (.iload_n 1, 1) := by decide +kernel
theorem dX12_taken_86 : decode cX12_taken 86 = .ok (.iaload, 1) := by decide +kernel
theorem dX12_taken_87 : decode cX12_taken 87 = .ok (.iload_n 2, 1) := by decide +kernel
theorem dX12_taken_88 : decode cX12_taken 88 = .ok (.invokestatic 231, 3) := by decide +kernel
theorem dX12_taken_91 : decode cX12_taken 91 = .ok (.ifCond .eq 7, 3) := by decide +kernel
theorem dX12_taken_94 : decode cX12_taken 94 = .ok (.iconst 1, 1) := by decide +kernel
theorem dX12_taken_95 : decode cX12_taken 95 = .ok (.goto 4, 3) := by decide +kernel
theorem dX12_taken_98 : decode cX12_taken 98 = .ok (.iconst 0, 1) := by decide +kernel
theorem dX12_taken_99 : decode cX12_taken 99 = .ok (.istore_n 3, 1) := by decide +kernel
set_option maxHeartbeats 4000000 in
set_option maxRecDepth 100000 in
theorem w_X12_taken (l : Launch) (D : va_G) (cI cS : ClassId) (b : Nat → Nat) (L v : SU) (hL : TyL L) (hV : TyV v) (x0 x1 : Int32) : Met l yX12_taken wsX12_taken ({ frames := 2, cells := 0, slots := 0, locals := 80 }) (PS D cI cS (wM cI b L v) [.ref (b 0), .int x0, .int x1]) (vp_Si (fun r => Rg (-2147483648) 2147483647 r ∧ True)) 0 0 (fun _ => False) := by
  refine Met.ofW (cc := cX12_taken) (maxL := 4) (ret := (some .int)) (by decide) rfl ?_
  intro p e s m args below meth c s₁ B hml hv
  obtain ⟨rfl, hP, hKK⟩ := hv
  have hx := B.exec
  have hb := B.bytes
  have hr := B.returns
  have hts := atoms_spec (ws := wsX12_taken) B.pre
  have hown : s.vm.findClass RX12 = some m.cls := findClass_of_methodNamed B.named
  have hlocks := B.notSynchronized
  have hK := hKK.1
  have hin12 : ∀ w ∈ wsX120, w ∈ wsX12_taken := by decide +kernel
  have hl := lv_entry ([.ref (b 0), .int x0, .int x1]) (n := 4) (Nat.le_of_ble_eq_true rfl)
  rw [lg_entry_eq]
  generalize (lg_sl ([.ref (b 0), .int x0, .int x1]) ++ List.replicate (4 - (lg_sl ([.ref (b 0), .int x0, .int x1])).length) Slot.unset).toArray = ls at hl ⊢
  have hl : lv_has ls 4 [(0, .ref (b 0)), (1, .int x0), (2, .int x1)] := hl
  have ct30 : ∀ (ls : Array Slot), Rg 0 3 x0 → Rg 0 11 x1 → lv_has ls 4 [(0, .ref (b 0)), (1, .int x0), (2, .int x1)] → W p l e (headSpec wsX12_taken ({ frames := 2, cells := 0, slots := 0, locals := 80 })).room s m ([.ref (b 0), .int x0, .int x1]).toArray below meth c s.heap [] 0 0 (MQ below (vp_Si (fun r => Rg (-2147483648) 2147483647 r ∧ True)) ([.ref (b 0), .int x0, .int x1]).toArray s 0 0 (fun _ => False)) (F0 m 30 ls []) := by
    intro ls g30_l1 g30_l2 hl
    refine lv_aload_n hx hb dX12_taken_30 rfl (lv_at hl 0 rfl) ?_
    refine va_get (D := D) (ci := 12) (v := .ref (b 12)) (C := RX12) (T := TX12) (N := 24) hx hb hts hin12 hown hK hP 0 rfl rfl 19 (by decide) (hts (.fieldLink RX12 47 "MissedPointsModel" "heldKind" "[I") (by decide +kernel)) (fun _ h9 => h9) rfl dX12_taken_31 ?_
    refine lv_iload_n hx hb dX12_taken_34 rfl (lv_at hl 1 rfl) ?_
    refine wk_ald hx hb hK hP 12 0 rfl rfl (rg_in g30_l1 (by decide) (by decide)) dX12_taken_35 hV.2.2.2.2 (fun r16789 hr16789 => ?_)
    refine lv_iconst (v := (-1)) hx hb dX12_taken_36 (by decide) ?_
    refine lv_icmp_ne (tgt := 43) hx hb dX12_taken_37 (by decide) (fun c16790 => ?_) (fun c16790 => ?_)
    · have g16791 : Rg 0 6 r16789 := rg_ne_lo (k := (-1)) hr16789 (by decide) c16790 (by decide)
      refine lv_aload_n hx hb dX12_taken_43 rfl (lv_at hl 0 rfl) ?_
      refine va_get (D := D) (ci := 12) (v := .ref (b 12)) (C := RX12) (T := TX12) (N := 24) hx hb hts hin12 hown hK hP 0 rfl rfl 19 (by decide) (hts (.fieldLink RX12 47 "MissedPointsModel" "heldKind" "[I") (by decide +kernel)) (fun _ h9 => h9) rfl dX12_taken_44 ?_
      refine lv_iload_n hx hb dX12_taken_47 rfl (lv_at hl 1 rfl) ?_
      refine wk_ald hx hb hK hP 12 0 rfl rfl (rg_in g30_l1 (by decide) (by decide)) dX12_taken_48 hV.2.2.2.2 (fun r16792 hr16792 => ?_)
      refine lv_bipush (v := 6) hx hb dX12_taken_49 (by decide) ?_
      refine lv_icmp_ne (tgt := 75) hx hb dX12_taken_51 (by decide) (fun c16793 => ?_) (fun c16793 => ?_)
      · have g16794 : Rg (-1) 5 r16792 := rg_ne_hi (k := 6) hr16792 (by decide) c16793 (by decide)
        refine lv_iload_n hx hb dX12_taken_75 rfl (lv_at hl 2 rfl) ?_
        refine lv_bipush (v := 10) hx hb dX12_taken_76 (by decide) ?_
        refine lv_icmp_ge (tgt := 98) hx hb dX12_taken_78 (by decide) (fun c16795 => ?_) (fun c16795 => ?_)
        · have g16796 : Rg 10 11 x1 := rg_ler (by decide : Rg 10 10 (10 : Int32)) g30_l2 c16795 (by decide)
          refine lv_iconst (v := 0) hx hb dX12_taken_98 (by decide) ?_
          refine lv_istore_n (lv' := [(3, .int 0), (0, .ref (b 0)), (1, .int x0), (2, .int x1)]) hx hb dX12_taken_99 rfl hl (by decide) rfl (fun ls hl => ?_)
          refine lv_iload_n hx hb dX12_taken_100 rfl (lv_at hl 0 rfl) ?_
          refine lv_if_eq (tgt := 113) hx hb dX12_taken_101 (by decide) (fun c16797 => ?_) (fun c16797 => ?_)
          · refine lv_bipush (v := (-13)) hx hb dX12_taken_113 (by decide) ?_
            exact W.iret (v := (-13)) hx hb hr (fun t ht hW => ⟨_, rfl, ⟨(by decide : Rg (-2147483648) 2147483647 ((-13) : Int32)), trivial⟩, ht⟩) (fun q hq => absurd hq List.not_mem_nil) dX12_taken_115
          · exact absurd c16797 (by decide)
        · have g16798 : Rg 0 9 x1 := rg_ltl g30_l2 (by decide : Rg 10 10 (10 : Int32)) (rg_nle c16795) (by decide)
          refine lv_aload_n hx hb dX12_taken_81 rfl (lv_at hl 0 rfl) ?_
          refine va_get (D := D) (ci := 12) (v := .ref (b 12)) (C := RX12) (T := TX12) (N := 24) hx hb hts hin12 hown hK hP 0 rfl rfl 19 (by decide) (hts (.fieldLink RX12 47 "MissedPointsModel" "heldKind" "[I") (by decide +kernel)) (fun _ h9 => h9) rfl dX12_taken_82 ?_
          refine lv_iload_n hx hb dX12_taken_85 rfl (lv_at hl 1 rfl) ?_
          refine wk_ald hx hb hK hP 12 0 rfl rfl (rg_in g30_l1 (by decide) (by decide)) dX12_taken_86 hV.2.2.2.2 (fun r16799 hr16799 => ?_)
          refine lv_iload_n hx hb dX12_taken_87 rfl (lv_at hl 2 rfl) ?_
          refine lz_ss (As := [.int r16799, .int x1]) (rest := []) ⟨hx, hb, hml, hown, hts⟩ (w_X12_isOf l D cI cS r16799 x1 hr16799) hKK (hP.sub (ws' := []) [] rfl) (va_cwS 2 hts gX12_taken_X12_isOf rfl rfl rfl (by decide +kernel) ⟨Nat.le_of_ble_eq_true rfl, Nat.le_of_ble_eq_true rfl⟩) rfl hl.1 rfl (Nat.le_of_ble_eq_true rfl) dX12_taken_88 ⟨Nat.le_of_ble_eq_true rfl, Nat.le_of_ble_eq_true rfl⟩ (fun r16800 hr16800 => ?_)
          refine lv_if_eq (tgt := 98) hx hb dX12_taken_91 (by decide) (fun c16801 => ?_) (fun c16801 => ?_)
          · have g16802 : Rg 0 0 r16800 := wk_eql hr16800.1 (by decide : Rg 0 0 (0 : Int32)) c16801 (by decide)
            refine lv_iconst (v := 0) hx hb dX12_taken_98 (by decide) ?_
            refine lv_istore_n (lv' := [(3, .int 0), (0, .ref (b 0)), (1, .int x0), (2, .int x1)]) hx hb dX12_taken_99 rfl hl (by decide) rfl (fun ls hl => ?_)
            refine lv_iload_n hx hb dX12_taken_100 rfl (lv_at hl 0 rfl) ?_
            refine lv_if_eq (tgt := 113) hx hb dX12_taken_101 (by decide) (fun c16803 => ?_) (fun c16803 => ?_)
            · refine lv_bipush (v := (-13)) hx hb dX12_taken_113 (by decide) ?_
              exact W.iret (v := (-13)) hx hb hr (fun t ht hW => ⟨_, rfl, ⟨(by decide : Rg (-2147483648) 2147483647 ((-13) : Int32)), trivial⟩, ht⟩) (fun q hq => absurd hq List.not_mem_nil) dX12_taken_115
            · exact absurd c16803 (by decide)
          · have g16804 : Rg (-1) 6 x1 := (hr16800.2 c16801)
            have g16805 : Rg 1 1 r16800 := rg_ne_lo (k := 0) hr16800.1 (by decide) c16801 (by decide)
            refine lv_iconst (v := 1) hx hb dX12_taken_94 (by decide) ?_
            refine lv_goto (tgt := 99) hx hb dX12_taken_95 (by decide) ?_
            refine lv_istore_n (lv' := [(3, .int 1), (0, .ref (b 0)), (1, .int x0), (2, .int x1)]) hx hb dX12_taken_99 rfl hl (by decide) rfl (fun ls hl => ?_)
            refine lv_iload_n hx hb dX12_taken_100 rfl (lv_at hl 0 rfl) ?_
            refine lv_if_eq (tgt := 113) hx hb dX12_taken_101 (by decide) (fun c16806 => ?_) (fun c16806 => ?_)
            · exact absurd c16806 (by decide)
            · refine lv_aload_n hx hb dX12_taken_104 rfl (lv_at hl 1 rfl) ?_
              refine va_get (D := D) (ci := 12) (v := .ref (b 13)) (C := RX12) (T := TX12) (N := 24) hx hb hts hin12 hown hK hP 0 rfl rfl 20 (by decide) (hts (.fieldLink RX12 50 "MissedPointsModel" "heldSet" "[I") (by decide +kernel)) (fun _ h9 => h9) rfl dX12_taken_105 ?_
              refine lv_iload_n hx hb dX12_taken_108 rfl (lv_at hl 2 rfl) ?_
              refine wk_aldA hx hb hK hP 13 0 rfl rfl (rg_in g30_l1 (by decide) (by decide)) dX12_taken_109 (fun r16807 => ?_)
              refine lv_goto (tgt := 115) hx hb dX12_taken_110 (by decide) ?_
              exact W.iret (v := r16807) hx hb hr (fun t ht hW => ⟨_, rfl, ⟨(rg_any r16807), trivial⟩, ht⟩) (fun q hq => absurd hq List.not_mem_nil) dX12_taken_115
      · have g16808 : Rg 6 6 r16792 := wk_eql hr16792 (by decide : Rg 6 6 (6 : Int32)) c16793 (by decide)
        refine lv_iload_n hx hb dX12_taken_54 rfl (lv_at hl 2 rfl) ?_
        refine lv_bipush (v := 10) hx hb dX12_taken_55 (by decide) ?_
        refine wk_isub (e1 := (-10)) (f := 1) hx hb dX12_taken_57 g30_l2 (by decide : Rg 10 10 (10 : Int32)) (by decide) (fun r16809 hr16809 er16809 qr16809 => ?_)
        refine lv_aload_n hx hb dX12_taken_58 rfl (lv_at hl 0 rfl) ?_
        refine va_get (D := D) (ci := 12) (v := .ref (b 14)) (C := RX12) (T := TX12) (N := 24) hx hb hts hin12 hown hK hP 0 rfl rfl 21 (by decide) (hts (.fieldLink RX12 53 "MissedPointsModel" "heldSort" "[I") (by decide +kernel)) (fun _ h9 => h9) rfl dX12_taken_59 ?_
        refine lv_iload_n hx hb dX12_taken_62 rfl (lv_at hl 1 rfl) ?_
        refine wk_aldA hx hb hK hP 14 0 rfl rfl (rg_in g30_l1 (by decide) (by decide)) dX12_taken_63 (fun r16810 => ?_)
        refine lv_icmp_ne (tgt := 71) hx hb dX12_taken_64 (by decide) (fun c16811 => ?_) (fun c16811 => ?_)
        · refine lv_iconst (v := 0) hx hb dX12_taken_71 (by decide) ?_
          refine lv_goto (tgt := 99) hx hb dX12_taken_72 (by decide) ?_
          refine lv_istore_n (lv' := [(3, .int 0), (0, .ref (b 0)), (1, .int x0), (2, .int x1)]) hx hb dX12_taken_99 rfl hl (by decide) rfl (fun ls hl => ?_)
          refine lv_iload_n hx hb dX12_taken_100 rfl (lv_at hl 0 rfl) ?_
          refine lv_if_eq (tgt := 113) hx hb dX12_taken_101 (by decide) (fun c16812 => ?_) (fun c16812 => ?_)
          · refine lv_bipush (v := (-13)) hx hb dX12_taken_113 (by decide) ?_
            exact W.iret (v := (-13)) hx hb hr (fun t ht hW => ⟨_, rfl, ⟨(by decide : Rg (-2147483648) 2147483647 ((-13) : Int32)), trivial⟩, ht⟩) (fun q hq => absurd hq List.not_mem_nil) dX12_taken_115
          · exact absurd c16812 (by decide)
        · have g16813 : Rg (-10) 1 r16810 := wk_eqr hr16809 (rg_any r16810) c16811 (by decide)
          refine lv_iconst (v := 1) hx hb dX12_taken_67 (by decide) ?_
          refine lv_goto (tgt := 99) hx hb dX12_taken_68 (by decide) ?_
          refine lv_istore_n (lv' := [(3, .int 1), (0, .ref (b 0)), (1, .int x0), (2, .int x1)]) hx hb dX12_taken_99 rfl hl (by decide) rfl (fun ls hl => ?_)
          refine lv_iload_n hx hb dX12_taken_100 rfl (lv_at hl 0 rfl) ?_
          refine lv_if_eq (tgt := 113) hx hb dX12_taken_101 (by decide) (fun c16814 => ?_) (fun c16814 => ?_)
          · exact absurd c16814 (by decide)
          · refine lv_aload_n hx hb dX12_taken_104 rfl (lv_at hl 1 rfl) ?_
            refine va_get (D := D) (ci := 12) (v := .ref (b 13)) (C := RX12) (T := TX12) (N := 24) hx hb hts hin12 hown hK hP 0 rfl rfl 20 (by decide) (hts (.fieldLink RX12 50 "MissedPointsModel" "heldSet" "[I") (by decide +kernel)) (fun _ h9 => h9) rfl dX12_taken_105 ?_
            refine lv_iload_n hx hb dX12_taken_108 rfl (lv_at hl 2 rfl) ?_
            refine wk_aldA hx hb hK hP 13 0 rfl rfl (rg_in g30_l1 (by decide) (by decide)) dX12_taken_109 (fun r16815 => ?_)
            refine lv_goto (tgt := 115) hx hb dX12_taken_110 (by decide) ?_
            exact W.iret (v := r16815) hx hb hr (fun t ht hW => ⟨_, rfl, ⟨(rg_any r16815), trivial⟩, ht⟩) (fun q hq => absurd hq List.not_mem_nil) dX12_taken_115
    · have g16816 : Rg (-1) (-1) r16789 := wk_eql hr16789 (by decide : Rg (-1) (-1) ((-1) : Int32)) c16790 (by decide)
      refine lv_bipush (v := (-11)) hx hb dX12_taken_40 (by decide) ?_
      exact W.iret (v := (-11)) hx hb hr (fun t ht hW => ⟨_, rfl, ⟨(by decide : Rg (-2147483648) 2147483647 ((-11) : Int32)), trivial⟩, ht⟩) (fun q hq => absurd hq List.not_mem_nil) dX12_taken_42
  refine lv_iload_n hx hb dX12_taken_0 rfl (lv_at hl 1 rfl) ?_
  refine lz_ss (As := [.int x0]) (rest := []) ⟨hx, hb, hml, hown, hts⟩ (w_X12_isShelf l D cI cS x0) hKK (hP.sub (ws' := []) [] rfl) (va_cwS 1 hts gX12_taken_X12_isShelf rfl rfl rfl (by decide +kernel) ⟨Nat.le_of_ble_eq_true rfl, Nat.le_of_ble_eq_true rfl⟩) rfl hl.1 rfl (Nat.le_of_ble_eq_true rfl) dX12_taken_1 ⟨Nat.le_of_ble_eq_true rfl, Nat.le_of_ble_eq_true rfl⟩ (fun r16817 hr16817 => ?_)
  refine lv_if_eq (tgt := 27) hx hb dX12_taken_4 (by decide) (fun c16818 => ?_) (fun c16818 => ?_)
  · have g16819 : Rg 0 0 r16817 := wk_eql hr16817.1 (by decide : Rg 0 0 (0 : Int32)) c16818 (by decide)
    refine lv_bipush (v := (-2)) hx hb dX12_taken_27 (by decide) ?_
    exact W.iret (v := (-2)) hx hb hr (fun t ht hW => ⟨_, rfl, ⟨(by decide : Rg (-2147483648) 2147483647 ((-2) : Int32)), trivial⟩, ht⟩) (fun q hq => absurd hq List.not_mem_nil) dX12_taken_29
  · have g16820 : Rg 0 3 x0 := (hr16817.2 c16818)
    have g16821 : Rg 1 1 r16817 := rg_ne_lo (k := 0) hr16817.1 (by decide) c16818 (by decide)
    refine lv_iload_n hx hb dX12_taken_7 rfl (lv_at hl 2 rfl) ?_
    refine lv_iconst (v := 0) hx hb dX12_taken_8 (by decide) ?_
    refine lv_iconst (v := 5) hx hb dX12_taken_9 (by decide) ?_
    refine lz_ss (As := [.int x1, .int 0, .int 5]) (rest := []) ⟨hx, hb, hml, hown, hts⟩ (w_X12_in l D cI cS x1 (0 : Int32) (5 : Int32)) hKK (hP.sub (ws' := []) [] rfl) (va_cwS 3 hts gX12_taken_X12_in rfl rfl rfl (by decide +kernel) ⟨Nat.le_of_ble_eq_true rfl, Nat.le_of_ble_eq_true rfl⟩) rfl hl.1 rfl (Nat.le_of_ble_eq_true rfl) dX12_taken_10 ⟨Nat.le_of_ble_eq_true rfl, Nat.le_of_ble_eq_true rfl⟩ (fun r16822 hr16822 => ?_)
    refine lv_if_ne (tgt := 30) hx hb dX12_taken_13 (by decide) (fun c16823 => ?_) (fun c16823 => ?_)
    · have zn16824 : (0 : Int32).toInt ≤ x1.toInt ∧ x1.toInt ≤ (5 : Int32).toInt := (hr16822.2.2 c16823)
      have g16825 : Rg 0 5 x1 := wk_in3 (rg_any x1) (by decide : Rg 0 0 (0 : Int32)) (by decide : Rg 5 5 (5 : Int32)) (hr16822.2.2 c16823) (by decide)
      have g16826 : Rg 1 1 r16822 := rg_ne_lo (k := 0) hr16822.1 (by decide) c16823 (by decide)
      exact ct30 ls g16820 (show Rg 0 11 x1 from rg_w g16825 (by decide) (by decide)) (lv_sub (l' := [(0, .ref (b 0)), (1, .int x0), (2, .int x1)]) hl [0, 1, 2] rfl)
    · have zt16827 : (x1.toInt < (0 : Int32).toInt ∨ (5 : Int32).toInt < x1.toInt) := hr16822.2.1 c16823
      have g16828 : Rg 0 0 r16822 := wk_eql hr16822.1 (by decide : Rg 0 0 (0 : Int32)) c16823 (by decide)
      refine lv_iload_n hx hb dX12_taken_16 rfl (lv_at hl 2 rfl) ?_
      refine lv_bipush (v := 10) hx hb dX12_taken_17 (by decide) ?_
      refine lv_bipush (v := 11) hx hb dX12_taken_19 (by decide) ?_
      refine lz_ss (As := [.int x1, .int 10, .int 11]) (rest := []) ⟨hx, hb, hml, hown, hts⟩ (w_X12_in l D cI cS x1 (10 : Int32) (11 : Int32)) hKK (hP.sub (ws' := []) [] rfl) (va_cwS 3 hts gX12_taken_X12_in rfl rfl rfl (by decide +kernel) ⟨Nat.le_of_ble_eq_true rfl, Nat.le_of_ble_eq_true rfl⟩) rfl hl.1 rfl (Nat.le_of_ble_eq_true rfl) dX12_taken_21 ⟨Nat.le_of_ble_eq_true rfl, Nat.le_of_ble_eq_true rfl⟩ (fun r16829 hr16829 => ?_)
      refine lv_if_ne (tgt := 30) hx hb dX12_taken_24 (by decide) (fun c16830 => ?_) (fun c16830 => ?_)
      · have zn16831 : (10 : Int32).toInt ≤ x1.toInt ∧ x1.toInt ≤ (11 : Int32).toInt := (hr16829.2.2 c16830)
        have g16832 : Rg 10 11 x1 := wk_in3 (rg_any x1) (by decide : Rg 10 10 (10 : Int32)) (by decide : Rg 11 11 (11 : Int32)) (hr16829.2.2 c16830) (by decide)
        have g16833 : Rg 1 1 r16829 := rg_ne_lo (k := 0) hr16829.1 (by decide) c16830 (by decide)
        exact ct30 ls g16820 (show Rg 0 11 x1 from rg_w g16832 (by decide) (by decide)) (lv_sub (l' := [(0, .ref (b 0)), (1, .int x0), (2, .int x1)]) hl [0, 1, 2] rfl)
      · have zt16834 : (x1.toInt < (10 : Int32).toInt ∨ (11 : Int32).toInt < x1.toInt) := hr16829.2.1 c16830
        have g16835 : Rg 0 0 r16829 := wk_eql hr16829.1 (by decide : Rg 0 0 (0 : Int32)) c16830 (by decide)
        refine lv_bipush (v := (-2)) hx hb dX12_taken_27 (by decide) ?_
        exact W.iret (v := (-2)) hx hb hr (fun t ht hW => ⟨_, rfl, ⟨(by decide : Rg (-2147483648) 2147483647 ((-2) : Int32)), trivial⟩, ht⟩) (fun q hq => absurd hq List.not_mem_nil) dX12_taken_29
set_option maxRecDepth 20000 in
theorem ggX12_held_X12_bits : GoodIn wsX12_held wsX12_bits := goodIn_r _ [15] rfl (by decide +kernel)
set_option maxRecDepth 20000 in
theorem gX12_held_X12_bits : GoodIn wsX12_held (va_wsS RX12 85 yX12_bits wsX12_bits) := goodIn_app (goodIn_of _ (by decide +kernel)) ggX12_held_X12_bits
set_option maxRecDepth 20000 in
theorem ggX12_held_X12_isOf : GoodIn wsX12_held wsX12_isOf := goodIn_r _ [9, 10, 11, 5, 12] rfl (by decide +kernel)
set_option maxRecDepth 20000 in
theorem gX12_held_X12_isOf : GoodIn wsX12_held (va_wsS RX12 231 yX12_isOf wsX12_isOf) := goodIn_app (goodIn_of _ (by decide +kernel)) ggX12_held_X12_isOf
theorem dX12_held_101 : decode cX12_held 101 = .ok (.aload_n 0, 1) := by decide +kernel
theorem dX12_held_102 : decode cX12_held 102 = .ok (.getfield 50, 3) := by decide +kernel
theorem dX12_held_105 : decode cX12_held 105 = .ok (.iload 5, 2) := by decide +kernel
theorem dX12_held_107 : decode cX12_held 107 = .ok (.iaload, 1) := by decide +kernel
theorem dX12_held_108 : decode cX12_held 108 = .ok (.invokestatic 85, 3) := by decide +kernel
theorem dX12_held_111 : decode cX12_held 111 = .ok (.if_icmp .le 8, 3) := by decide +kernel
theorem dX12_held_114 : decode cX12_held 114 = .ok (.iload 6, 2) := by decide +kernel
theorem dX12_held_116 : decode cX12_held 116 = .ok (.goto 5, 3) := by decide +kernel
theorem dX12_held_119 : decode cX12_held 119 = .ok (.iload 5, 2) := by decide +kernel
theorem dX12_held_121 : decode cX12_held 121 = .ok (.istore 5, 2) := by decide +kernel
theorem dX12_held_53 : decode cX12_held 53 = .ok (.aload_n 0, 1) := by decide +kernel
theorem dX12_held_54 : decode cX12_held 54 = .ok (.getfield 47, 3) := by decide +kernel
theorem dX12_held_57 : decode cX12_held 57 = .ok (.iload 6, 2) := by decide +kernel
theorem dX12_held_59 : decode cX12_held 59 = .ok (.iaload, 1) := by decide +kernel
theorem dX12_held_60 : decode cX12_held 60 = .ok (.iload_n 1, 1) := by decide +kernel
theorem dX12_held_61 : decode cX12_held 61 = .ok (.invokestatic 231, 3) := by decide +kernel
theorem dX12_held_64 : decode cX12_held 64 = .ok (.ifCond .ne 6, 3) := by decide +kernel
theorem dX12_held_67 : decode cX12_held 67 = .ok (.goto 56, 3) := by decide +kernel
theorem dX12_held_70 : decode cX12_held 70 = .ok (.iinc 3 1, 3) := by decide +kernel
theorem dX12_held_73 : decode cX12_held 73 = .ok (.iload 4, 2) := by decide +kernel
theorem dX12_held_75 : decode cX12_held 75 = .ok (.aload_n 0, 1) := by decide +kernel
theorem dX12_held_76 : decode cX12_held 76 = .ok (.getfield 50, 3) := by decide +kernel
theorem dX12_held_79 : decode cX12_held 79 = .ok (.iload 6, 2) := by decide +kernel
theorem dX12_held_81 : decode cX12_held 81 = .ok (.iaload, 1) := by decide +kernel
theorem dX12_held_82 : decode cX12_held 82 = .ok (.ior, 1) := by decide +kernel
theorem dX12_held_83 : decode cX12_held 83 = .ok (.istore 4, 2) := by decide +kernel
theorem dX12_held_85 : decode cX12_held 85 = .ok (.iload 5, 2) := by decide +kernel
theorem dX12_held_87 : decode cX12_held 87 = .ok (.iconst (-1), 1) := by decide +kernel
theorem dX12_held_88 : decode cX12_held 88 = .ok (.if_icmp .eq 26, 3) := by decide +kernel
theorem dX12_held_91 : decode cX12_held 91 = .ok (.aload_n 0, 1) := by decide +kernel
theorem dX12_held_92 : decode cX12_held 92 = .ok (.getfield 50, 3) := by decide +kernel
theorem dX12_held_95 : decode cX12_held 95 = .ok (.iload 6, 2) := by decide +kernel
theorem dX12_held_97 : decode cX12_held 97 = .ok (.iaload, 1) := by decide +kernel
theorem dX12_held_98 : decode cX12_held 98 = .ok (.invokestatic 85, 3) := by decide +kernel
set_option maxHeartbeats 4000000 in
set_option maxRecDepth 100000 in
theorem w_X12_held (l : Launch) (D : va_G) (cI cS : ClassId) (b : Nat → Nat) (L v : SU) (hL : TyL L) (hV : TyV v) (x0 x1 : Int32) : Met l yX12_held wsX12_held ({ frames := 2, cells := 0, slots := 0, locals := 80 }) (PS D cI cS (wM cI b L v) [.ref (b 0), .int x0, .int x1]) (vp_Si (fun r => Rg (-2147483648) 2147483647 r ∧ True)) 0 0 (fun _ => False) := by
  refine Met.ofW (cc := cX12_held) (maxL := 7) (ret := (some .int)) (by decide) rfl ?_
  intro p e s m args below meth c s₁ B hml hv
  obtain ⟨rfl, hP, hKK⟩ := hv
  have hx := B.exec
  have hb := B.bytes
  have hr := B.returns
  have hts := atoms_spec (ws := wsX12_held) B.pre
  have hown : s.vm.findClass RX12 = some m.cls := findClass_of_methodNamed B.named
  have hlocks := B.notSynchronized
  have hK := hKK.1
  have hin12 : ∀ w ∈ wsX120, w ∈ wsX12_held := by decide +kernel
  have hl := lv_entry ([.ref (b 0), .int x0, .int x1]) (n := 7) (Nat.le_of_ble_eq_true rfl)
  rw [lg_entry_eq]
  generalize (lg_sl ([.ref (b 0), .int x0, .int x1]) ++ List.replicate (7 - (lg_sl ([.ref (b 0), .int x0, .int x1])).length) Slot.unset).toArray = ls at hl ⊢
  have hl : lv_has ls 7 [(0, .ref (b 0)), (1, .int x0), (2, .int x1)] := hl
  have lp32 : ∀ (n32 : Nat) (y32_l3 : Int32) (y32_l4 : Int32) (y32_l5 : Int32) (y32_l6 : Int32) (ls : Array Slot), Rg 0 5 x0 → Rg 0 2 x1 → Rg (-1) 3 y32_l5 → Rg 0 4 y32_l6 → lv_has ls 7 [(0, .ref (b 0)), (1, .int x0), (2, .int x1), (3, .int y32_l3), (4, .int y32_l4), (5, .int y32_l5), (6, .int y32_l6)] → 4 - y32_l6.toInt < (n32 : Int) → W p l e (headSpec wsX12_held ({ frames := 2, cells := 0, slots := 0, locals := 80 })).room s m ([.ref (b 0), .int x0, .int x1]).toArray below meth c s.heap [] 0 0 (MQ below (vp_Si (fun r => Rg (-2147483648) 2147483647 r ∧ True)) ([.ref (b 0), .int x0, .int x1]).toArray s 0 0 (fun _ => False)) (F0 m 32 ls []) := by
    intro n32
    induction n32 with
    | zero =>
      intro y32_l3 y32_l4 y32_l5 y32_l6 ls g32_l1 g32_l2 g32_l5 g32_l6 hl hm32
      exact absurd rfl (me_z g32_l6 hm32)
    | succ n32 ih32 =>
      intro y32_l3 y32_l4 y32_l5 y32_l6 ls g32_l1 g32_l2 g32_l5 g32_l6 hl hm32
      refine lv_iload hx hb dX12_held_32 (lv_at hl 6 rfl) ?_
      refine lv_iconst (v := 4) hx hb dX12_held_34 (by decide) ?_
      refine lv_icmp_ge (tgt := 129) hx hb dX12_held_35 (by decide) (fun c18279 => ?_) (fun c18279 => ?_)
      · have g18280 : Rg 4 4 y32_l6 := rg_ler (by decide : Rg 4 4 (4 : Int32)) g32_l6 c18279 (by decide)
        refine lv_iload_n hx hb dX12_held_129 rfl (lv_at hl 2 rfl) ?_
        refine lv_if_ne (tgt := 137) hx hb dX12_held_130 (by decide) (fun c18281 => ?_) (fun c18281 => ?_)
        · have g18282 : Rg 1 2 x1 := rg_ne_lo (k := 0) g32_l2 (by decide) c18281 (by decide)
          refine lv_iload_n hx hb dX12_held_137 rfl (lv_at hl 2 rfl) ?_
          refine lv_iconst (v := 1) hx hb dX12_held_138 (by decide) ?_
          refine lv_icmp_ne (tgt := 147) hx hb dX12_held_139 (by decide) (fun c18283 => ?_) (fun c18283 => ?_)
          · have g18284 : Rg 2 2 x1 := rg_ne_lo (k := 1) g18282 (by decide) c18283 (by decide)
            refine lv_iload hx hb dX12_held_147 (lv_at hl 5 rfl) ?_
            exact W.iret (v := y32_l5) hx hb hr (fun t ht hW => ⟨_, rfl, ⟨(rg_any y32_l5), trivial⟩, ht⟩) (fun q hq => absurd hq List.not_mem_nil) dX12_held_149
          · have g18285 : Rg 1 1 x1 := wk_eql g18282 (by decide : Rg 1 1 (1 : Int32)) c18283 (by decide)
            refine lv_iload hx hb dX12_held_142 (lv_at hl 4 rfl) ?_
            refine lv_goto (tgt := 149) hx hb dX12_held_144 (by decide) ?_
            exact W.iret (v := y32_l4) hx hb hr (fun t ht hW => ⟨_, rfl, ⟨(rg_any y32_l4), trivial⟩, ht⟩) (fun q hq => absurd hq List.not_mem_nil) dX12_held_149
        · have g18286 : Rg 0 0 x1 := wk_eql g32_l2 (by decide : Rg 0 0 (0 : Int32)) c18281 (by decide)
          refine lv_iload_n hx hb dX12_held_133 rfl (lv_at hl 3 rfl) ?_
          refine lv_goto (tgt := 149) hx hb dX12_held_134 (by decide) ?_
          exact W.iret (v := y32_l3) hx hb hr (fun t ht hW => ⟨_, rfl, ⟨(rg_any y32_l3), trivial⟩, ht⟩) (fun q hq => absurd hq List.not_mem_nil) dX12_held_149
      · have g18287 : Rg 0 3 y32_l6 := rg_ltl g32_l6 (by decide : Rg 4 4 (4 : Int32)) (rg_nle c18279) (by decide)
        refine lv_aload_n hx hb dX12_held_38 rfl (lv_at hl 0 rfl) ?_
        refine va_get (D := D) (ci := 12) (v := .ref (b 12)) (C := RX12) (T := TX12) (N := 24) hx hb hts hin12 hown hK hP 0 rfl rfl 19 (by decide) (hts (.fieldLink RX12 47 "MissedPointsModel" "heldKind" "[I") (by decide +kernel)) (fun _ h9 => h9) rfl dX12_held_39 ?_
        refine lv_iload hx hb dX12_held_42 (lv_at hl 6 rfl) ?_
        refine wk_ald hx hb hK hP 12 0 rfl rfl (rg_in g18287 (by decide) (by decide)) dX12_held_44 hV.2.2.2.2 (fun r18288 hr18288 => ?_)
        refine lv_iconst (v := 0) hx hb dX12_held_45 (by decide) ?_
        refine lv_iconst (v := 5) hx hb dX12_held_46 (by decide) ?_
        refine lz_ss (As := [.int r18288, .int 0, .int 5]) (rest := []) ⟨hx, hb, hml, hown, hts⟩ (w_X12_in l D cI cS r18288 (0 : Int32) (5 : Int32)) hKK (hP.sub (ws' := []) [] rfl) (va_cwS 3 hts gX12_held_X12_in rfl rfl rfl (by decide +kernel) ⟨Nat.le_of_ble_eq_true rfl, Nat.le_of_ble_eq_true rfl⟩) rfl hl.1 rfl (Nat.le_of_ble_eq_true rfl) dX12_held_47 ⟨Nat.le_of_ble_eq_true rfl, Nat.le_of_ble_eq_true rfl⟩ (fun r18289 hr18289 => ?_)
        refine lv_if_eq (tgt := 123) hx hb dX12_held_50 (by decide) (fun c18290 => ?_) (fun c18290 => ?_)
        · have zt18291 : (r18288.toInt < (0 : Int32).toInt ∨ (5 : Int32).toInt < r18288.toInt) := hr18289.2.1 c18290
          have g18292 : Rg 0 0 r18289 := wk_eql hr18289.1 (by decide : Rg 0 0 (0 : Int32)) c18290 (by decide)
          refine wk_iinc (lv' := fun r => [(6, .int r), (0, .ref (b 0)), (1, .int x0), (2, .int x1), (3, .int y32_l3), (4, .int y32_l4), (5, .int y32_l5)]) (e1 := 1) (f := 4) hx hb dX12_held_123 hl (k := 6) rfl (by decide) g18287 (by decide) (fun _ => rfl) (fun r18293 ls hr18293 er18293 hl => ?_)
          refine lv_goto (tgt := 32) hx hb dX12_held_126 (by decide) ?_
          exact ih32 y32_l3 y32_l4 y32_l5 r18293 ls g32_l1 g32_l2 g32_l5 (show Rg 0 4 r18293 from rg_w hr18293 (by decide) (by decide)) (lv_sub (l' := [(0, .ref (b 0)), (1, .int x0), (2, .int x1), (3, .int y32_l3), (4, .int y32_l4), (5, .int y32_l5), (6, .int r18293)]) hl [1, 2, 3, 4, 5, 6, 0] rfl) (me_up hm32 er18293 (by decide))
        · have zn18294 : (0 : Int32).toInt ≤ r18288.toInt ∧ r18288.toInt ≤ (5 : Int32).toInt := (hr18289.2.2 c18290)
          have g18295 : Rg 1 1 r18289 := rg_ne_lo (k := 0) hr18289.1 (by decide) c18290 (by decide)
          refine lv_aload_n hx hb dX12_held_53 rfl (lv_at hl 0 rfl) ?_
          refine va_get (D := D) (ci := 12) (v := .ref (b 12)) (C := RX12) (T := TX12) (N := 24) hx hb hts hin12 hown hK hP 0 rfl rfl 19 (by decide) (hts (.fieldLink RX12 47 "MissedPointsModel" "heldKind" "[I") (by decide +kernel)) (fun _ h9 => h9) rfl dX12_held_54 ?_
          refine lv_iload hx hb dX12_held_57 (lv_at hl 6 rfl) ?_
          refine wk_ald hx hb hK hP 12 0 rfl rfl (rg_in g18287 (by decide) (by decide)) dX12_held_59 hV.2.2.2.2 (fun r18296 hr18296 => ?_)
          refine lv_iload_n hx hb dX12_held_60 rfl (lv_at hl 1 rfl) ?_
          refine lz_ss (As := [.int r18296, .int x0]) (rest := []) ⟨hx, hb, hml, hown, hts⟩ (w_X12_isOf l D cI cS r18296 x0 hr18296) hKK (hP.sub (ws' := []) [] rfl) (va_cwS 2 hts gX12_held_X12_isOf rfl rfl rfl (by decide +kernel) ⟨Nat.le_of_ble_eq_true rfl, Nat.le_of_ble_eq_true rfl⟩) rfl hl.1 rfl (Nat.le_of_ble_eq_true rfl) dX12_held_61 ⟨Nat.le_of_ble_eq_true rfl, Nat.le_of_ble_eq_true rfl⟩ (fun r18297 hr18297 => ?_)
          refine lv_if_ne (tgt := 70) hx hb dX12_held_64 (by decide) (fun c18298 => ?_) (fun c18298 => ?_)
          · have g18299 : Rg 1 1 r18297 := rg_ne_lo (k := 0) hr18297.1 (by decide) c18298 (by decide)
            refine wk_iincA (lv' := fun r => [(3, .int r), (0, .ref (b 0)), (1, .int x0), (2, .int x1), (4, .int y32_l4), (5, .int y32_l5), (6, .int y32_l6)]) hx hb dX12_held_70 hl (k := 3) rfl (by decide) (fun _ => rfl) (fun r18300 ls hl => ?_)
            refine lv_iload hx hb dX12_held_73 (lv_at hl 4 rfl) ?_
            refine lv_aload_n hx hb dX12_held_75 rfl (lv_at hl 1 rfl) ?_
            refine va_get (D := D) (ci := 12) (v := .ref (b 13)) (C := RX12) (T := TX12) (N := 24) hx hb hts hin12 hown hK hP 0 rfl rfl 20 (by decide) (hts (.fieldLink RX12 50 "MissedPointsModel" "heldSet" "[I") (by decide +kernel)) (fun _ h9 => h9) rfl dX12_held_76 ?_
            refine lv_iload hx hb dX12_held_79 (lv_at hl 6 rfl) ?_
            refine wk_aldA hx hb hK hP 13 0 rfl rfl (rg_in g18287 (by decide) (by decide)) dX12_held_81 (fun r18301 => ?_)
            refine lv_ior hx hb dX12_held_82 ?_
            refine wk_topP (P := fun r => r = y32_l4 ||| r18301) rfl (fun r18302 qr18302 => ?_)
            refine lv_istore (lv' := [(4, .int r18302), (3, .int r18300), (0, .ref (b 0)), (1, .int x0), (2, .int x1), (5, .int y32_l5), (6, .int y32_l6)]) hx hb dX12_held_83 hl (by decide) rfl (fun ls hl => ?_)
            refine lv_iload hx hb dX12_held_85 (lv_at hl 5 rfl) ?_
            refine lv_iconst (v := (-1)) hx hb dX12_held_87 (by decide) ?_
            refine lv_icmp_eq (tgt := 114) hx hb dX12_held_88 (by decide) (fun c18303 => ?_) (fun c18303 => ?_)
            · have g18304 : Rg (-1) (-1) y32_l5 := wk_eql g32_l5 (by decide : Rg (-1) (-1) ((-1) : Int32)) c18303 (by decide)
              refine lv_iload hx hb dX12_held_114 (lv_at hl 6 rfl) ?_
              refine lv_goto (tgt := 121) hx hb dX12_held_116 (by decide) ?_
              refine lv_istore (lv' := [(5, .int y32_l6), (4, .int r18302), (3, .int r18300), (0, .ref (b 0)), (1, .int x0), (2, .int x1), (6, .int y32_l6)]) hx hb dX12_held_121 hl (by decide) rfl (fun ls hl => ?_)
              refine wk_iinc (lv' := fun r => [(6, .int r), (5, .int y32_l6), (4, .int r18302), (3, .int r18300), (0, .ref (b 0)), (1, .int x0), (2, .int x1)]) (e1 := 1) (f := 4) hx hb dX12_held_123 hl (k := 6) rfl (by decide) g18287 (by decide) (fun _ => rfl) (fun r18305 ls hr18305 er18305 hl => ?_)
              refine lv_goto (tgt := 32) hx hb dX12_held_126 (by decide) ?_
              exact ih32 r18300 r18302 y32_l6 r18305 ls g32_l1 g32_l2 (show Rg (-1) 3 y32_l6 from rg_w g18287 (by decide) (by decide)) (show Rg 0 4 r18305 from rg_w hr18305 (by decide) (by decide)) (lv_sub (l' := [(0, .ref (b 0)), (1, .int x0), (2, .int x1), (3, .int r18300), (4, .int r18302), (5, .int y32_l6), (6, .int r18305)]) hl [4, 5, 6, 3, 2, 1, 0] rfl) (me_up hm32 er18305 (by decide))
            · have g18306 : Rg 0 3 y32_l5 := rg_ne_lo (k := (-1)) g32_l5 (by decide) c18303 (by decide)
              refine lv_aload_n hx hb dX12_held_91 rfl (lv_at hl 2 rfl) ?_
              refine va_get (D := D) (ci := 12) (v := .ref (b 13)) (C := RX12) (T := TX12) (N := 24) hx hb hts hin12 hown hK hP 0 rfl rfl 20 (by decide) (hts (.fieldLink RX12 50 "MissedPointsModel" "heldSet" "[I") (by decide +kernel)) (fun _ h9 => h9) rfl dX12_held_92 ?_
              refine lv_iload hx hb dX12_held_95 (lv_at hl 6 rfl) ?_
              refine wk_aldA hx hb hK hP 13 0 rfl rfl (rg_in g18287 (by decide) (by decide)) dX12_held_97 (fun r18307 => ?_)
              refine lz_ss (As := [.int r18307]) (rest := []) ⟨hx, hb, hml, hown, hts⟩ (w_X12_bits l D cI cS r18307) hKK (hP.sub (ws' := []) [] rfl) (va_cwS 1 hts gX12_held_X12_bits rfl rfl rfl (by decide +kernel) ⟨Nat.le_of_ble_eq_true rfl, Nat.le_of_ble_eq_true rfl⟩) rfl hl.1 rfl (Nat.le_of_ble_eq_true rfl) dX12_held_98 ⟨Nat.le_of_ble_eq_true rfl, Nat.le_of_ble_eq_true rfl⟩ (fun r18308 hr18308 => ?_)
              refine lv_aload_n hx hb dX12_held_101 rfl (lv_at hl 2 rfl) ?_
              refine va_get (D := D) (ci := 12) (v := .ref (b 13)) (C := RX12) (T := TX12) (N := 24) hx hb hts hin12 hown hK hP 0 rfl rfl 20 (by decide) (hts (.fieldLink RX12 50 "MissedPointsModel" "heldSet" "[I") (by decide +kernel)) (fun _ h9 => h9) rfl dX12_held_102 ?_
              refine lv_iload hx hb dX12_held_105 (lv_at hl 5 rfl) ?_
              refine wk_aldA hx hb hK hP 13 0 rfl rfl (rg_in g18306 (by decide) (by decide)) dX12_held_107 (fun r18309 => ?_)
              refine lz_ss (As := [.int r18309]) (rest := [.int r18308]) ⟨hx, hb, hml, hown, hts⟩ (w_X12_bits l D cI cS r18309) hKK (hP.sub (ws' := []) [] rfl) (va_cwS 1 hts gX12_held_X12_bits rfl rfl rfl (by decide +kernel) ⟨Nat.le_of_ble_eq_true rfl, Nat.le_of_ble_eq_true rfl⟩) rfl hl.1 rfl (Nat.le_of_ble_eq_true rfl) dX12_held_108 ⟨Nat.le_of_ble_eq_true rfl, Nat.le_of_ble_eq_true rfl⟩ (fun r18310 hr18310 => ?_)
              refine lv_icmp_le (tgt := 119) hx hb dX12_held_111 (by decide) (fun c18311 => ?_) (fun c18311 => ?_)
              · refine lv_iload hx hb dX12_held_119 (lv_at hl 5 rfl) ?_
                refine lv_istore (lv' := [(5, .int y32_l5), (4, .int r18302), (3, .int r18300), (0, .ref (b 0)), (1, .int x0), (2, .int x1), (6, .int y32_l6)]) hx hb dX12_held_121 hl (by decide) rfl (fun ls hl => ?_)
                refine wk_iinc (lv' := fun r => [(6, .int r), (5, .int y32_l5), (4, .int r18302), (3, .int r18300), (0, .ref (b 0)), (1, .int x0), (2, .int x1)]) (e1 := 1) (f := 4) hx hb dX12_held_123 hl (k := 6) rfl (by decide) g18287 (by decide) (fun _ => rfl) (fun r18312 ls hr18312 er18312 hl => ?_)
                refine lv_goto (tgt := 32) hx hb dX12_held_126 (by decide) ?_
                exact ih32 r18300 r18302 y32_l5 r18312 ls g32_l1 g32_l2 (show Rg (-1) 3 y32_l5 from rg_w g18306 (by decide) (by decide)) (show Rg 0 4 r18312 from rg_w hr18312 (by decide) (by decide)) (lv_sub (l' := [(0, .ref (b 0)), (1, .int x0), (2, .int x1), (3, .int r18300), (4, .int r18302), (5, .int y32_l5), (6, .int r18312)]) hl [4, 5, 6, 3, 2, 1, 0] rfl) (me_up hm32 er18312 (by decide))
              · refine lv_iload hx hb dX12_held_114 (lv_at hl 6 rfl) ?_
                refine lv_goto (tgt := 121) hx hb dX12_held_116 (by decide) ?_
                refine lv_istore (lv' := [(5, .int y32_l6), (4, .int r18302), (3, .int r18300), (0, .ref (b 0)), (1, .int x0), (2, .int x1), (6, .int y32_l6)]) hx hb dX12_held_121 hl (by decide) rfl (fun ls hl => ?_)
                refine wk_iinc (lv' := fun r => [(6, .int r), (5, .int y32_l6), (4, .int r18302), (3, .int r18300), (0, .ref (b 0)), (1, .int x0), (2, .int x1)]) (e1 := 1) (f := 4) hx hb dX12_held_123 hl (k := 6) rfl (by decide) g18287 (by decide) (fun _ => rfl) (fun r18313 ls hr18313 er18313 hl => ?_)
                refine lv_goto (tgt := 32) hx hb dX12_held_126 (by decide) ?_
                exact ih32 r18300 r18302 y32_l6 r18313 ls g32_l1 g32_l2 (show Rg (-1) 3 y32_l6 from rg_w g18287 (by decide) (by decide)) (show Rg 0 4 r18313 from rg_w hr18313 (by decide) (by decide)) (lv_sub (l' := [(0, .ref (b 0)), (1, .int x0), (2, .int x1), (3, .int r18300), (4, .int r18302), (5, .int y32_l6), (6, .int r18313)]) hl [4, 5, 6, 3, 2, 1, 0] rfl) (me_up hm32 er18313 (by decide))
          · have g18314 : Rg 0 0 r18297 := wk_eql hr18297.1 (by decide : Rg 0 0 (0 : Int32)) c18298 (by decide)
            refine lv_goto (tgt := 123) hx hb dX12_held_67 (by decide) ?_
            refine wk_iinc (lv' := fun r => [(6, .int r), (0, .ref (b 0)), (1, .int x0), (2, .int x1), (3, .int y32_l3), (4, .int y32_l4), (5, .int y32_l5)]) (e1 := 1) (f := 4) hx hb dX12_held_123 hl (k := 6) rfl (by decide) g18287 (by decide) (fun _ => rfl) (fun r18315 ls hr18315 er18315 hl => ?_)
            refine lv_goto (tgt := 32) hx hb dX12_held_126 (by decide) ?_
            exact ih32 y32_l3 y32_l4 y32_l5 r18315 ls g32_l1 g32_l2 g32_l5 (show Rg 0 4 r18315 from rg_w hr18315 (by decide) (by decide)) (lv_sub (l' := [(0, .ref (b 0)), (1, .int x0), (2, .int x1), (3, .int y32_l3), (4, .int y32_l4), (5, .int y32_l5), (6, .int r18315)]) hl [1, 2, 3, 4, 5, 6, 0] rfl) (me_up hm32 er18315 (by decide))
  refine lv_iload_n hx hb dX12_held_0 rfl (lv_at hl 1 rfl) ?_
  refine lv_iconst (v := 0) hx hb dX12_held_1 (by decide) ?_
  refine lv_iconst (v := 5) hx hb dX12_held_2 (by decide) ?_
  refine lz_ss (As := [.int x0, .int 0, .int 5]) (rest := []) ⟨hx, hb, hml, hown, hts⟩ (w_X12_in l D cI cS x0 (0 : Int32) (5 : Int32)) hKK (hP.sub (ws' := []) [] rfl) (va_cwS 3 hts gX12_held_X12_in rfl rfl rfl (by decide +kernel) ⟨Nat.le_of_ble_eq_true rfl, Nat.le_of_ble_eq_true rfl⟩) rfl hl.1 rfl (Nat.le_of_ble_eq_true rfl) dX12_held_3 ⟨Nat.le_of_ble_eq_true rfl, Nat.le_of_ble_eq_true rfl⟩ (fun r18316 hr18316 => ?_)
  refine lv_if_eq (tgt := 18) hx hb dX12_held_6 (by decide) (fun c18317 => ?_) (fun c18317 => ?_)
  · have zt18318 : (x0.toInt < (0 : Int32).toInt ∨ (5 : Int32).toInt < x0.toInt) := hr18316.2.1 c18317
    have g18319 : Rg 0 0 r18316 := wk_eql hr18316.1 (by decide : Rg 0 0 (0 : Int32)) c18317 (by decide)
    refine lv_bipush (v := (-2)) hx hb dX12_held_18 (by decide) ?_
    exact W.iret (v := (-2)) hx hb hr (fun t ht hW => ⟨_, rfl, ⟨(by decide : Rg (-2147483648) 2147483647 ((-2) : Int32)), trivial⟩, ht⟩) (fun q hq => absurd hq List.not_mem_nil) dX12_held_20
  · have zn18320 : (0 : Int32).toInt ≤ x0.toInt ∧ x0.toInt ≤ (5 : Int32).toInt := (hr18316.2.2 c18317)
    have g18321 : Rg 0 5 x0 := wk_in3 (rg_any x0) (by decide : Rg 0 0 (0 : Int32)) (by decide : Rg 5 5 (5 : Int32)) (hr18316.2.2 c18317) (by decide)
    have g18322 : Rg 1 1 r18316 := rg_ne_lo (k := 0) hr18316.1 (by decide) c18317 (by decide)
    refine lv_iload_n hx hb dX12_held_9 rfl (lv_at hl 2 rfl) ?_
    refine lv_iconst (v := 0) hx hb dX12_held_10 (by decide) ?_
    refine lv_iconst (v := 2) hx hb dX12_held_11 (by decide) ?_
    refine lz_ss (As := [.int x1, .int 0, .int 2]) (rest := []) ⟨hx, hb, hml, hown, hts⟩ (w_X12_in l D cI cS x1 (0 : Int32) (2 : Int32)) hKK (hP.sub (ws' := []) [] rfl) (va_cwS 3 hts gX12_held_X12_in rfl rfl rfl (by decide +kernel) ⟨Nat.le_of_ble_eq_true rfl, Nat.le_of_ble_eq_true rfl⟩) rfl hl.1 rfl (Nat.le_of_ble_eq_true rfl) dX12_held_12 ⟨Nat.le_of_ble_eq_true rfl, Nat.le_of_ble_eq_true rfl⟩ (fun r18323 hr18323 => ?_)
    refine lv_if_ne (tgt := 21) hx hb dX12_held_15 (by decide) (fun c18324 => ?_) (fun c18324 => ?_)
    · have zn18325 : (0 : Int32).toInt ≤ x1.toInt ∧ x1.toInt ≤ (2 : Int32).toInt := (hr18323.2.2 c18324)
      have g18326 : Rg 0 2 x1 := wk_in3 (rg_any x1) (by decide : Rg 0 0 (0 : Int32)) (by decide : Rg 2 2 (2 : Int32)) (hr18323.2.2 c18324) (by decide)
      have g18327 : Rg 1 1 r18323 := rg_ne_lo (k := 0) hr18323.1 (by decide) c18324 (by decide)
      refine lv_iconst (v := 0) hx hb dX12_held_21 (by decide) ?_
      refine lv_istore_n (lv' := [(3, .int 0), (0, .ref (b 0)), (1, .int x0), (2, .int x1)]) hx hb dX12_held_22 rfl hl (by decide) rfl (fun ls hl => ?_)
      refine lv_iconst (v := 0) hx hb dX12_held_23 (by decide) ?_
      refine lv_istore (lv' := [(4, .int 0), (3, .int 0), (0, .ref (b 0)), (1, .int x0), (2, .int x1)]) hx hb dX12_held_24 hl (by decide) rfl (fun ls hl => ?_)
      refine lv_iconst (v := (-1)) hx hb dX12_held_26 (by decide) ?_
      refine lv_istore (lv' := [(5, .int (-1)), (4, .int 0), (3, .int 0), (0, .ref (b 0)), (1, .int x0), (2, .int x1)]) hx hb dX12_held_27 hl (by decide) rfl (fun ls hl => ?_)
      refine lv_iconst (v := 0) hx hb dX12_held_29 (by decide) ?_
      refine lv_istore (lv' := [(6, .int 0), (5, .int (-1)), (4, .int 0), (3, .int 0), (0, .ref (b 0)), (1, .int x0), (2, .int x1)]) hx hb dX12_held_30 hl (by decide) rfl (fun ls hl => ?_)
      exact lp32 5 (0 : Int32) (0 : Int32) (((-1) : Int32)) (0 : Int32) ls g18321 g18326 (by decide : Rg (-1) 3 ((-1) : Int32)) (by decide : Rg 0 4 (0 : Int32)) (lv_sub (l' := [(0, .ref (b 0)), (1, .int x0), (2, .int x1), (3, .int 0), (4, .int 0), (5, .int (-1)), (6, .int 0)]) hl [4, 5, 6, 3, 2, 1, 0] rfl) (me_i (by decide : Rg 0 4 (0 : Int32)) (by decide))
    · have zt18328 : (x1.toInt < (0 : Int32).toInt ∨ (2 : Int32).toInt < x1.toInt) := hr18323.2.1 c18324
      have g18329 : Rg 0 0 r18323 := wk_eql hr18323.1 (by decide : Rg 0 0 (0 : Int32)) c18324 (by decide)
      refine lv_bipush (v := (-2)) hx hb dX12_held_18 (by decide) ?_
      exact W.iret (v := (-2)) hx hb hr (fun t ht hW => ⟨_, rfl, ⟨(by decide : Rg (-2147483648) 2147483647 ((-2) : Int32)), trivial⟩, ht⟩) (fun q hq => absurd hq List.not_mem_nil) dX12_held_20
set_option maxRecDepth 20000 in
theorem ggX12_shelf_X12_mark : GoodIn wsX12_shelf wsX12_mark := goodIn_r _ [65, 13, 14, 15, 8, 16, 17, 10, 11, 12, 37, 38, 39, 40, 41, 42, 43, 22, 23, 24, 25, 44, 45, 46, 47, 48, 49, 50, 51, 52, 53, 54, 55, 56, 57, 66, 67, 68, 69, 70, 71, 72, 73, 74, 75, 76, 77, 78, 79, 80, 81, 82, 83, 84, 85, 86, 87, 88, 89] rfl (by decide +kernel)
set_option maxRecDepth 20000 in
theorem gX12_shelf_X12_mark : GoodIn wsX12_shelf (wsV RX12 225 RX12 yX12_mark wsX12_mark) := goodIn_app (goodIn_of _ (by decide +kernel)) ggX12_shelf_X12_mark
theorem dX12_shelf_109 : decode cX12_shelf 109 = .ok (.aload_n 0, 1) := by decide +kernel
theorem dX12_shelf_110 : decode cX12_shelf 110 = .ok (.iload_n 3, 1) := by decide +kernel
theorem dX12_shelf_111 : decode cX12_shelf 111 = .ok (.invokevirtual 225, 3) := by decide +kernel
theorem dX12_shelf_114 : decode cX12_shelf 114 = .ok (.iconst 1, 1) := by decide +kernel
theorem dX12_shelf_115 : decode cX12_shelf 115 = .ok (.if_icmp .ne 7, 3) := by decide +kernel
theorem dX12_shelf_118 : decode cX12_shelf 118 = .ok (.iconst 3, 1) := by decide +kernel
theorem dX12_shelf_119 : decode cX12_shelf 119 = .ok (.goto 45, 3) := by decide +kernel
theorem dX12_shelf_122 : decode cX12_shelf 122 = .ok (.iconst 1, 1) := by decide +kernel
theorem dX12_shelf_123 : decode cX12_shelf 123 = .ok (.goto 41, 3) := by decide +kernel
theorem dX12_shelf_131 : decode cX12_shelf 131 = .ok (.iconst 4, 1) := by decide +kernel
theorem dX12_shelf_132 : decode cX12_shelf 132 = .ok (.goto 32, 3) := by decide +kernel
theorem dX12_shelf_140 : decode cX12_shelf 140 = .ok (.iconst 5, 1) := by decide +kernel
theorem dX12_shelf_141 : decode cX12_shelf 141 = .ok (.goto 23, 3) := by decide +kernel
theorem dX12_shelf_158 : decode cX12_shelf 158 = .ok (.bipush 6, 2) := by decide +kernel
theorem dX12_shelf_160 : decode cX12_shelf 160 = .ok (.goto 4, 3) := by decide +kernel
theorem dX12_shelf_183 : decode cX12_shelf 183 = .ok (.iconst 1, 1) := by decide +kernel
theorem dX12_shelf_184 : decode cX12_shelf 184 = .ok (.iload_n 3, 1) := by decide +kernel
theorem dX12_shelf_185 : decode cX12_shelf 185 = .ok (.ishl, 1) := by decide +kernel
theorem dX12_shelf_186 : decode cX12_shelf 186 = .ok (.goto 37, 3) := by decide +kernel
theorem dX12_shelf_194 : decode cX12_shelf 194 = .ok (.iload 4, 2) := by decide +kernel
theorem dX12_shelf_196 : decode cX12_shelf 196 = .ok (.goto 27, 3) := by decide +kernel
theorem dX12_shelf_213 : decode cX12_shelf 213 = .ok (.aload_n 0, 1) := by decide +kernel
theorem dX12_shelf_214 : decode cX12_shelf 214 = .ok (.getfield 41, 3) := by decide +kernel
theorem dX12_shelf_217 : decode cX12_shelf 217 = .ok (.iload_n 3, 1) := by decide +kernel
theorem dX12_shelf_218 : decode cX12_shelf 218 = .ok (.iaload, 1) := by decide +kernel
theorem dX12_shelf_219 : decode cX12_shelf 219 = .ok (.goto 4, 3) := by decide +kernel
theorem dX12_shelf_234 : decode cX12_shelf 234 = .ok (.aload_n 0, 1) := by decide +kernel
theorem dX12_shelf_235 : decode cX12_shelf 235 = .ok (.getfield 38, 3) := by decide +kernel
theorem dX12_shelf_238 : decode cX12_shelf 238 = .ok (.iload_n 3, 1) := by decide +kernel
theorem dX12_shelf_239 : decode cX12_shelf 239 = .ok (.iaload, 1) := by decide +kernel
theorem dX12_shelf_240 : decode cX12_shelf 240 = .ok (.goto 4, 3) := by decide +kernel
set_option maxHeartbeats 4000000 in
set_option maxRecDepth 100000 in
theorem w_X12_shelf (l : Launch) (D : va_G) (cI cS : ClassId) (sz : Nat) (b : Nat → Nat) (L v0 : SU) (hL : TyL L) (hV : TyV v0) (x0 x1 x2 : Int32) : Met l yX12_shelf wsX12_shelf ({ frames := 5, cells := 0, slots := 0, locals := 200 }) (PQ D cI cS (wM cI b L v0) sz [.ref (b 0), .int x0, .int x1, .int x2]) (QF (S := SU) D (wM cI b L v0) (wM cI b L) sz (fun r u => TyV u ∧ Rg (-11) 1 r ∧ True)) 0 0 (va_A (wM cI b L v0) sz) := by
  refine Met.ofW (cc := cX12_shelf) (maxL := 6) (ret := (some .int)) (by decide) rfl ?_
  intro p e s m args below meth c s₁ B hml hv
  obtain ⟨rfl, hsz, hP, hKK, hD0⟩ := hv
  have hx := B.exec
  have hb := B.bytes
  have hr := B.returns
  have hts := atoms_spec (ws := wsX12_shelf) B.pre
  have hown : s.vm.findClass RX12 = some m.cls := findClass_of_methodNamed B.named
  have hlocks := B.notSynchronized
  have hK := hKK.1
  have hin12 : ∀ w ∈ wsX120, w ∈ wsX12_shelf := by decide +kernel
  subst hsz
  have hD := hD0.self (sz := s.heap.size)
  obtain ⟨A, hAe⟩ : ∃ A, A = va_A (wM cI b L v0) s.heap.size := ⟨_, rfl⟩
  rw [← hAe] at hD
  have hA : ∀ q : Nat, s.heap.size ≤ q → A q := fun q h => by rw [hAe]; exact Or.inr h
  have hS : va_S A s.heap s.heap [] := va_S.rf
  have hl := lv_entry ([.ref (b 0), .int x0, .int x1, .int x2]) (n := 6) (Nat.le_of_ble_eq_true rfl)
  rw [lg_entry_eq]
  generalize (lg_sl ([.ref (b 0), .int x0, .int x1, .int x2]) ++ List.replicate (6 - (lg_sl ([.ref (b 0), .int x0, .int x1, .int x2])).length) Slot.unset).toArray = ls at hl ⊢
  have hl : lv_has ls 6 [(0, .ref (b 0)), (1, .int x0), (2, .int x1), (3, .int x2)] := hl
  obtain ⟨v, hv9⟩ : ∃ v : SU, v = v0 := ⟨_, rfl⟩
  rw [← hv9] at hP hD hV
  have ct223 : ∀ (y223_s0 : Int32) (v : SU) (H : Heap) (locs : List Loc) (ls : Array Slot), Rg 0 3 x0 → Rg 0 5 x1 → Rg 0 3 x0 → (x1 = 4 → Rg 0 3 x2) → TyV v → va_P D cls (wM cI b L v) H → va_D A (wM cI b L v) → va_S A s.heap H locs → lv_has ls 6 [(0, .ref (b 0)), (1, .int x0), (2, .int x1), (3, .int x2)] → W p l e (headSpec wsX12_shelf ({ frames := 5, cells := 0, slots := 0, locals := 200 })).room s m ([.ref (b 0), .int x0, .int x1, .int x2]).toArray below meth c H locs 0 0 (MQ below (QF (S := SU) D (wM cI b L v0) (wM cI b L) s.heap.size (fun r u => TyV u ∧ Rg (-11) 1 r ∧ True)) ([.ref (b 0), .int x0, .int x1, .int x2]).toArray s 0 0 (va_A (wM cI b L v0) s.heap.size)) (F0 m 223 ls [.int y223_s0, .int x0, .ref (b 13)]) := by
    intro y223_s0 v H locs ls g223_l1 g223_l2 g223_s1 x223_0 hV hP hD hS hl
    refine ms_13 hx hb hK hP hD hS hV rfl (rg_in g223_s1 (by decide) (by decide)) dX12_shelf_223 (fun v H locs hV ev18730 hP hD hS => ?_)
    refine lv_aload_n hx hb dX12_shelf_224 rfl (lv_at hl 0 rfl) ?_
    refine va_get (D := D) (ci := 12) (v := .ref (b 14)) (C := RX12) (T := TX12) (N := 24) hx hb hts hin12 hown hK hP 0 rfl rfl 21 (by decide) (hts (.fieldLink RX12 53 "MissedPointsModel" "heldSort" "[I") (by decide +kernel)) (fun _ h9 => h9) rfl dX12_shelf_225 ?_
    refine lv_iload_n hx hb dX12_shelf_228 rfl (lv_at hl 1 rfl) ?_
    refine lv_iload_n hx hb dX12_shelf_229 rfl (lv_at hl 2 rfl) ?_
    refine lv_iconst (v := 4) hx hb dX12_shelf_230 (by decide) ?_
    refine lv_icmp_ne (tgt := 243) hx hb dX12_shelf_231 (by decide) (fun c18731 => ?_) (fun c18731 => ?_)
    · refine lv_iconst (v := 0) hx hb dX12_shelf_243 (by decide) ?_
      refine ms_14 hx hb hK hP hD hS hV rfl (rg_in g223_l1 (by decide) (by decide)) dX12_shelf_244 (fun v H locs hV ev18732 hP hD hS => ?_)
      refine lv_iconst (v := 1) hx hb dX12_shelf_245 (by decide) ?_
      subst hAe
      exact W.iret (v := 1) hx hb hr (fun t ht hW => ⟨⟨_, v, rfl, ⟨hV, (by decide : Rg (-11) 1 (1 : Int32)), trivial⟩, by rw [ht]; exact hP, hD⟩, hS.F ht⟩) hS.2.2 dX12_shelf_246
    · have g18733 : Rg 4 4 x1 := wk_eql g223_l2 (by decide : Rg 4 4 (4 : Int32)) c18731 (by decide)
      have g18734 : Rg 0 3 x2 := x223_0 c18731
      refine lv_aload_n hx hb dX12_shelf_234 rfl (lv_at hl 0 rfl) ?_
      refine va_get (D := D) (ci := 12) (v := .ref (b 9)) (C := RX12) (T := TX12) (N := 24) hx hb hts hin12 hown hK hP 0 rfl rfl 16 (by decide) (hts (.fieldLink RX12 38 "MissedPointsModel" "sort" "[I") (by decide +kernel)) (fun _ h9 => h9) rfl dX12_shelf_235 ?_
      refine lv_iload_n hx hb dX12_shelf_238 rfl (lv_at hl 3 rfl) ?_
      refine va_iald hx hb hK hP 9 0 rfl rfl (rg_in g18734 (by decide) (by decide)) dX12_shelf_239 ?_
      refine lz_top (y := (L 9 x2.toNatClampNeg)) rfl ?_
      refine lv_goto (tgt := 244) hx hb dX12_shelf_240 (by decide) ?_
      refine ms_14 hx hb hK hP hD hS hV rfl (rg_in g223_l1 (by decide) (by decide)) dX12_shelf_244 (fun v H locs hV ev18736 hP hD hS => ?_)
      refine lv_iconst (v := 1) hx hb dX12_shelf_245 (by decide) ?_
      subst hAe
      exact W.iret (v := 1) hx hb hr (fun t ht hW => ⟨⟨_, v, rfl, ⟨hV, (by decide : Rg (-11) 1 (1 : Int32)), trivial⟩, by rw [ht]; exact hP, hD⟩, hS.F ht⟩) hS.2.2 dX12_shelf_246
  have ct164 : ∀ (y164_l4 : Int32) (y164_s0 : Int32) (v : SU) (H : Heap) (locs : List Loc) (ls : Array Slot), Rg 0 3 x0 → Rg 0 5 x1 → Rg 1 4095 y164_l4 → Rg (-1) 6 y164_s0 → (x1 = 4 → Rg 0 3 x2) → TyV v → va_P D cls (wM cI b L v) H → va_D A (wM cI b L v) → va_S A s.heap H locs → lv_has ls 6 [(0, .ref (b 0)), (1, .int x0), (2, .int x1), (3, .int x2), (4, .int y164_l4)] → W p l e (headSpec wsX12_shelf ({ frames := 5, cells := 0, slots := 0, locals := 200 })).room s m ([.ref (b 0), .int x0, .int x1, .int x2]).toArray below meth c H locs 0 0 (MQ below (QF (S := SU) D (wM cI b L v0) (wM cI b L) s.heap.size (fun r u => TyV u ∧ Rg (-11) 1 r ∧ True)) ([.ref (b 0), .int x0, .int x1, .int x2]).toArray s 0 0 (va_A (wM cI b L v0) s.heap.size)) (F0 m 164 ls [.int y164_s0]) := by
    intro y164_l4 y164_s0 v H locs ls g164_l1 g164_l2 g164_l4 g164_s0 x164_0 hV hP hD hS hl
    refine lv_istore (lv' := [(5, .int y164_s0), (0, .ref (b 0)), (1, .int x0), (2, .int x1), (3, .int x2), (4, .int y164_l4)]) hx hb dX12_shelf_164 hl (by decide) rfl (fun ls hl => ?_)
    refine lv_aload_n hx hb dX12_shelf_166 rfl (lv_at hl 1 rfl) ?_
    refine va_get (D := D) (ci := 12) (v := .ref (b 12)) (C := RX12) (T := TX12) (N := 24) hx hb hts hin12 hown hK hP 0 rfl rfl 19 (by decide) (hts (.fieldLink RX12 47 "MissedPointsModel" "heldKind" "[I") (by decide +kernel)) (fun _ h9 => h9) rfl dX12_shelf_167 ?_
    refine lv_iload_n hx hb dX12_shelf_170 rfl (lv_at hl 2 rfl) ?_
    refine lv_iload hx hb dX12_shelf_171 (lv_at hl 0 rfl) ?_
    refine ms_12 hx hb hK hP hD hS hV rfl (rg_in g164_l1 (by decide) (by decide)) g164_s0 dX12_shelf_173 (fun v H locs hV ev18737 hP hD hS => ?_)
    refine lv_aload_n hx hb dX12_shelf_174 rfl (lv_at hl 1 rfl) ?_
    refine va_get (D := D) (ci := 12) (v := .ref (b 13)) (C := RX12) (T := TX12) (N := 24) hx hb hts hin12 hown hK hP 0 rfl rfl 20 (by decide) (hts (.fieldLink RX12 50 "MissedPointsModel" "heldSet" "[I") (by decide +kernel)) (fun _ h9 => h9) rfl dX12_shelf_175 ?_
    refine lv_iload_n hx hb dX12_shelf_178 rfl (lv_at hl 2 rfl) ?_
    refine lv_iload_n hx hb dX12_shelf_179 rfl (lv_at hl 3 rfl) ?_
    refine lv_if_ne (tgt := 189) hx hb dX12_shelf_180 (by decide) (fun c18738 => ?_) (fun c18738 => ?_)
    · have g18739 : Rg 1 5 x1 := rg_ne_lo (k := 0) g164_l2 (by decide) c18738 (by decide)
      refine lv_iload_n hx hb dX12_shelf_189 rfl (lv_at hl 3 rfl) ?_
      refine lv_iconst (v := 3) hx hb dX12_shelf_190 (by decide) ?_
      refine lv_icmp_ge (tgt := 199) hx hb dX12_shelf_191 (by decide) (fun c18740 => ?_) (fun c18740 => ?_)
      · have g18741 : Rg 3 5 x1 := rg_ler (by decide : Rg 3 3 (3 : Int32)) g18739 c18740 (by decide)
        refine lv_iload_n hx hb dX12_shelf_199 rfl (lv_at hl 3 rfl) ?_
        refine lv_iconst (v := 3) hx hb dX12_shelf_200 (by decide) ?_
        refine lv_icmp_ne (tgt := 208) hx hb dX12_shelf_201 (by decide) (fun c18742 => ?_) (fun c18742 => ?_)
        · have g18743 : Rg 4 5 x1 := rg_ne_lo (k := 3) g18741 (by decide) c18742 (by decide)
          refine lv_iload_n hx hb dX12_shelf_208 rfl (lv_at hl 3 rfl) ?_
          refine lv_iconst (v := 4) hx hb dX12_shelf_209 (by decide) ?_
          refine lv_icmp_ne (tgt := 222) hx hb dX12_shelf_210 (by decide) (fun c18744 => ?_) (fun c18744 => ?_)
          · have g18745 : Rg 5 5 x1 := rg_ne_lo (k := 4) g18743 (by decide) c18744 (by decide)
            refine lv_iconst (v := 0) hx hb dX12_shelf_222 (by decide) ?_
            exact ct223 (0 : Int32) v _ _ ls g164_l1 (show Rg 0 5 x1 from rg_w g18745 (by decide) (by decide)) g164_l1 (by exact x164_0) hV hP hD hS (lv_sub (l' := [(0, .ref (b 0)), (1, .int x0), (2, .int x1), (3, .int x2)]) hl [1, 2, 3, 4] rfl)
          · have g18746 : Rg 4 4 x1 := wk_eql g18743 (by decide : Rg 4 4 (4 : Int32)) c18744 (by decide)
            have g18747 : Rg 0 3 x2 := x164_0 c18744
            refine lv_aload_n hx hb dX12_shelf_213 rfl (lv_at hl 1 rfl) ?_
            refine va_get (D := D) (ci := 12) (v := .ref (b 10)) (C := RX12) (T := TX12) (N := 24) hx hb hts hin12 hown hK hP 0 rfl rfl 17 (by decide) (hts (.fieldLink RX12 41 "MissedPointsModel" "size" "[I") (by decide +kernel)) (fun _ h9 => h9) rfl dX12_shelf_214 ?_
            refine lv_iload_n hx hb dX12_shelf_217 rfl (lv_at hl 4 rfl) ?_
            refine va_iald hx hb hK hP 10 0 rfl rfl (rg_in g18747 (by decide) (by decide)) dX12_shelf_218 ?_
            refine lz_top (y := (L 10 x2.toNatClampNeg)) rfl ?_
            refine lv_goto (tgt := 223) hx hb dX12_shelf_219 (by decide) ?_
            exact ct223 (L 10 x2.toNatClampNeg) v _ _ ls g164_l1 (show Rg 0 5 x1 from rg_w g18746 (by decide) (by decide)) g164_l1 (by exact x164_0) hV hP hD hS (lv_sub (l' := [(0, .ref (b 0)), (1, .int x0), (2, .int x1), (3, .int x2)]) hl [1, 2, 3, 4] rfl)
        · have g18749 : Rg 3 3 x1 := wk_eql g18741 (by decide : Rg 3 3 (3 : Int32)) c18742 (by decide)
          refine lv_iload_n hx hb dX12_shelf_204 rfl (lv_at hl 4 rfl) ?_
          refine lv_goto (tgt := 223) hx hb dX12_shelf_205 (by decide) ?_
          exact ct223 x2 v _ _ ls g164_l1 (show Rg 0 5 x1 from rg_w g18749 (by decide) (by decide)) g164_l1 (by exact x164_0) hV hP hD hS (lv_sub (l' := [(0, .ref (b 0)), (1, .int x0), (2, .int x1), (3, .int x2)]) hl [1, 2, 3, 4] rfl)
      · have g18750 : Rg 1 2 x1 := rg_ltl g18739 (by decide : Rg 3 3 (3 : Int32)) (rg_nle c18740) (by decide)
        refine lv_iload hx hb dX12_shelf_194 (lv_at hl 5 rfl) ?_
        refine lv_goto (tgt := 223) hx hb dX12_shelf_196 (by decide) ?_
        exact ct223 y164_l4 v _ _ ls g164_l1 (show Rg 0 5 x1 from rg_w g18750 (by decide) (by decide)) g164_l1 (by exact x164_0) hV hP hD hS (lv_sub (l' := [(0, .ref (b 0)), (1, .int x0), (2, .int x1), (3, .int x2)]) hl [1, 2, 3, 4] rfl)
    · have g18751 : Rg 0 0 x1 := wk_eql g164_l2 (by decide : Rg 0 0 (0 : Int32)) c18738 (by decide)
      refine lv_iconst (v := 1) hx hb dX12_shelf_183 (by decide) ?_
      refine lv_iload_n hx hb dX12_shelf_184 rfl (lv_at hl 4 rfl) ?_
      refine lv_ishl hx hb dX12_shelf_185 ?_
      refine wk_topP (P := fun r => r = (1 : Int32) <<< (x2 &&& 31)) rfl (fun r18752 qr18752 => ?_)
      refine lv_goto (tgt := 223) hx hb dX12_shelf_186 (by decide) ?_
      exact ct223 r18752 v _ _ ls g164_l1 (show Rg 0 5 x1 from rg_w g18751 (by decide) (by decide)) g164_l1 (by exact x164_0) hV hP hD hS (lv_sub (l' := [(0, .ref (b 0)), (1, .int x0), (2, .int x1), (3, .int x2)]) hl [1, 2, 3, 4] rfl)
  have ct105 : ∀ (y105_l4 : Int32) (v : SU) (H : Heap) (locs : List Loc) (ls : Array Slot), Rg 0 3 x0 → Rg 0 5 x1 → Rg 1 4095 y105_l4 → (x1 = 4 → Rg 0 3 x2) → TyV v → va_P D cls (wM cI b L v) H → va_D A (wM cI b L v) → va_S A s.heap H locs → lv_has ls 6 [(0, .ref (b 0)), (1, .int x0), (2, .int x1), (3, .int x2), (4, .int y105_l4)] → W p l e (headSpec wsX12_shelf ({ frames := 5, cells := 0, slots := 0, locals := 200 })).room s m ([.ref (b 0), .int x0, .int x1, .int x2]).toArray below meth c H locs 0 0 (MQ below (QF (S := SU) D (wM cI b L v0) (wM cI b L) s.heap.size (fun r u => TyV u ∧ Rg (-11) 1 r ∧ True)) ([.ref (b 0), .int x0, .int x1, .int x2]).toArray s 0 0 (va_A (wM cI b L v0) s.heap.size)) (F0 m 105 ls []) := by
    intro y105_l4 v H locs ls g105_l1 g105_l2 g105_l4 x105_0 hV hP hD hS hl
    refine lv_iload_n hx hb dX12_shelf_105 rfl (lv_at hl 2 rfl) ?_
    refine lv_if_ne (tgt := 126) hx hb dX12_shelf_106 (by decide) (fun c18753 => ?_) (fun c18753 => ?_)
    · have g18754 : Rg 1 5 x1 := rg_ne_lo (k := 0) g105_l2 (by decide) c18753 (by decide)
      refine lv_iload_n hx hb dX12_shelf_126 rfl (lv_at hl 2 rfl) ?_
      refine lv_iconst (v := 1) hx hb dX12_shelf_127 (by decide) ?_
      refine lv_icmp_ne (tgt := 135) hx hb dX12_shelf_128 (by decide) (fun c18755 => ?_) (fun c18755 => ?_)
      · have g18756 : Rg 2 5 x1 := rg_ne_lo (k := 1) g18754 (by decide) c18755 (by decide)
        refine lv_iload_n hx hb dX12_shelf_135 rfl (lv_at hl 2 rfl) ?_
        refine lv_iconst (v := 2) hx hb dX12_shelf_136 (by decide) ?_
        refine lv_icmp_ne (tgt := 144) hx hb dX12_shelf_137 (by decide) (fun c18757 => ?_) (fun c18757 => ?_)
        · have g18758 : Rg 3 5 x1 := rg_ne_lo (k := 2) g18756 (by decide) c18757 (by decide)
          refine lv_iload_n hx hb dX12_shelf_144 rfl (lv_at hl 2 rfl) ?_
          refine lv_iconst (v := 3) hx hb dX12_shelf_145 (by decide) ?_
          refine lv_icmp_ne (tgt := 153) hx hb dX12_shelf_146 (by decide) (fun c18759 => ?_) (fun c18759 => ?_)
          · have g18760 : Rg 4 5 x1 := rg_ne_lo (k := 3) g18758 (by decide) c18759 (by decide)
            refine lv_iload_n hx hb dX12_shelf_153 rfl (lv_at hl 2 rfl) ?_
            refine lv_iconst (v := 4) hx hb dX12_shelf_154 (by decide) ?_
            refine lv_icmp_ne (tgt := 163) hx hb dX12_shelf_155 (by decide) (fun c18761 => ?_) (fun c18761 => ?_)
            · have g18762 : Rg 5 5 x1 := rg_ne_lo (k := 4) g18760 (by decide) c18761 (by decide)
              refine lv_iconst (v := (-1)) hx hb dX12_shelf_163 (by decide) ?_
              exact ct164 y105_l4 (((-1) : Int32)) v _ _ ls g105_l1 (show Rg 0 5 x1 from rg_w g18762 (by decide) (by decide)) g105_l4 (by decide : Rg (-1) 6 ((-1) : Int32)) (by exact x105_0) hV hP hD hS (lv_sub (l' := [(0, .ref (b 0)), (1, .int x0), (2, .int x1), (3, .int x2), (4, .int y105_l4)]) hl [0, 1, 2, 3, 4] rfl)
            · have g18763 : Rg 4 4 x1 := wk_eql g18760 (by decide : Rg 4 4 (4 : Int32)) c18761 (by decide)
              refine lv_bipush (v := 6) hx hb dX12_shelf_158 (by decide) ?_
              refine lv_goto (tgt := 164) hx hb dX12_shelf_160 (by decide) ?_
              exact ct164 y105_l4 (6 : Int32) v _ _ ls g105_l1 (show Rg 0 5 x1 from rg_w g18763 (by decide) (by decide)) g105_l4 (by decide : Rg (-1) 6 (6 : Int32)) (by exact x105_0) hV hP hD hS (lv_sub (l' := [(0, .ref (b 0)), (1, .int x0), (2, .int x1), (3, .int x2), (4, .int y105_l4)]) hl [0, 1, 2, 3, 4] rfl)
          · have g18764 : Rg 3 3 x1 := wk_eql g18758 (by decide : Rg 3 3 (3 : Int32)) c18759 (by decide)
            refine lv_iconst (v := 2) hx hb dX12_shelf_149 (by decide) ?_
            refine lv_goto (tgt := 164) hx hb dX12_shelf_150 (by decide) ?_
            exact ct164 y105_l4 (2 : Int32) v _ _ ls g105_l1 (show Rg 0 5 x1 from rg_w g18764 (by decide) (by decide)) g105_l4 (by decide : Rg (-1) 6 (2 : Int32)) (by exact x105_0) hV hP hD hS (lv_sub (l' := [(0, .ref (b 0)), (1, .int x0), (2, .int x1), (3, .int x2), (4, .int y105_l4)]) hl [0, 1, 2, 3, 4] rfl)
        · have g18765 : Rg 2 2 x1 := wk_eql g18756 (by decide : Rg 2 2 (2 : Int32)) c18757 (by decide)
          refine lv_iconst (v := 5) hx hb dX12_shelf_140 (by decide) ?_
          refine lv_goto (tgt := 164) hx hb dX12_shelf_141 (by decide) ?_
          exact ct164 y105_l4 (5 : Int32) v _ _ ls g105_l1 (show Rg 0 5 x1 from rg_w g18765 (by decide) (by decide)) g105_l4 (by decide : Rg (-1) 6 (5 : Int32)) (by exact x105_0) hV hP hD hS (lv_sub (l' := [(0, .ref (b 0)), (1, .int x0), (2, .int x1), (3, .int x2), (4, .int y105_l4)]) hl [0, 1, 2, 3, 4] rfl)
      · have g18766 : Rg 1 1 x1 := wk_eql g18754 (by decide : Rg 1 1 (1 : Int32)) c18755 (by decide)
        refine lv_iconst (v := 4) hx hb dX12_shelf_131 (by decide) ?_
        refine lv_goto (tgt := 164) hx hb dX12_shelf_132 (by decide) ?_
        exact ct164 y105_l4 (4 : Int32) v _ _ ls g105_l1 (show Rg 0 5 x1 from rg_w g18766 (by decide) (by decide)) g105_l4 (by decide : Rg (-1) 6 (4 : Int32)) (by exact x105_0) hV hP hD hS (lv_sub (l' := [(0, .ref (b 0)), (1, .int x0), (2, .int x1), (3, .int x2), (4, .int y105_l4)]) hl [0, 1, 2, 3, 4] rfl)
    · have g18767 : Rg 0 0 x1 := wk_eql g105_l2 (by decide : Rg 0 0 (0 : Int32)) c18753 (by decide)
      refine lv_aload_n hx hb dX12_shelf_109 rfl (lv_at hl 0 rfl) ?_
      refine lv_iload_n hx hb dX12_shelf_110 rfl (lv_at hl 3 rfl) ?_
      refine wk_qi (wM cI b L) v (As := [.int x2]) (rest := []) ⟨hx, hb, hml, hown, hts⟩ (w_X12_mark l D cI cS _ b L v hL hV x2) hKK hP hD hS hA 0 (ci := 12) rfl rfl (cwV 1 hts gX12_shelf_X12_mark rfl rfl rfl (by decide +kernel) ⟨Nat.le_of_ble_eq_true rfl, Nat.le_of_ble_eq_true rfl⟩) rfl hl.1 rfl (Nat.le_of_ble_eq_true rfl) dX12_shelf_111 ⟨Nat.le_of_ble_eq_true rfl, Nat.le_of_ble_eq_true rfl⟩ (fun r18768 v H locs hr18768 hP hD hS => ?_)
      have hV := hr18768.1
      refine lv_iconst (v := 1) hx hb dX12_shelf_114 (by decide) ?_
      refine lv_icmp_ne (tgt := 122) hx hb dX12_shelf_115 (by decide) (fun c18769 => ?_) (fun c18769 => ?_)
      · refine lv_iconst (v := 1) hx hb dX12_shelf_122 (by decide) ?_
        refine lv_goto (tgt := 164) hx hb dX12_shelf_123 (by decide) ?_
        exact ct164 y105_l4 (1 : Int32) v _ _ ls g105_l1 (show Rg 0 5 x1 from rg_w g18767 (by decide) (by decide)) g105_l4 (by decide : Rg (-1) 6 (1 : Int32)) (by exact x105_0) hV hP hD hS (lv_sub (l' := [(0, .ref (b 0)), (1, .int x0), (2, .int x1), (3, .int x2), (4, .int y105_l4)]) hl [0, 1, 2, 3, 4] rfl)
      · have g18770 : Rg 1 1 r18768 := wk_eql hr18768.2.1 (by decide : Rg 1 1 (1 : Int32)) c18769 (by decide)
        refine lv_iconst (v := 3) hx hb dX12_shelf_118 (by decide) ?_
        refine lv_goto (tgt := 164) hx hb dX12_shelf_119 (by decide) ?_
        exact ct164 y105_l4 (3 : Int32) v _ _ ls g105_l1 (show Rg 0 5 x1 from rg_w g18767 (by decide) (by decide)) g105_l4 (by decide : Rg (-1) 6 (3 : Int32)) (by exact x105_0) hV hP hD hS (lv_sub (l' := [(0, .ref (b 0)), (1, .int x0), (2, .int x1), (3, .int x2), (4, .int y105_l4)]) hl [0, 1, 2, 3, 4] rfl)
  have ct77 : ∀ (y77_s0 : Int32) (v : SU) (H : Heap) (locs : List Loc) (ls : Array Slot), Rg 0 3 x0 → Rg 0 5 x1 → Rg 0 4095 y77_s0 → (x1 = 4 → Rg 0 3 x2) → TyV v → va_P D cls (wM cI b L v) H → va_D A (wM cI b L v) → va_S A s.heap H locs → lv_has ls 6 [(0, .ref (b 0)), (1, .int x0), (2, .int x1), (3, .int x2)] → W p l e (headSpec wsX12_shelf ({ frames := 5, cells := 0, slots := 0, locals := 200 })).room s m ([.ref (b 0), .int x0, .int x1, .int x2]).toArray below meth c H locs 0 0 (MQ below (QF (S := SU) D (wM cI b L v0) (wM cI b L) s.heap.size (fun r u => TyV u ∧ Rg (-11) 1 r ∧ True)) ([.ref (b 0), .int x0, .int x1, .int x2]).toArray s 0 0 (va_A (wM cI b L v0) s.heap.size)) (F0 m 77 ls [.int y77_s0]) := by
    intro y77_s0 v H locs ls g77_l1 g77_l2 g77_s0 x77_0 hV hP hD hS hl
    refine lv_istore (lv' := [(4, .int y77_s0), (0, .ref (b 0)), (1, .int x0), (2, .int x1), (3, .int x2)]) hx hb dX12_shelf_77 hl (by decide) rfl (fun ls hl => ?_)
    refine lv_iload hx hb dX12_shelf_79 (lv_at hl 0 rfl) ?_
    refine lv_if_ne (tgt := 87) hx hb dX12_shelf_81 (by decide) (fun c18771 => ?_) (fun c18771 => ?_)
    · have g18772 : Rg 1 4095 y77_s0 := rg_ne_lo (k := 0) g77_s0 (by decide) c18771 (by decide)
      refine lv_iload_n hx hb dX12_shelf_87 rfl (lv_at hl 3 rfl) ?_
      refine lv_iconst (v := 4) hx hb dX12_shelf_88 (by decide) ?_
      refine lv_icmp_ne (tgt := 105) hx hb dX12_shelf_89 (by decide) (fun c18773 => ?_) (fun c18773 => ?_)
      · exact ct105 y77_s0 v _ _ ls g77_l1 g77_l2 g18772 (by exact x77_0) hV hP hD hS (lv_sub (l' := [(0, .ref (b 0)), (1, .int x0), (2, .int x1), (3, .int x2), (4, .int y77_s0)]) hl [1, 2, 3, 4, 0] rfl)
      · have g18774 : Rg 4 4 x1 := wk_eql g77_l2 (by decide : Rg 4 4 (4 : Int32)) c18773 (by decide)
        have g18775 : Rg 0 3 x2 := x77_0 c18773
        refine lv_aload_n hx hb dX12_shelf_92 rfl (lv_at hl 1 rfl) ?_
        refine va_get (D := D) (ci := 12) (v := .ref (b 9)) (C := RX12) (T := TX12) (N := 24) hx hb hts hin12 hown hK hP 0 rfl rfl 16 (by decide) (hts (.fieldLink RX12 38 "MissedPointsModel" "sort" "[I") (by decide +kernel)) (fun _ h9 => h9) rfl dX12_shelf_93 ?_
        refine lv_iload_n hx hb dX12_shelf_96 rfl (lv_at hl 4 rfl) ?_
        refine va_iald hx hb hK hP 9 0 rfl rfl (rg_in g18775 (by decide) (by decide)) dX12_shelf_97 ?_
        refine lz_top (y := (L 9 x2.toNatClampNeg)) rfl ?_
        refine lv_iconst (v := (-1)) hx hb dX12_shelf_98 (by decide) ?_
        refine lv_icmp_ne (tgt := 105) hx hb dX12_shelf_99 (by decide) (fun c18777 => ?_) (fun c18777 => ?_)
        · have g18778 : Rg 0 1 (L 9 x2.toNatClampNeg) := rg_ne_lo (k := (-1)) (hL.2.2.1 x2.toNatClampNeg) (by decide) c18777 (by decide)
          exact ct105 y77_s0 v _ _ ls g77_l1 (show Rg 0 5 x1 from rg_w g18774 (by decide) (by decide)) g18772 (by exact x77_0) hV hP hD hS (lv_sub (l' := [(0, .ref (b 0)), (1, .int x0), (2, .int x1), (3, .int x2), (4, .int y77_s0)]) hl [1, 2, 3, 4, 0] rfl)
        · have g18779 : Rg (-1) (-1) (L 9 x2.toNatClampNeg) := wk_eql (hL.2.2.1 x2.toNatClampNeg) (by decide : Rg (-1) (-1) ((-1) : Int32)) c18777 (by decide)
          refine lv_bipush (v := (-11)) hx hb dX12_shelf_102 (by decide) ?_
          subst hAe
          exact W.iret (v := (-11)) hx hb hr (fun t ht hW => ⟨⟨_, v, rfl, ⟨hV, (by decide : Rg (-11) 1 ((-11) : Int32)), trivial⟩, by rw [ht]; exact hP, hD⟩, hS.F ht⟩) hS.2.2 dX12_shelf_104
    · have g18780 : Rg 0 0 y77_s0 := wk_eql g77_s0 (by decide : Rg 0 0 (0 : Int32)) c18771 (by decide)
      refine lv_bipush (v := (-2)) hx hb dX12_shelf_84 (by decide) ?_
      subst hAe
      exact W.iret (v := (-2)) hx hb hr (fun t ht hW => ⟨⟨_, v, rfl, ⟨hV, (by decide : Rg (-11) 1 ((-2) : Int32)), trivial⟩, by rw [ht]; exact hP, hD⟩, hS.F ht⟩) hS.2.2 dX12_shelf_86
  have ct56 : ∀ (v : SU) (H : Heap) (locs : List Loc) (ls : Array Slot), Rg 0 3 x0 → Rg 0 5 x1 → (x1 = 4 → Rg 0 3 x2) → TyV v → va_P D cls (wM cI b L v) H → va_D A (wM cI b L v) → va_S A s.heap H locs → lv_has ls 6 [(0, .ref (b 0)), (1, .int x0), (2, .int x1), (3, .int x2)] → W p l e (headSpec wsX12_shelf ({ frames := 5, cells := 0, slots := 0, locals := 200 })).room s m ([.ref (b 0), .int x0, .int x1, .int x2]).toArray below meth c H locs 0 0 (MQ below (QF (S := SU) D (wM cI b L v0) (wM cI b L) s.heap.size (fun r u => TyV u ∧ Rg (-11) 1 r ∧ True)) ([.ref (b 0), .int x0, .int x1, .int x2]).toArray s 0 0 (va_A (wM cI b L v0) s.heap.size)) (F0 m 56 ls []) := by
    intro v H locs ls g56_l1 g56_l2 x56_0 hV hP hD hS hl
    refine lv_iload_n hx hb dX12_shelf_56 rfl (lv_at hl 2 rfl) ?_
    refine lv_iconst (v := 1) hx hb dX12_shelf_57 (by decide) ?_
    refine lv_iconst (v := 2) hx hb dX12_shelf_58 (by decide) ?_
    refine lz_ss (As := [.int x1, .int 1, .int 2]) (rest := []) ⟨hx, hb, hml, hown, hts⟩ (w_X12_in l D cI cS x1 (1 : Int32) (2 : Int32)) hKK (hP.sub (ws' := []) [] rfl) (va_cwS 3 hts gX12_shelf_X12_in rfl rfl rfl (by decide +kernel) ⟨Nat.le_of_ble_eq_true rfl, Nat.le_of_ble_eq_true rfl⟩) rfl hl.1 rfl (Nat.le_of_ble_eq_true rfl) dX12_shelf_59 ⟨Nat.le_of_ble_eq_true rfl, Nat.le_of_ble_eq_true rfl⟩ (fun r18781 hr18781 => ?_)
    refine lv_if_eq (tgt := 76) hx hb dX12_shelf_62 (by decide) (fun c18782 => ?_) (fun c18782 => ?_)
    · have zt18783 : (x1.toInt < (1 : Int32).toInt ∨ (2 : Int32).toInt < x1.toInt) := hr18781.2.1 c18782
      have g18784 : Rg 0 0 r18781 := wk_eql hr18781.1 (by decide : Rg 0 0 (0 : Int32)) c18782 (by decide)
      refine lv_iconst (v := 1) hx hb dX12_shelf_76 (by decide) ?_
      exact ct77 (1 : Int32) v _ _ ls g56_l1 g56_l2 (by decide : Rg 0 4095 (1 : Int32)) (by exact x56_0) hV hP hD hS (lv_sub (l' := [(0, .ref (b 0)), (1, .int x0), (2, .int x1), (3, .int x2)]) hl [0, 1, 2, 3] rfl)
    · have zn18785 : (1 : Int32).toInt ≤ x1.toInt ∧ x1.toInt ≤ (2 : Int32).toInt := (hr18781.2.2 c18782)
      have g18786 : Rg 1 2 x1 := wk_in3 g56_l2 (by decide : Rg 1 1 (1 : Int32)) (by decide : Rg 2 2 (2 : Int32)) (hr18781.2.2 c18782) (by decide)
      have g18787 : Rg 1 1 r18781 := rg_ne_lo (k := 0) hr18781.1 (by decide) c18782 (by decide)
      refine lv_aload_n hx hb dX12_shelf_65 rfl (lv_at hl 0 rfl) ?_
      refine lv_iload_n hx hb dX12_shelf_66 rfl (lv_at hl 2 rfl) ?_
      refine lv_iconst (v := 1) hx hb dX12_shelf_67 (by decide) ?_
      refine wk_isub (e1 := 0) (f := 1) hx hb dX12_shelf_68 g18786 (by decide : Rg 1 1 (1 : Int32)) (by decide) (fun r18788 hr18788 er18788 qr18788 => ?_)
      refine lv_iload_n hx hb dX12_shelf_69 rfl (lv_at hl 3 rfl) ?_
      refine wk_qi (wM cI b L) v (As := [.int r18788, .int x2]) (rest := []) ⟨hx, hb, hml, hown, hts⟩ (w_X12_pieceAt l D cI cS _ b L v hL hV r18788 x2 hr18788) hKK hP hD hS hA 0 (ci := 12) rfl rfl (cwV 2 hts gX12_shelf_X12_pieceAt rfl rfl rfl (by decide +kernel) ⟨Nat.le_of_ble_eq_true rfl, Nat.le_of_ble_eq_true rfl⟩) rfl hl.1 rfl (Nat.le_of_ble_eq_true rfl) dX12_shelf_70 ⟨Nat.le_of_ble_eq_true rfl, Nat.le_of_ble_eq_true rfl⟩ (fun r18789 v H locs hr18789 hP hD hS => ?_)
      have hV := hr18789.1
      refine lv_goto (tgt := 77) hx hb dX12_shelf_73 (by decide) ?_
      exact ct77 r18789 v _ _ ls g56_l1 (show Rg 0 5 x1 from rg_w g18786 (by decide) (by decide)) hr18789.2.1 (by exact x56_0) hV hP hD hS (lv_sub (l' := [(0, .ref (b 0)), (1, .int x0), (2, .int x1), (3, .int x2)]) hl [0, 1, 2, 3] rfl)
  have ct28 : ∀ (v : SU) (H : Heap) (locs : List Loc) (ls : Array Slot), Rg 0 3 x0 → Rg 0 5 x1 → TyV v → va_P D cls (wM cI b L v) H → va_D A (wM cI b L v) → va_S A s.heap H locs → lv_has ls 6 [(0, .ref (b 0)), (1, .int x0), (2, .int x1), (3, .int x2)] → W p l e (headSpec wsX12_shelf ({ frames := 5, cells := 0, slots := 0, locals := 200 })).room s m ([.ref (b 0), .int x0, .int x1, .int x2]).toArray below meth c H locs 0 0 (MQ below (QF (S := SU) D (wM cI b L v0) (wM cI b L) s.heap.size (fun r u => TyV u ∧ Rg (-11) 1 r ∧ True)) ([.ref (b 0), .int x0, .int x1, .int x2]).toArray s 0 0 (va_A (wM cI b L v0) s.heap.size)) (F0 m 28 ls []) := by
    intro v H locs ls g28_l1 g28_l2 hV hP hD hS hl
    refine lv_iload_n hx hb dX12_shelf_28 rfl (lv_at hl 2 rfl) ?_
    refine lv_iconst (v := 3) hx hb dX12_shelf_29 (by decide) ?_
    refine lv_icmp_ne (tgt := 41) hx hb dX12_shelf_30 (by decide) (fun c18790 => ?_) (fun c18790 => ?_)
    · refine lv_iload_n hx hb dX12_shelf_41 rfl (lv_at hl 2 rfl) ?_
      refine lv_iconst (v := 4) hx hb dX12_shelf_42 (by decide) ?_
      refine lv_icmp_ne (tgt := 56) hx hb dX12_shelf_43 (by decide) (fun c18791 => ?_) (fun c18791 => ?_)
      · exact ct56 v _ _ ls g28_l1 g28_l2 (by exact fun h9 => absurd h9 c18791) hV hP hD hS (lv_sub (l' := [(0, .ref (b 0)), (1, .int x0), (2, .int x1), (3, .int x2)]) hl [0, 1, 2, 3] rfl)
      · have g18792 : Rg 4 4 x1 := wk_eql g28_l2 (by decide : Rg 4 4 (4 : Int32)) c18791 (by decide)
        refine lv_iload_n hx hb dX12_shelf_46 rfl (lv_at hl 3 rfl) ?_
        refine lz_ss (As := [.int x2]) (rest := []) ⟨hx, hb, hml, hown, hts⟩ (w_X12_isSheet l D cI cS x2) hKK (hP.sub (ws' := []) [] rfl) (va_cwS 1 hts gX12_shelf_X12_isSheet rfl rfl rfl (by decide +kernel) ⟨Nat.le_of_ble_eq_true rfl, Nat.le_of_ble_eq_true rfl⟩) rfl hl.1 rfl (Nat.le_of_ble_eq_true rfl) dX12_shelf_47 ⟨Nat.le_of_ble_eq_true rfl, Nat.le_of_ble_eq_true rfl⟩ (fun r18793 hr18793 => ?_)
        refine lv_if_ne (tgt := 56) hx hb dX12_shelf_50 (by decide) (fun c18794 => ?_) (fun c18794 => ?_)
        · have g18795 : Rg 0 3 x2 := (hr18793.2.1 c18794)
          have g18796 : Rg 1 1 r18793 := rg_ne_lo (k := 0) hr18793.1 (by decide) c18794 (by decide)
          exact ct56 v _ _ ls g28_l1 (show Rg 0 5 x1 from rg_w g18792 (by decide) (by decide)) (by exact fun _ => g18795) hV hP hD hS (lv_sub (l' := [(0, .ref (b 0)), (1, .int x0), (2, .int x1), (3, .int x2)]) hl [0, 1, 2, 3] rfl)
        · have zt18797 : (x2.toInt < 0 ∨ 3 < x2.toInt) := hr18793.2.2 c18794
          have g18798 : Rg 0 0 r18793 := wk_eql hr18793.1 (by decide : Rg 0 0 (0 : Int32)) c18794 (by decide)
          refine lv_bipush (v := (-2)) hx hb dX12_shelf_53 (by decide) ?_
          subst hAe
          exact W.iret (v := (-2)) hx hb hr (fun t ht hW => ⟨⟨_, v, rfl, ⟨hV, (by decide : Rg (-11) 1 ((-2) : Int32)), trivial⟩, by rw [ht]; exact hP, hD⟩, hS.F ht⟩) hS.2.2 dX12_shelf_55
    · have g18799 : Rg 3 3 x1 := wk_eql g28_l2 (by decide : Rg 3 3 (3 : Int32)) c18790 (by decide)
      refine lv_aload_n hx hb dX12_shelf_33 rfl (lv_at hl 0 rfl) ?_
      refine lv_iload_n hx hb dX12_shelf_34 rfl (lv_at hl 3 rfl) ?_
      refine wk_sv 0 (As := [.int x2]) (rest := []) ⟨hx, hb, hml, hown, hts⟩ (w_X12_isSet l D cI cS b L v hL hV x2) hKK hP (ci := 12) rfl rfl (cwV 1 hts gX12_shelf_X12_isSet rfl rfl rfl (by decide +kernel) ⟨Nat.le_of_ble_eq_true rfl, Nat.le_of_ble_eq_true rfl⟩) rfl hl.1 rfl (Nat.le_of_ble_eq_true rfl) dX12_shelf_35 ⟨Nat.le_of_ble_eq_true rfl, Nat.le_of_ble_eq_true rfl⟩ (fun r18800 hr18800 => ?_)
      refine lv_if_eq (tgt := 53) hx hb dX12_shelf_38 (by decide) (fun c18801 => ?_) (fun c18801 => ?_)
      · have g18802 : Rg 0 0 r18800 := wk_eql hr18800.1 (by decide : Rg 0 0 (0 : Int32)) c18801 (by decide)
        refine lv_bipush (v := (-2)) hx hb dX12_shelf_53 (by decide) ?_
        subst hAe
        exact W.iret (v := (-2)) hx hb hr (fun t ht hW => ⟨⟨_, v, rfl, ⟨hV, (by decide : Rg (-11) 1 ((-2) : Int32)), trivial⟩, by rw [ht]; exact hP, hD⟩, hS.F ht⟩) hS.2.2 dX12_shelf_55
      · have g18803 : Rg 0 4095 x2 := (hr18800.2.1 c18801)
        have g18804 : Rg 1 1 r18800 := rg_ne_lo (k := 0) hr18800.1 (by decide) c18801 (by decide)
        refine lv_iload_n hx hb dX12_shelf_41 rfl (lv_at hl 2 rfl) ?_
        refine lv_iconst (v := 4) hx hb dX12_shelf_42 (by decide) ?_
        refine lv_icmp_ne (tgt := 56) hx hb dX12_shelf_43 (by decide) (fun c18805 => ?_) (fun c18805 => ?_)
        · exact ct56 v _ _ ls g28_l1 (show Rg 0 5 x1 from rg_w g18799 (by decide) (by decide)) (by exact fun h9 => absurd h9 c18805) hV hP hD hS (lv_sub (l' := [(0, .ref (b 0)), (1, .int x0), (2, .int x1), (3, .int x2)]) hl [0, 1, 2, 3] rfl)
        · exact absurd c18805 (wk_neq g18799 (by decide : Rg 4 4 (4 : Int32)) (by decide))
  refine lv_iload_n hx hb dX12_shelf_0 rfl (lv_at hl 1 rfl) ?_
  refine lz_ss (As := [.int x0]) (rest := []) ⟨hx, hb, hml, hown, hts⟩ (w_X12_isShelf l D cI cS x0) hKK (hP.sub (ws' := []) [] rfl) (va_cwS 1 hts gX12_shelf_X12_isShelf rfl rfl rfl (by decide +kernel) ⟨Nat.le_of_ble_eq_true rfl, Nat.le_of_ble_eq_true rfl⟩) rfl hl.1 rfl (Nat.le_of_ble_eq_true rfl) dX12_shelf_1 ⟨Nat.le_of_ble_eq_true rfl, Nat.le_of_ble_eq_true rfl⟩ (fun r18806 hr18806 => ?_)
  refine lv_if_eq (tgt := 53) hx hb dX12_shelf_4 (by decide) (fun c18807 => ?_) (fun c18807 => ?_)
  · have g18808 : Rg 0 0 r18806 := wk_eql hr18806.1 (by decide : Rg 0 0 (0 : Int32)) c18807 (by decide)
    refine lv_bipush (v := (-2)) hx hb dX12_shelf_53 (by decide) ?_
    subst hAe
    exact W.iret (v := (-2)) hx hb hr (fun t ht hW => ⟨⟨_, v, rfl, ⟨hV, (by decide : Rg (-11) 1 ((-2) : Int32)), trivial⟩, by rw [ht]; exact hP, hD⟩, hS.F ht⟩) hS.2.2 dX12_shelf_55
  · have g18809 : Rg 0 3 x0 := (hr18806.2 c18807)
    have g18810 : Rg 1 1 r18806 := rg_ne_lo (k := 0) hr18806.1 (by decide) c18807 (by decide)
    refine lv_iload_n hx hb dX12_shelf_7 rfl (lv_at hl 2 rfl) ?_
    refine lv_iconst (v := 0) hx hb dX12_shelf_8 (by decide) ?_
    refine lv_iconst (v := 5) hx hb dX12_shelf_9 (by decide) ?_
    refine lz_ss (As := [.int x1, .int 0, .int 5]) (rest := []) ⟨hx, hb, hml, hown, hts⟩ (w_X12_in l D cI cS x1 (0 : Int32) (5 : Int32)) hKK (hP.sub (ws' := []) [] rfl) (va_cwS 3 hts gX12_shelf_X12_in rfl rfl rfl (by decide +kernel) ⟨Nat.le_of_ble_eq_true rfl, Nat.le_of_ble_eq_true rfl⟩) rfl hl.1 rfl (Nat.le_of_ble_eq_true rfl) dX12_shelf_10 ⟨Nat.le_of_ble_eq_true rfl, Nat.le_of_ble_eq_true rfl⟩ (fun r18811 hr18811 => ?_)
    refine lv_if_eq (tgt := 53) hx hb dX12_shelf_13 (by decide) (fun c18812 => ?_) (fun c18812 => ?_)
    · have zt18813 : (x1.toInt < (0 : Int32).toInt ∨ (5 : Int32).toInt < x1.toInt) := hr18811.2.1 c18812
      have g18814 : Rg 0 0 r18811 := wk_eql hr18811.1 (by decide : Rg 0 0 (0 : Int32)) c18812 (by decide)
      refine lv_bipush (v := (-2)) hx hb dX12_shelf_53 (by decide) ?_
      subst hAe
      exact W.iret (v := (-2)) hx hb hr (fun t ht hW => ⟨⟨_, v, rfl, ⟨hV, (by decide : Rg (-11) 1 ((-2) : Int32)), trivial⟩, by rw [ht]; exact hP, hD⟩, hS.F ht⟩) hS.2.2 dX12_shelf_55
    · have zn18815 : (0 : Int32).toInt ≤ x1.toInt ∧ x1.toInt ≤ (5 : Int32).toInt := (hr18811.2.2 c18812)
      have g18816 : Rg 0 5 x1 := wk_in3 (rg_any x1) (by decide : Rg 0 0 (0 : Int32)) (by decide : Rg 5 5 (5 : Int32)) (hr18811.2.2 c18812) (by decide)
      have g18817 : Rg 1 1 r18811 := rg_ne_lo (k := 0) hr18811.1 (by decide) c18812 (by decide)
      refine lv_iload_n hx hb dX12_shelf_16 rfl (lv_at hl 2 rfl) ?_
      refine lv_if_ne (tgt := 28) hx hb dX12_shelf_17 (by decide) (fun c18818 => ?_) (fun c18818 => ?_)
      · have g18819 : Rg 1 5 x1 := rg_ne_lo (k := 0) g18816 (by decide) c18818 (by decide)
        exact ct28 v _ _ ls g18809 (show Rg 0 5 x1 from rg_w g18819 (by decide) (by decide)) hV hP hD hS (lv_sub (l' := [(0, .ref (b 0)), (1, .int x0), (2, .int x1), (3, .int x2)]) hl [0, 1, 2, 3] rfl)
      · have g18820 : Rg 0 0 x1 := wk_eql g18816 (by decide : Rg 0 0 (0 : Int32)) c18818 (by decide)
        refine lv_aload_n hx hb dX12_shelf_20 rfl (lv_at hl 0 rfl) ?_
        refine lv_iload_n hx hb dX12_shelf_21 rfl (lv_at hl 3 rfl) ?_
        refine wk_sv 0 (As := [.int x2]) (rest := []) ⟨hx, hb, hml, hown, hts⟩ (w_X12_isPoint l D cI cS b L v hL hV x2) hKK hP (ci := 12) rfl rfl (cwV 1 hts gX12_shelf_X12_isPoint rfl rfl rfl (by decide +kernel) ⟨Nat.le_of_ble_eq_true rfl, Nat.le_of_ble_eq_true rfl⟩) rfl hl.1 rfl (Nat.le_of_ble_eq_true rfl) dX12_shelf_22 ⟨Nat.le_of_ble_eq_true rfl, Nat.le_of_ble_eq_true rfl⟩ (fun r18821 hr18821 => ?_)
        refine lv_if_eq (tgt := 53) hx hb dX12_shelf_25 (by decide) (fun c18822 => ?_) (fun c18822 => ?_)
        · have zt18823 : (x2.toInt < 0 ∨ (L 0 0).toInt - 1 < x2.toInt) := hr18821.2.2 c18822
          have g18824 : Rg 0 0 r18821 := wk_eql hr18821.1 (by decide : Rg 0 0 (0 : Int32)) c18822 (by decide)
          refine lv_bipush (v := (-2)) hx hb dX12_shelf_53 (by decide) ?_
          subst hAe
          exact W.iret (v := (-2)) hx hb hr (fun t ht hW => ⟨⟨_, v, rfl, ⟨hV, (by decide : Rg (-11) 1 ((-2) : Int32)), trivial⟩, by rw [ht]; exact hP, hD⟩, hS.F ht⟩) hS.2.2 dX12_shelf_55
        · have g18825 : Rg 0 11 x2 := (hr18821.2.1 c18822)
          have g18826 : Rg 1 1 r18821 := rg_ne_lo (k := 0) hr18821.1 (by decide) c18822 (by decide)
          exact ct28 v _ _ ls g18809 (show Rg 0 5 x1 from rg_w g18820 (by decide) (by decide)) hV hP hD hS (lv_sub (l' := [(0, .ref (b 0)), (1, .int x0), (2, .int x1), (3, .int x2)]) hl [0, 1, 2, 3] rfl)
set_option maxRecDepth 20000 in
theorem ggX12_wrongAt_X12_in : GoodIn wsX12_wrongAt wsX12_in := goodIn_r _ [9] rfl (by decide +kernel)
set_option maxRecDepth 20000 in
theorem gX12_wrongAt_X12_in : GoodIn wsX12_wrongAt (va_wsS RX12 66 yX12_in wsX12_in) := goodIn_app (goodIn_of _ (by decide +kernel)) ggX12_wrongAt_X12_in
theorem dX12_wrongAt_27 : decode cX12_wrongAt 27 = .ok (.iload_n 2, 1) := by decide +kernel
theorem dX12_wrongAt_28 : decode cX12_wrongAt 28 = .ok (.iconst 0, 1) := by decide +kernel
theorem dX12_wrongAt_29 : decode cX12_wrongAt 29 = .ok (.aload_n 0, 1) := by decide +kernel
theorem dX12_wrongAt_30 : decode cX12_wrongAt 30 = .ok (.getfield 41, 3) := by decide +kernel
theorem dX12_wrongAt_33 : decode cX12_wrongAt 33 = .ok (.iload_n 1, 1) := by decide +kernel
theorem dX12_wrongAt_34 : decode cX12_wrongAt 34 = .ok (.iaload, 1) := by decide +kernel
theorem dX12_wrongAt_35 : decode cX12_wrongAt 35 = .ok (.iconst 1, 1) := by decide +kernel
theorem dX12_wrongAt_36 : decode cX12_wrongAt 36 = .ok (.isub, 1) := by decide +kernel
theorem dX12_wrongAt_37 : decode cX12_wrongAt 37 = .ok (.invokestatic 66, 3) := by decide +kernel
theorem dX12_wrongAt_40 : decode cX12_wrongAt 40 = .ok (.ifCond .eq 7, 3) := by decide +kernel
theorem dX12_wrongAt_43 : decode cX12_wrongAt 43 = .ok (.iconst 0, 1) := by decide +kernel
theorem dX12_wrongAt_44 : decode cX12_wrongAt 44 = .ok (.goto 5, 3) := by decide +kernel
theorem dX12_wrongAt_47 : decode cX12_wrongAt 47 = .ok (.bipush (-12), 2) := by decide +kernel
set_option maxHeartbeats 4000000 in
set_option maxRecDepth 100000 in
theorem w_X12_wrongAt (l : Launch) (D : va_G) (cI cS : ClassId) (b : Nat → Nat) (L v : SU) (hL : TyL L) (hV : TyV v) (x0 x1 : Int32) : Met l yX12_wrongAt wsX12_wrongAt ({ frames := 2, cells := 0, slots := 0, locals := 80 }) (PS D cI cS (wM cI b L v) [.ref (b 0), .int x0, .int x1]) (vp_Si (fun r => Rg (-12) 0 r ∧ (r = 0 → Rg 0 3 x0 ∧ Rg 0 39 x1) ∧ ((x0.toInt < 0 ∨ 3 < x0.toInt → r.toInt = -2) ∧ (0 ≤ x0.toInt → x0.toInt ≤ 3 → (L 9 x0.toNatClampNeg).toInt = -1 → r.toInt = -11) ∧ (0 ≤ x0.toInt → x0.toInt ≤ 3 → ¬ (L 9 x0.toNatClampNeg).toInt = -1 → (x1.toInt < 0 ∨ (L 10 x0.toNatClampNeg).toInt ≤ x1.toInt) → r.toInt = -12) ∧ (0 ≤ x0.toInt → x0.toInt ≤ 3 → ¬ (L 9 x0.toNatClampNeg).toInt = -1 → 0 ≤ x1.toInt → x1.toInt < (L 10 x0.toNatClampNeg).toInt → r.toInt = 0)))) 0 0 (fun _ => False) := by
  refine Met.ofW (cc := cX12_wrongAt) (maxL := 3) (ret := (some .int)) (by decide) rfl ?_
  intro p e s m args below meth c s₁ B hml hv
  obtain ⟨rfl, hP, hKK⟩ := hv
  have hx := B.exec
  have hb := B.bytes
  have hr := B.returns
  have hts := atoms_spec (ws := wsX12_wrongAt) B.pre
  have hown : s.vm.findClass RX12 = some m.cls := findClass_of_methodNamed B.named
  have hlocks := B.notSynchronized
  have hK := hKK.1
  have hin12 : ∀ w ∈ wsX120, w ∈ wsX12_wrongAt := by decide +kernel
  have hl := lv_entry ([.ref (b 0), .int x0, .int x1]) (n := 3) (Nat.le_of_ble_eq_true rfl)
  rw [lg_entry_eq]
  generalize (lg_sl ([.ref (b 0), .int x0, .int x1]) ++ List.replicate (3 - (lg_sl ([.ref (b 0), .int x0, .int x1])).length) Slot.unset).toArray = ls at hl ⊢
  have hl : lv_has ls 3 [(0, .ref (b 0)), (1, .int x0), (2, .int x1)] := hl
  refine lv_iload_n hx hb dX12_wrongAt_0 rfl (lv_at hl 1 rfl) ?_
  refine lz_ss (As := [.int x0]) (rest := []) ⟨hx, hb, hml, hown, hts⟩ (w_X12_isSheet l D cI cS x0) hKK (hP.sub (ws' := []) [] rfl) (va_cwS 1 hts gX12_wrongAt_X12_isSheet rfl rfl rfl (by decide +kernel) ⟨Nat.le_of_ble_eq_true rfl, Nat.le_of_ble_eq_true rfl⟩) rfl hl.1 rfl (Nat.le_of_ble_eq_true rfl) dX12_wrongAt_1 ⟨Nat.le_of_ble_eq_true rfl, Nat.le_of_ble_eq_true rfl⟩ (fun r18846 hr18846 => ?_)
  refine lv_if_ne (tgt := 12) hx hb dX12_wrongAt_4 (by decide) (fun c18847 => ?_) (fun c18847 => ?_)
  · have g18848 : Rg 0 3 x0 := (hr18846.2.1 c18847)
    have g18849 : Rg 1 1 r18846 := rg_ne_lo (k := 0) hr18846.1 (by decide) c18847 (by decide)
    refine lv_aload_n hx hb dX12_wrongAt_12 rfl (lv_at hl 0 rfl) ?_
    refine va_get (D := D) (ci := 12) (v := .ref (b 9)) (C := RX12) (T := TX12) (N := 24) hx hb hts hin12 hown hK hP 0 rfl rfl 16 (by decide) (hts (.fieldLink RX12 38 "MissedPointsModel" "sort" "[I") (by decide +kernel)) (fun _ h9 => h9) rfl dX12_wrongAt_13 ?_
    refine lv_iload_n hx hb dX12_wrongAt_16 rfl (lv_at hl 1 rfl) ?_
    refine va_iald hx hb hK hP 9 0 rfl rfl (rg_in g18848 (by decide) (by decide)) dX12_wrongAt_17 ?_
    refine lz_top (y := (L 9 x0.toNatClampNeg)) rfl ?_
    refine lv_iconst (v := (-1)) hx hb dX12_wrongAt_18 (by decide) ?_
    refine lv_icmp_ne (tgt := 27) hx hb dX12_wrongAt_19 (by decide) (fun c18851 => ?_) (fun c18851 => ?_)
    · have g18852 : Rg 0 1 (L 9 x0.toNatClampNeg) := rg_ne_lo (k := (-1)) (hL.2.2.1 x0.toNatClampNeg) (by decide) c18851 (by decide)
      refine lv_iload_n hx hb dX12_wrongAt_27 rfl (lv_at hl 2 rfl) ?_
      refine lv_iconst (v := 0) hx hb dX12_wrongAt_28 (by decide) ?_
      refine lv_aload_n hx hb dX12_wrongAt_29 rfl (lv_at hl 0 rfl) ?_
      refine va_get (D := D) (ci := 12) (v := .ref (b 10)) (C := RX12) (T := TX12) (N := 24) hx hb hts hin12 hown hK hP 0 rfl rfl 17 (by decide) (hts (.fieldLink RX12 41 "MissedPointsModel" "size" "[I") (by decide +kernel)) (fun _ h9 => h9) rfl dX12_wrongAt_30 ?_
      refine lv_iload_n hx hb dX12_wrongAt_33 rfl (lv_at hl 1 rfl) ?_
      refine va_iald hx hb hK hP 10 0 rfl rfl (rg_in g18848 (by decide) (by decide)) dX12_wrongAt_34 ?_
      refine lz_top (y := (L 10 x0.toNatClampNeg)) rfl ?_
      refine lv_iconst (v := 1) hx hb dX12_wrongAt_35 (by decide) ?_
      refine wk_isub (e1 := (-1)) (f := 39) hx hb dX12_wrongAt_36 (hL.2.2.2.1 x0.toNatClampNeg) (by decide : Rg 1 1 (1 : Int32)) (by decide) (fun r18854 hr18854 er18854 qr18854 => ?_)
      refine lz_ss (As := [.int x1, .int 0, .int r18854]) (rest := []) ⟨hx, hb, hml, hown, hts⟩ (w_X12_in l D cI cS x1 (0 : Int32) r18854) hKK (hP.sub (ws' := []) [] rfl) (va_cwS 3 hts gX12_wrongAt_X12_in rfl rfl rfl (by decide +kernel) ⟨Nat.le_of_ble_eq_true rfl, Nat.le_of_ble_eq_true rfl⟩) rfl hl.1 rfl (Nat.le_of_ble_eq_true rfl) dX12_wrongAt_37 ⟨Nat.le_of_ble_eq_true rfl, Nat.le_of_ble_eq_true rfl⟩ (fun r18855 hr18855 => ?_)
      refine lv_if_eq (tgt := 47) hx hb dX12_wrongAt_40 (by decide) (fun c18856 => ?_) (fun c18856 => ?_)
      · have zt18857 : (x1.toInt < (0 : Int32).toInt ∨ r18854.toInt < x1.toInt) := hr18855.2.1 c18856
        have g18858 : Rg 0 0 r18855 := wk_eql hr18855.1 (by decide : Rg 0 0 (0 : Int32)) c18856 (by decide)
        refine lv_bipush (v := (-12)) hx hb dX12_wrongAt_47 (by decide) ?_
        exact W.iret (v := (-12)) hx hb hr (fun t ht hW => ⟨_, rfl, ⟨(by decide : Rg (-12) 0 ((-12) : Int32)), fun h9 => absurd h9 (by decide), (by have y90 : ¬ r18846.toInt = (0 : Int32).toInt := fun z => c18847 (Int32.toInt_inj.mp z); have y91 : ¬ (L 9 x0.toNatClampNeg).toInt = ((-1) : Int32).toInt := fun z => c18851 (Int32.toInt_inj.mp z); have y92 : r18855.toInt = (0 : Int32).toInt := congrArg Int32.toInt c18856; have y93 : Rg 0 3 x0 := g18848; have y94 : Rg 1 1 r18846 := g18849; have y95 : Rg 0 1 (L 9 x0.toNatClampNeg) := g18852; have y96 : Rg 0 0 r18855 := g18858; have y97 : Rg 0 3 x0 := g18848; have y9c8 : ((-12) : Int32).toInt = -12 := (by decide); have y9c9 : ((-1) : Int32).toInt = -1 := (by decide); have y9c10 : (0 : Int32).toInt = 0 := (by decide); have y9c11 : (1 : Int32).toInt = 1 := (by decide); skip; omega)⟩, ht⟩) (fun q hq => absurd hq List.not_mem_nil) dX12_wrongAt_49
      · have zn18859 : (0 : Int32).toInt ≤ x1.toInt ∧ x1.toInt ≤ r18854.toInt := (hr18855.2.2 c18856)
        have g18860 : Rg 0 39 x1 := wk_in3 (rg_any x1) (by decide : Rg 0 0 (0 : Int32)) hr18854 (hr18855.2.2 c18856) (by decide)
        have g18861 : Rg 1 1 r18855 := rg_ne_lo (k := 0) hr18855.1 (by decide) c18856 (by decide)
        refine lv_iconst (v := 0) hx hb dX12_wrongAt_43 (by decide) ?_
        refine lv_goto (tgt := 49) hx hb dX12_wrongAt_44 (by decide) ?_
        exact W.iret (v := 0) hx hb hr (fun t ht hW => ⟨_, rfl, ⟨(by decide : Rg (-12) 0 (0 : Int32)), fun _ => ⟨g18848, g18860⟩, (by have y90 : ¬ r18846.toInt = (0 : Int32).toInt := fun z => c18847 (Int32.toInt_inj.mp z); have y91 : ¬ (L 9 x0.toNatClampNeg).toInt = ((-1) : Int32).toInt := fun z => c18851 (Int32.toInt_inj.mp z); have y92 : ¬ r18855.toInt = (0 : Int32).toInt := fun z => c18856 (Int32.toInt_inj.mp z); have y93 : Rg 0 3 x0 := g18848; have y94 : Rg 1 1 r18846 := g18849; have y95 : Rg 0 1 (L 9 x0.toNatClampNeg) := g18852; have y96 : Rg 0 39 x1 := g18860; have y97 : Rg 1 1 r18855 := g18861; have y98 : Rg 0 3 x0 := g18848; have y99 : Rg 0 39 x1 := g18860; have y9c10 : ((-1) : Int32).toInt = -1 := (by decide); have y9c11 : (0 : Int32).toInt = 0 := (by decide); have y9c12 : (1 : Int32).toInt = 1 := (by decide); skip; omega)⟩, ht⟩) (fun q hq => absurd hq List.not_mem_nil) dX12_wrongAt_49
    · have g18862 : Rg (-1) (-1) (L 9 x0.toNatClampNeg) := wk_eql (hL.2.2.1 x0.toNatClampNeg) (by decide : Rg (-1) (-1) ((-1) : Int32)) c18851 (by decide)
      refine lv_bipush (v := (-11)) hx hb dX12_wrongAt_22 (by decide) ?_
      refine lv_goto (tgt := 49) hx hb dX12_wrongAt_24 (by decide) ?_
      exact W.iret (v := (-11)) hx hb hr (fun t ht hW => ⟨_, rfl, ⟨(by decide : Rg (-12) 0 ((-11) : Int32)), fun h9 => absurd h9 (by decide), (by have y90 : ¬ r18846.toInt = (0 : Int32).toInt := fun z => c18847 (Int32.toInt_inj.mp z); have y91 : (L 9 x0.toNatClampNeg).toInt = ((-1) : Int32).toInt := congrArg Int32.toInt c18851; have y92 : Rg 0 3 x0 := g18848; have y93 : Rg 1 1 r18846 := g18849; have y94 : Rg (-1) (-1) (L 9 x0.toNatClampNeg) := g18862; have y95 : Rg 0 3 x0 := g18848; have y9c6 : ((-11) : Int32).toInt = -11 := (by decide); have y9c7 : ((-1) : Int32).toInt = -1 := (by decide); have y9c8 : (0 : Int32).toInt = 0 := (by decide); have y9c9 : (1 : Int32).toInt = 1 := (by decide); skip; omega)⟩, ht⟩) (fun q hq => absurd hq List.not_mem_nil) dX12_wrongAt_49
  · have zt18863 : (x0.toInt < 0 ∨ 3 < x0.toInt) := hr18846.2.2 c18847
    have g18864 : Rg 0 0 r18846 := wk_eql hr18846.1 (by decide : Rg 0 0 (0 : Int32)) c18847 (by decide)
    refine lv_bipush (v := (-2)) hx hb dX12_wrongAt_7 (by decide) ?_
    refine lv_goto (tgt := 49) hx hb dX12_wrongAt_9 (by decide) ?_
    exact W.iret (v := (-2)) hx hb hr (fun t ht hW => ⟨_, rfl, ⟨(by decide : Rg (-12) 0 ((-2) : Int32)), fun h9 => absurd h9 (by decide), (by have y90 : r18846.toInt = (0 : Int32).toInt := congrArg Int32.toInt c18847; have y91 : Rg 0 0 r18846 := g18864; have y9c2 : ((-2) : Int32).toInt = -2 := (by decide); have y9c3 : (0 : Int32).toInt = 0 := (by decide); have y9c4 : (1 : Int32).toInt = 1 := (by decide); skip; omega)⟩, ht⟩) (fun q hq => absurd hq List.not_mem_nil) dX12_wrongAt_49
theorem dX12_write_16 : decode cX12_write 16 = .ok (.aload_n 0, 1) := by decide +kernel
theorem dX12_write_17 : decode cX12_write 17 = .ok (.getfield 44, 3) := by decide +kernel
theorem dX12_write_20 : decode cX12_write 20 = .ok (.bipush 40, 2) := by decide +kernel
theorem dX12_write_22 : decode cX12_write 22 = .ok (.iload_n 1, 1) := by decide +kernel
theorem dX12_write_23 : decode cX12_write 23 = .ok (.imul, 1) := by decide +kernel
theorem dX12_write_24 : decode cX12_write 24 = .ok (.iload_n 2, 1) := by decide +kernel
theorem dX12_write_25 : decode cX12_write 25 = .ok (.iadd, 1) := by decide +kernel
theorem dX12_write_26 : decode cX12_write 26 = .ok (.aload_n 0, 1) := by decide +kernel
theorem dX12_write_27 : decode cX12_write 27 = .ok (.getfield 38, 3) := by decide +kernel
theorem dX12_write_30 : decode cX12_write 30 = .ok (.iload_n 1, 1) := by decide +kernel
theorem dX12_write_31 : decode cX12_write 31 = .ok (.iaload, 1) := by decide +kernel
theorem dX12_write_32 : decode cX12_write 32 = .ok (.ifCond .ne 8, 3) := by decide +kernel
theorem dX12_write_35 : decode cX12_write 35 = .ok (.iload_n 3, 1) := by decide +kernel
theorem dX12_write_36 : decode cX12_write 36 = .ok (.i2s, 1) := by decide +kernel
theorem dX12_write_37 : decode cX12_write 37 = .ok (.goto 4, 3) := by decide +kernel
theorem dX12_write_40 : decode cX12_write 40 = .ok (.iload_n 3, 1) := by decide +kernel
theorem dX12_write_41 : decode cX12_write 41 = .ok (.iastore, 1) := by decide +kernel
theorem dX12_write_42 : decode cX12_write 42 = .ok (.iconst 1, 1) := by decide +kernel
theorem dX12_write_43 : decode cX12_write 43 = .ok (.ireturn, 1) := by decide +kernel
set_option maxHeartbeats 4000000 in
set_option maxRecDepth 100000 in
theorem w_X12_write (l : Launch) (D : va_G) (cI cS : ClassId) (sz : Nat) (b : Nat → Nat) (L v0 : SU) (hL : TyL L) (hV : TyV v0) (x0 x1 x2 : Int32) : Met l yX12_write wsX12_write ({ frames := 3, cells := 0, slots := 0, locals := 120 }) (PQ D cI cS (wM cI b L v0) sz [.ref (b 0), .int x0, .int x1, .int x2]) (QF (S := SU) D (wM cI b L v0) (wM cI b L) sz (fun r u => TyV u ∧ Rg (-12) 1 r ∧ ((x0.toInt < 0 ∨ 3 < x0.toInt → r.toInt = -2) ∧ (0 ≤ x0.toInt → x0.toInt ≤ 3 → (L 9 x0.toNatClampNeg).toInt = -1 → r.toInt = -11) ∧ (0 ≤ x0.toInt → x0.toInt ≤ 3 → ¬ (L 9 x0.toNatClampNeg).toInt = -1 → (x1.toInt < 0 ∨ (L 10 x0.toNatClampNeg).toInt ≤ x1.toInt) → r.toInt = -12) ∧ (0 ≤ x0.toInt → x0.toInt ≤ 3 → ¬ (L 9 x0.toNatClampNeg).toInt = -1 → 0 ≤ x1.toInt → x1.toInt < (L 10 x0.toNatClampNeg).toInt → r.toInt = 1)))) 0 0 (va_A (wM cI b L v0) sz) := by
  refine Met.ofW (cc := cX12_write) (maxL := 5) (ret := (some .int)) (by decide) rfl ?_
  intro p e s m args below meth c s₁ B hml hv
  obtain ⟨rfl, hsz, hP, hKK, hD0⟩ := hv
  have hx := B.exec
  have hb := B.bytes
  have hr := B.returns
  have hts := atoms_spec (ws := wsX12_write) B.pre
  have hown : s.vm.findClass RX12 = some m.cls := findClass_of_methodNamed B.named
  have hlocks := B.notSynchronized
  have hK := hKK.1
  have hin12 : ∀ w ∈ wsX120, w ∈ wsX12_write := by decide +kernel
  subst hsz
  have hD := hD0.self (sz := s.heap.size)
  obtain ⟨A, hAe⟩ : ∃ A, A = va_A (wM cI b L v0) s.heap.size := ⟨_, rfl⟩
  rw [← hAe] at hD
  have hA : ∀ q : Nat, s.heap.size ≤ q → A q := fun q h => by rw [hAe]; exact Or.inr h
  have hS : va_S A s.heap s.heap [] := va_S.rf
  have hl := lv_entry ([.ref (b 0), .int x0, .int x1, .int x2]) (n := 5) (Nat.le_of_ble_eq_true rfl)
  rw [lg_entry_eq]
  generalize (lg_sl ([.ref (b 0), .int x0, .int x1, .int x2]) ++ List.replicate (5 - (lg_sl ([.ref (b 0), .int x0, .int x1, .int x2])).length) Slot.unset).toArray = ls at hl ⊢
  have hl : lv_has ls 5 [(0, .ref (b 0)), (1, .int x0), (2, .int x1), (3, .int x2)] := hl
  obtain ⟨v, hv9⟩ : ∃ v : SU, v = v0 := ⟨_, rfl⟩
  rw [← hv9] at hP hD hV
  refine lv_aload_n hx hb dX12_write_0 rfl (lv_at hl 0 rfl) ?_
  refine lv_iload_n hx hb dX12_write_1 rfl (lv_at hl 1 rfl) ?_
  refine lv_iload_n hx hb dX12_write_2 rfl (lv_at hl 2 rfl) ?_
  refine wk_sv 0 (As := [.int x0, .int x1]) (rest := []) ⟨hx, hb, hml, hown, hts⟩ (w_X12_wrongAt l D cI cS b L v hL hV x0 x1) hKK hP (ci := 12) rfl rfl (cwV 2 hts gX12_write_X12_wrongAt rfl rfl rfl (by decide +kernel) ⟨Nat.le_of_ble_eq_true rfl, Nat.le_of_ble_eq_true rfl⟩) rfl hl.1 rfl (Nat.le_of_ble_eq_true rfl) dX12_write_3 ⟨Nat.le_of_ble_eq_true rfl, Nat.le_of_ble_eq_true rfl⟩ (fun r18881 hr18881 => ?_)
  have wq18882 : ((x0.toInt < 0 ∨ 3 < x0.toInt → r18881.toInt = -2) ∧ (0 ≤ x0.toInt → x0.toInt ≤ 3 → (L 9 x0.toNatClampNeg).toInt = -1 → r18881.toInt = -11) ∧ (0 ≤ x0.toInt → x0.toInt ≤ 3 → ¬ (L 9 x0.toNatClampNeg).toInt = -1 → (x1.toInt < 0 ∨ (L 10 x0.toNatClampNeg).toInt ≤ x1.toInt) → r18881.toInt = -12) ∧ (0 ≤ x0.toInt → x0.toInt ≤ 3 → ¬ (L 9 x0.toNatClampNeg).toInt = -1 → 0 ≤ x1.toInt → x1.toInt < (L 10 x0.toNatClampNeg).toInt → r18881.toInt = 0)) := hr18881.2.2
  refine lv_istore (lv' := [(4, .int r18881), (0, .ref (b 0)), (1, .int x0), (2, .int x1), (3, .int x2)]) hx hb dX12_write_6 hl (by decide) rfl (fun ls hl => ?_)
  refine lv_iload hx hb dX12_write_8 (lv_at hl 0 rfl) ?_
  refine lv_if_eq (tgt := 16) hx hb dX12_write_10 (by decide) (fun c18883 => ?_) (fun c18883 => ?_)
  · have g18884 : Rg 0 3 x0 := (hr18881.2.1 c18883).1
    have g18885 : Rg 0 39 x1 := (hr18881.2.1 c18883).2
    have g18886 : Rg 0 0 r18881 := wk_eql hr18881.1 (by decide : Rg 0 0 (0 : Int32)) c18883 (by decide)
    refine lv_aload_n hx hb dX12_write_16 rfl (lv_at hl 1 rfl) ?_
    refine va_get (D := D) (ci := 12) (v := .ref (b 11)) (C := RX12) (T := TX12) (N := 24) hx hb hts hin12 hown hK hP 0 rfl rfl 18 (by decide) (hts (.fieldLink RX12 44 "MissedPointsModel" "items" "[I") (by decide +kernel)) (fun _ h9 => h9) rfl dX12_write_17 ?_
    refine lv_bipush (v := 40) hx hb dX12_write_20 (by decide) ?_
    refine lv_iload_n hx hb dX12_write_22 rfl (lv_at hl 2 rfl) ?_
    refine wk_imul (f := 120) hx hb dX12_write_23 (by decide : Rg 0 40 (40 : Int32)) g18884 (by decide) (fun r18887 hr18887 er18887 qr18887 => ?_)
    refine lv_iload_n hx hb dX12_write_24 rfl (lv_at hl 3 rfl) ?_
    refine wk_iadd (e1 := 0) (f := 159) hx hb dX12_write_25 hr18887 g18885 (by decide) (fun r18888 hr18888 er18888 qr18888 => ?_)
    refine lv_aload_n hx hb dX12_write_26 rfl (lv_at hl 1 rfl) ?_
    refine va_get (D := D) (ci := 12) (v := .ref (b 9)) (C := RX12) (T := TX12) (N := 24) hx hb hts hin12 hown hK hP 0 rfl rfl 16 (by decide) (hts (.fieldLink RX12 38 "MissedPointsModel" "sort" "[I") (by decide +kernel)) (fun _ h9 => h9) rfl dX12_write_27 ?_
    refine lv_iload_n hx hb dX12_write_30 rfl (lv_at hl 2 rfl) ?_
    refine va_iald hx hb hK hP 9 0 rfl rfl (rg_in g18884 (by decide) (by decide)) dX12_write_31 ?_
    refine lz_top (y := (L 9 x0.toNatClampNeg)) rfl ?_
    refine lv_if_ne (tgt := 40) hx hb dX12_write_32 (by decide) (fun c18890 => ?_) (fun c18890 => ?_)
    · refine lv_iload_n hx hb dX12_write_40 rfl (lv_at hl 4 rfl) ?_
      refine ms_11 hx hb hK hP hD hS hV rfl (rg_in hr18888 (by decide) (by decide)) dX12_write_41 (fun v H locs hV ev18891 hP hD hS => ?_)
      refine lv_iconst (v := 1) hx hb dX12_write_42 (by decide) ?_
      subst hAe
      exact W.iret (v := 1) hx hb hr (fun t ht hW => ⟨⟨_, v, rfl, ⟨hV, (by decide : Rg (-12) 1 (1 : Int32)), (by have y90 : r18881.toInt = (0 : Int32).toInt := congrArg Int32.toInt c18883; have y91 : ¬ (L 9 x0.toNatClampNeg).toInt = (0 : Int32).toInt := fun z => c18890 (Int32.toInt_inj.mp z); have y92 : Rg 0 3 x0 := g18884; have y93 : Rg 0 39 x1 := g18885; have y94 : Rg 0 0 r18881 := g18886; have y95 : Rg 0 3 x0 := g18884; have y96 : Rg 0 39 x1 := g18885; have y97 : Rg 0 0 r18881 := g18886; have y9c8 : (0 : Int32).toInt = 0 := (by decide); have y9c9 : (1 : Int32).toInt = 1 := (by decide); skip; omega)⟩, by rw [ht]; exact hP, hD⟩, hS.F ht⟩) hS.2.2 dX12_write_43
    · have g18892 : Rg 0 0 (L 9 x0.toNatClampNeg) := wk_eql (hL.2.2.1 x0.toNatClampNeg) (by decide : Rg 0 0 (0 : Int32)) c18890 (by decide)
      refine lv_iload_n hx hb dX12_write_35 rfl (lv_at hl 4 rfl) ?_
      refine lv_i2s hx hb dX12_write_36 rfl ?_
      refine wk_any (fun r18894 => ?_)
      refine lv_goto (tgt := 41) hx hb dX12_write_37 (by decide) ?_
      refine ms_11 hx hb hK hP hD hS hV rfl (rg_in hr18888 (by decide) (by decide)) dX12_write_41 (fun v H locs hV ev18895 hP hD hS => ?_)
      refine lv_iconst (v := 1) hx hb dX12_write_42 (by decide) ?_
      subst hAe
      exact W.iret (v := 1) hx hb hr (fun t ht hW => ⟨⟨_, v, rfl, ⟨hV, (by decide : Rg (-12) 1 (1 : Int32)), (by have y90 : r18881.toInt = (0 : Int32).toInt := congrArg Int32.toInt c18883; have y91 : (L 9 x0.toNatClampNeg).toInt = (0 : Int32).toInt := congrArg Int32.toInt c18890; have y92 : Rg 0 3 x0 := g18884; have y93 : Rg 0 39 x1 := g18885; have y94 : Rg 0 0 r18881 := g18886; have y95 : Rg 0 0 (L 9 x0.toNatClampNeg) := g18892; have y96 : Rg 0 3 x0 := g18884; have y97 : Rg 0 39 x1 := g18885; have y98 : Rg 0 0 r18881 := g18886; have y9c9 : (0 : Int32).toInt = 0 := (by decide); have y9c10 : (1 : Int32).toInt = 1 := (by decide); skip; omega)⟩, by rw [ht]; exact hP, hD⟩, hS.F ht⟩) hS.2.2 dX12_write_43
  · have g18896 : Rg (-12) (-1) r18881 := rg_ne_hi (k := 0) hr18881.1 (by decide) c18883 (by decide)
    refine lv_iload hx hb dX12_write_13 (lv_at hl 0 rfl) ?_
    subst hAe
    exact W.iret (v := r18881) hx hb hr (fun t ht hW => ⟨⟨_, v, rfl, ⟨hV, (show Rg (-12) 1 r18881 from rg_w g18896 (by decide) (by decide)), (by have y90 : ¬ r18881.toInt = (0 : Int32).toInt := fun z => c18883 (Int32.toInt_inj.mp z); have y91 : Rg (-12) (-1) r18881 := g18896; have y92 : Rg (-12) (-1) r18881 := g18896; have y93 : Rg (-12) (-1) r18881 := g18896; have y94 : Rg (-12) (-1) r18881 := g18896; have y9c5 : (0 : Int32).toInt = 0 := (by decide); have y9c6 : (1 : Int32).toInt = 1 := (by decide); skip; omega)⟩, by rw [ht]; exact hP, hD⟩, hS.F ht⟩) hS.2.2 dX12_write_15
theorem dX12_item_15 : decode cX12_item 15 = .ok (.aload_n 0, 1) := by decide +kernel
theorem dX12_item_16 : decode cX12_item 16 = .ok (.getfield 44, 3) := by decide +kernel
theorem dX12_item_19 : decode cX12_item 19 = .ok (.bipush 40, 2) := by decide +kernel
theorem dX12_item_21 : decode cX12_item 21 = .ok (.iload_n 1, 1) := by decide +kernel
theorem dX12_item_22 : decode cX12_item 22 = .ok (.imul, 1) := by decide +kernel
theorem dX12_item_23 : decode cX12_item 23 = .ok (.iload_n 2, 1) := by decide +kernel
theorem dX12_item_24 : decode cX12_item 24 = .ok (.iadd, 1) := by decide +kernel
theorem dX12_item_25 : decode cX12_item 25 = .ok (.iaload, 1) := by decide +kernel
set_option maxHeartbeats 4000000 in
set_option maxRecDepth 100000 in
theorem w_X12_item (l : Launch) (D : va_G) (cI cS : ClassId) (b : Nat → Nat) (L v : SU) (hL : TyL L) (hV : TyV v) (x0 x1 : Int32) : Met l yX12_item wsX12_item ({ frames := 3, cells := 0, slots := 0, locals := 120 }) (PS D cI cS (wM cI b L v) [.ref (b 0), .int x0, .int x1]) (vp_Si (fun r => Rg (-2147483648) 2147483647 r ∧ True)) 0 0 (fun _ => False) := by
  refine Met.ofW (cc := cX12_item) (maxL := 4) (ret := (some .int)) (by decide) rfl ?_
  intro p e s m args below meth c s₁ B hml hv
  obtain ⟨rfl, hP, hKK⟩ := hv
  have hx := B.exec
  have hb := B.bytes
  have hr := B.returns
  have hts := atoms_spec (ws := wsX12_item) B.pre
  have hown : s.vm.findClass RX12 = some m.cls := findClass_of_methodNamed B.named
  have hlocks := B.notSynchronized
  have hK := hKK.1
  have hin12 : ∀ w ∈ wsX120, w ∈ wsX12_item := by decide +kernel
  have hl := lv_entry ([.ref (b 0), .int x0, .int x1]) (n := 4) (Nat.le_of_ble_eq_true rfl)
  rw [lg_entry_eq]
  generalize (lg_sl ([.ref (b 0), .int x0, .int x1]) ++ List.replicate (4 - (lg_sl ([.ref (b 0), .int x0, .int x1])).length) Slot.unset).toArray = ls at hl ⊢
  have hl : lv_has ls 4 [(0, .ref (b 0)), (1, .int x0), (2, .int x1)] := hl
  refine lv_aload_n hx hb dX12_item_0 rfl (lv_at hl 0 rfl) ?_
  refine lv_iload_n hx hb dX12_item_1 rfl (lv_at hl 1 rfl) ?_
  refine lv_iload_n hx hb dX12_item_2 rfl (lv_at hl 2 rfl) ?_
  refine wk_sv 0 (As := [.int x0, .int x1]) (rest := []) ⟨hx, hb, hml, hown, hts⟩ (w_X12_wrongAt l D cI cS b L v hL hV x0 x1) hKK hP (ci := 12) rfl rfl (cwV 2 hts gX12_item_X12_wrongAt rfl rfl rfl (by decide +kernel) ⟨Nat.le_of_ble_eq_true rfl, Nat.le_of_ble_eq_true rfl⟩) rfl hl.1 rfl (Nat.le_of_ble_eq_true rfl) dX12_item_3 ⟨Nat.le_of_ble_eq_true rfl, Nat.le_of_ble_eq_true rfl⟩ (fun r18907 hr18907 => ?_)
  have wq18908 : ((x0.toInt < 0 ∨ 3 < x0.toInt → r18907.toInt = -2) ∧ (0 ≤ x0.toInt → x0.toInt ≤ 3 → (L 9 x0.toNatClampNeg).toInt = -1 → r18907.toInt = -11) ∧ (0 ≤ x0.toInt → x0.toInt ≤ 3 → ¬ (L 9 x0.toNatClampNeg).toInt = -1 → (x1.toInt < 0 ∨ (L 10 x0.toNatClampNeg).toInt ≤ x1.toInt) → r18907.toInt = -12) ∧ (0 ≤ x0.toInt → x0.toInt ≤ 3 → ¬ (L 9 x0.toNatClampNeg).toInt = -1 → 0 ≤ x1.toInt → x1.toInt < (L 10 x0.toNatClampNeg).toInt → r18907.toInt = 0)) := hr18907.2.2
  refine lv_istore_n (lv' := [(3, .int r18907), (0, .ref (b 0)), (1, .int x0), (2, .int x1)]) hx hb dX12_item_6 rfl hl (by decide) rfl (fun ls hl => ?_)
  refine lv_iload_n hx hb dX12_item_7 rfl (lv_at hl 0 rfl) ?_
  refine lv_if_eq (tgt := 15) hx hb dX12_item_8 (by decide) (fun c18909 => ?_) (fun c18909 => ?_)
  · have g18910 : Rg 0 3 x0 := (hr18907.2.1 c18909).1
    have g18911 : Rg 0 39 x1 := (hr18907.2.1 c18909).2
    have g18912 : Rg 0 0 r18907 := wk_eql hr18907.1 (by decide : Rg 0 0 (0 : Int32)) c18909 (by decide)
    refine lv_aload_n hx hb dX12_item_15 rfl (lv_at hl 1 rfl) ?_
    refine va_get (D := D) (ci := 12) (v := .ref (b 11)) (C := RX12) (T := TX12) (N := 24) hx hb hts hin12 hown hK hP 0 rfl rfl 18 (by decide) (hts (.fieldLink RX12 44 "MissedPointsModel" "items" "[I") (by decide +kernel)) (fun _ h9 => h9) rfl dX12_item_16 ?_
    refine lv_bipush (v := 40) hx hb dX12_item_19 (by decide) ?_
    refine lv_iload_n hx hb dX12_item_21 rfl (lv_at hl 2 rfl) ?_
    refine wk_imul (f := 120) hx hb dX12_item_22 (by decide : Rg 0 40 (40 : Int32)) g18910 (by decide) (fun r18913 hr18913 er18913 qr18913 => ?_)
    refine lv_iload_n hx hb dX12_item_23 rfl (lv_at hl 3 rfl) ?_
    refine wk_iadd (e1 := 0) (f := 159) hx hb dX12_item_24 hr18913 g18911 (by decide) (fun r18914 hr18914 er18914 qr18914 => ?_)
    refine wk_aldA hx hb hK hP 11 0 rfl rfl (rg_in hr18914 (by decide) (by decide)) dX12_item_25 (fun r18915 => ?_)
    exact W.iret (v := r18915) hx hb hr (fun t ht hW => ⟨_, rfl, ⟨(rg_any r18915), trivial⟩, ht⟩) (fun q hq => absurd hq List.not_mem_nil) dX12_item_26
  · have g18916 : Rg (-12) (-1) r18907 := rg_ne_hi (k := 0) hr18907.1 (by decide) c18909 (by decide)
    refine lv_iload_n hx hb dX12_item_11 rfl (lv_at hl 0 rfl) ?_
    refine lv_goto (tgt := 26) hx hb dX12_item_12 (by decide) ?_
    exact W.iret (v := r18907) hx hb hr (fun t ht hW => ⟨_, rfl, ⟨(rg_any r18907), trivial⟩, ht⟩) (fun q hq => absurd hq List.not_mem_nil) dX12_item_26
