theorem dX7_holdsThing_16 : decode cX7_holdsThing 16 = .ok (.iconst (-1), 1) := by decide +kernel
theorem dX7_holdsThing_34 : decode cX7_holdsThing 34 = .ok (.iload_n 3, 1) := by decide +kernel
theorem dX7_holdsThing_35 : decode cX7_holdsThing 35 = .ok (.iload_n 2, 1) := by decide +kernel
theorem dX7_holdsThing_36 : decode cX7_holdsThing 36 = .ok (.if_icmp .ne 5, 3) := by decide +kernel
theorem dX7_holdsThing_39 : decode cX7_holdsThing 39 = .ok (.iconst 1, 1) := by decide +kernel
theorem dX7_holdsThing_40 : decode cX7_holdsThing 40 = .ok (.ireturn, 1) := by decide +kernel
theorem dX7_holdsThing_41 : decode cX7_holdsThing 41 = .ok (.getstatic 25, 3) := by decide +kernel
theorem dX7_holdsThing_44 : decode cX7_holdsThing 44 = .ok (.iload_n 3, 1) := by decide +kernel
theorem dX7_holdsThing_45 : decode cX7_holdsThing 45 = .ok (.iaload, 1) := by decide +kernel
theorem dX7_holdsThing_46 : decode cX7_holdsThing 46 = .ok (.istore_n 3, 1) := by decide +kernel
theorem dX7_holdsThing_47 : decode cX7_holdsThing 47 = .ok (.iinc 4 1, 3) := by decide +kernel
theorem dX7_holdsThing_50 : decode cX7_holdsThing 50 = .ok (.goto (-29), 3) := by decide +kernel
set_option maxHeartbeats 4000000 in
set_option maxRecDepth 100000 in
theorem k_X7_holdsThing (l : Launch) (D : va_G) (cI cS : ClassId) (a : Nat → Nat) (na nc N : Nat) (L u : SU) (hL : TyX L) (hN : N = 0 ∨ N = 24576) (x0 x1 : Int32) : Met l yX7_holdsThing wsX7_holdsThing ({ frames := 1, cells := 0, slots := 0, locals := 40 }) (PT D cI cS (wX cI cS a na nc N L u) [.ref (a 42), .int x0, .int x1]) (vp_Si (fun r => Rg 0 1 r ∧ (r ≠ 0 → Rg 0 5 x1))) 0 0 (fun _ => False) := by
  refine Met.ofW (cc := cX7_holdsThing) (maxL := 5) (ret := (some .boolean)) (by decide) rfl ?_
  intro p e s m args below meth c s₁ B hml hv
  obtain ⟨rfl, hP, hKK, hAB⟩ := hv
  obtain ⟨t9, f9, hZ, hT⟩ := id hAB
  have hx := B.exec
  have hb := B.bytes
  have hr := B.returns
  have hts := atoms_spec (ws := wsX7_holdsThing) B.pre
  have hown : s.vm.findClass RX7 = some m.cls := findClass_of_methodNamed B.named
  have hlocks := B.notSynchronized
  have hK := hKK.1
  have hin7 : ∀ w ∈ wsX70, w ∈ wsX7_holdsThing := by decide +kernel
  have hl := lv_entry ([.ref (a 42), .int x0, .int x1]) (n := 5) (Nat.le_of_ble_eq_true rfl)
  rw [lg_entry_eq]
  generalize (lg_sl ([.ref (a 42), .int x0, .int x1]) ++ List.replicate (5 - (lg_sl ([.ref (a 42), .int x0, .int x1])).length) Slot.unset).toArray = ls at hl ⊢
  have hl : lv_has ls 5 [(0, .ref (a 42)), (1, .int x0), (2, .int x1)] := hl
  have lp21 : ∀ (n21 : Nat) (y21_l3 : Int32) (y21_l4 : Int32) (ls : Array Slot), Rg 0 3 y21_l4 → lv_has ls 5 [(2, .int x1), (3, .int y21_l3), (4, .int y21_l4)] → 3 - y21_l4.toInt < (n21 : Int) → W p l e (headSpec wsX7_holdsThing ({ frames := 1, cells := 0, slots := 0, locals := 40 })).room s m ([.ref (a 42), .int x0, .int x1]).toArray below meth c s.heap [] 0 0 (MQ below (vp_Si (fun r => Rg 0 1 r ∧ (r ≠ 0 → Rg 0 5 x1))) ([.ref (a 42), .int x0, .int x1]).toArray s 0 0 (fun _ => False)) (F0 m 21 ls []) := by
    intro n21
    induction n21 with
    | zero =>
      intro y21_l3 y21_l4 ls g21_l4 hl hm21
      exact absurd rfl (me_z g21_l4 hm21)
    | succ n21 ih21 =>
      intro y21_l3 y21_l4 ls g21_l4 hl hm21
      refine lv_iload hx hb dX7_holdsThing_21 (lv_at hl 2 rfl) ?_
      refine lv_iconst (v := 3) hx hb dX7_holdsThing_23 (by decide) ?_
      refine lv_icmp_ge (tgt := 53) hx hb dX7_holdsThing_24 (by decide) (fun c47364 => ?_) (fun c47364 => ?_)
      · have g47365 : Rg 3 3 y21_l4 := rg_ler (by decide : Rg 3 3 (3 : Int32)) g21_l4 c47364 (by decide)
        refine lv_iconst (v := 0) hx hb dX7_holdsThing_53 (by decide) ?_
        exact W.zret (v := 0) hx hb hr (by decide) (fun t ht hW => ⟨_, rfl, ⟨(by decide : Rg 0 1 (0 : Int32)), fun h9 => absurd rfl h9⟩, ht⟩) (fun q hq => absurd hq List.not_mem_nil) dX7_holdsThing_54
      · have g47366 : Rg 0 2 y21_l4 := rg_ltl g21_l4 (by decide : Rg 3 3 (3 : Int32)) (rg_nle c47364) (by decide)
        refine lv_iload_n hx hb dX7_holdsThing_27 rfl (lv_at hl 1 rfl) ?_
        refine lz_sn (As := [.int y21_l3]) (rest := []) ⟨hx, hb, hml, hown, hts⟩ (k_X11_isKind l D cI cS y21_l3) hKK (hP.sub (ws' := []) [] rfl) ⟨va_cnB 1 hts gX7_holdsThing_X11_isKind_n22 rfl rfl rfl hKK.2.2.2.2.2.2.2.2.2.2.2.2.2.2.2.2.2.2.2.2.2.2.2.2.2 (hts (.initialized RX11) (by decide +kernel)) (by decide +kernel) ⟨Nat.le_of_ble_eq_true rfl, Nat.le_of_ble_eq_true rfl⟩, (hts (.static yX11_isKind) (by decide +kernel)), trivial⟩ rfl hl.1 rfl (Nat.le_of_ble_eq_true rfl) dX7_holdsThing_28 ⟨Nat.le_of_ble_eq_true rfl, Nat.le_of_ble_eq_true rfl⟩ (fun r47367 hr47367 => ?_)
        refine lv_if_eq (tgt := 53) hx hb dX7_holdsThing_31 (by decide) (fun c47368 => ?_) (fun c47368 => ?_)
        · have g47369 : Rg 0 0 r47367 := wk_eql hr47367.1 (by decide : Rg 0 0 (0 : Int32)) c47368 (by decide)
          refine lv_iconst (v := 0) hx hb dX7_holdsThing_53 (by decide) ?_
          exact W.zret (v := 0) hx hb hr (by decide) (fun t ht hW => ⟨_, rfl, ⟨(by decide : Rg 0 1 (0 : Int32)), fun h9 => absurd rfl h9⟩, ht⟩) (fun q hq => absurd hq List.not_mem_nil) dX7_holdsThing_54
        · have g47370 : Rg 0 5 y21_l3 := (hr47367.2 c47368)
          have g47371 : Rg 1 1 r47367 := rg_ne_lo (k := 0) hr47367.1 (by decide) c47368 (by decide)
          refine lv_iload_n hx hb dX7_holdsThing_34 rfl (lv_at hl 1 rfl) ?_
          refine lv_iload_n hx hb dX7_holdsThing_35 rfl (lv_at hl 0 rfl) ?_
          refine lv_icmp_ne (tgt := 41) hx hb dX7_holdsThing_36 (by decide) (fun c47372 => ?_) (fun c47372 => ?_)
          · refine va_gets (A := fun _ => False) hx hb hZ va_S.rf hown (hts (.fieldLink RX7 25 "MissedPoints$Shelves" "ABOVE" "[I") (by decide +kernel)) (fun _ z => z) dX7_holdsThing_41 ?_
            refine lv_iload_n hx hb dX7_holdsThing_44 rfl (lv_at hl 1 rfl) ?_
            refine va_ti (A := fun _ => False) hx hb hT va_S.rf (rg_in g47370 (by decide) (by decide)) rfl dX7_holdsThing_45 ?_
            refine wk_any (fun r47373 => ?_)
            refine lv_istore_n (lv' := [(3, .int r47373), (2, .int x1), (4, .int y21_l4)]) hx hb dX7_holdsThing_46 rfl hl (by decide) rfl (fun ls hl => ?_)
            refine wk_iinc (lv' := fun r => [(4, .int r), (3, .int r47373), (2, .int x1)]) (e1 := 1) (f := 3) hx hb dX7_holdsThing_47 hl (k := 2) rfl (by decide) g47366 (by decide) (fun _ => rfl) (fun r47374 ls hr47374 er47374 hl => ?_)
            refine lv_goto (tgt := 21) hx hb dX7_holdsThing_50 (by decide) ?_
            exact ih21 r47373 r47374 ls (show Rg 0 3 r47374 from rg_w hr47374 (by decide) (by decide)) (lv_sub (l' := [(2, .int x1), (3, .int r47373), (4, .int r47374)]) hl [2, 1, 0] rfl) (me_up hm21 er47374 (by decide))
          · have g47375 : Rg 0 5 x1 := wk_eqr g47370 (rg_any x1) c47372 (by decide)
            refine lv_iconst (v := 1) hx hb dX7_holdsThing_39 (by decide) ?_
            exact W.zret (v := 1) hx hb hr (by decide) (fun t ht hW => ⟨_, rfl, ⟨(by decide : Rg 0 1 (1 : Int32)), fun _ => g47375⟩, ht⟩) (fun q hq => absurd hq List.not_mem_nil) dX7_holdsThing_40
  refine lv_iload_n hx hb dX7_holdsThing_0 rfl (lv_at hl 1 rfl) ?_
  refine lz_sn (As := [.int x0]) (rest := []) ⟨hx, hb, hml, hown, hts⟩ (k_X11_isShelf l D cI cS x0) hKK (hP.sub (ws' := []) [] rfl) ⟨va_cnB 1 hts gX7_holdsThing_X11_isShelf_n18 rfl rfl rfl hKK.2.2.2.2.2.2.2.2.2.2.2.2.2.2.2.2.2.2.2.2.2.2.2.2.1 (hts (.initialized RX11) (by decide +kernel)) (by decide +kernel) ⟨Nat.le_of_ble_eq_true rfl, Nat.le_of_ble_eq_true rfl⟩, (hts (.static yX11_isShelf) (by decide +kernel)), trivial⟩ rfl hl.1 rfl (Nat.le_of_ble_eq_true rfl) dX7_holdsThing_1 ⟨Nat.le_of_ble_eq_true rfl, Nat.le_of_ble_eq_true rfl⟩ (fun r47376 hr47376 => ?_)
  refine lv_if_eq (tgt := 16) hx hb dX7_holdsThing_4 (by decide) (fun c47377 => ?_) (fun c47377 => ?_)
  · have g47378 : Rg 0 0 r47376 := wk_eql hr47376.1 (by decide : Rg 0 0 (0 : Int32)) c47377 (by decide)
    refine lv_iconst (v := (-1)) hx hb dX7_holdsThing_16 (by decide) ?_
    refine lv_istore_n (lv' := [(3, .int (-1)), (0, .ref (a 42)), (1, .int x0), (2, .int x1)]) hx hb dX7_holdsThing_17 rfl hl (by decide) rfl (fun ls hl => ?_)
    refine lv_iconst (v := 0) hx hb dX7_holdsThing_18 (by decide) ?_
    refine lv_istore (lv' := [(4, .int 0), (3, .int (-1)), (0, .ref (a 42)), (1, .int x0), (2, .int x1)]) hx hb dX7_holdsThing_19 hl (by decide) rfl (fun ls hl => ?_)
    exact lp21 4 (((-1) : Int32)) (0 : Int32) ls (by decide : Rg 0 3 (0 : Int32)) (lv_sub (l' := [(2, .int x1), (3, .int (-1)), (4, .int 0)]) hl [4, 1, 0] rfl) (me_i (by decide : Rg 0 3 (0 : Int32)) (by decide))
  · have g47379 : Rg 0 3 x0 := (hr47376.2 c47377)
    have g47380 : Rg 1 1 r47376 := rg_ne_lo (k := 0) hr47376.1 (by decide) c47377 (by decide)
    refine lv_aload_n hx hb dX7_holdsThing_7 rfl (lv_at hl 0 rfl) ?_
    refine va_get (D := D) (ci := 7) (v := .ref (a 43)) (C := RX7) (T := TX7) (N := 2) hx hb hts hin7 hown hK hP 42 rfl rfl 0 (by decide) (hts (.fieldLink RX7 11 "MissedPoints$Shelves" "kinds" "[I") (by decide +kernel)) (fun _ h9 => h9) rfl dX7_holdsThing_8 ?_
    refine lv_iload_n hx hb dX7_holdsThing_11 rfl (lv_at hl 1 rfl) ?_
    refine wk_aldA hx hb hK hP 43 0 rfl rfl (rg_in g47379 (by decide) (by decide)) dX7_holdsThing_12 (fun r47381 => ?_)
    refine lv_goto (tgt := 17) hx hb dX7_holdsThing_13 (by decide) ?_
    refine lv_istore_n (lv' := [(3, .int r47381), (0, .ref (a 42)), (1, .int x0), (2, .int x1)]) hx hb dX7_holdsThing_17 rfl hl (by decide) rfl (fun ls hl => ?_)
    refine lv_iconst (v := 0) hx hb dX7_holdsThing_18 (by decide) ?_
    refine lv_istore (lv' := [(4, .int 0), (3, .int r47381), (0, .ref (a 42)), (1, .int x0), (2, .int x1)]) hx hb dX7_holdsThing_19 hl (by decide) rfl (fun ls hl => ?_)
    exact lp21 4 r47381 (0 : Int32) ls (by decide : Rg 0 3 (0 : Int32)) (lv_sub (l' := [(2, .int x1), (3, .int r47381), (4, .int 0)]) hl [4, 1, 0] rfl) (me_i (by decide : Rg 0 3 (0 : Int32)) (by decide))
theorem dX7_countOf_18 : decode cX7_countOf 18 = .ok (.iinc 2 1, 3) := by decide +kernel
set_option maxHeartbeats 4000000 in
set_option maxRecDepth 100000 in
theorem k_X7_countOf (l : Launch) (D : va_G) (cI cS : ClassId) (a : Nat → Nat) (na nc N : Nat) (L u : SU) (hL : TyX L) (hN : N = 0 ∨ N = 24576) (x0 : Int32) : Met l yX7_countOf wsX7_countOf ({ frames := 2, cells := 0, slots := 0, locals := 80 }) (PT D cI cS (wX cI cS a na nc N L u) [.ref (a 42), .int x0]) (vp_Si (fun r => Rg (-2147483648) 2147483647 r ∧ True)) 0 0 (fun _ => False) := by
  refine Met.ofW (cc := cX7_countOf) (maxL := 4) (ret := (some .int)) (by decide) rfl ?_
  intro p e s m args below meth c s₁ B hml hv
  obtain ⟨rfl, hP, hKK, hAB⟩ := hv
  obtain ⟨t9, f9, hZ, hT⟩ := id hAB
  have hx := B.exec
  have hb := B.bytes
  have hr := B.returns
  have hts := atoms_spec (ws := wsX7_countOf) B.pre
  have hown : s.vm.findClass RX7 = some m.cls := findClass_of_methodNamed B.named
  have hlocks := B.notSynchronized
  have hK := hKK.1
  have hl := lv_entry ([.ref (a 42), .int x0]) (n := 4) (Nat.le_of_ble_eq_true rfl)
  rw [lg_entry_eq]
  generalize (lg_sl ([.ref (a 42), .int x0]) ++ List.replicate (4 - (lg_sl ([.ref (a 42), .int x0])).length) Slot.unset).toArray = ls at hl ⊢
  have hl : lv_has ls 4 [(0, .ref (a 42)), (1, .int x0)] := hl
  have lp4 : ∀ (n4 : Nat) (y4_l2 : Int32) (y4_l3 : Int32) (ls : Array Slot), Rg 0 4 y4_l3 → lv_has ls 4 [(0, .ref (a 42)), (1, .int x0), (2, .int y4_l2), (3, .int y4_l3)] → 4 - y4_l3.toInt < (n4 : Int) → W p l e (headSpec wsX7_countOf ({ frames := 2, cells := 0, slots := 0, locals := 80 })).room s m ([.ref (a 42), .int x0]).toArray below meth c s.heap [] 0 0 (MQ below (vp_Si (fun r => Rg (-2147483648) 2147483647 r ∧ True)) ([.ref (a 42), .int x0]).toArray s 0 0 (fun _ => False)) (F0 m 4 ls []) := by
    intro n4
    induction n4 with
    | zero =>
      intro y4_l2 y4_l3 ls g4_l3 hl hm4
      exact absurd rfl (me_z g4_l3 hm4)
    | succ n4 ih4 =>
      intro y4_l2 y4_l3 ls g4_l3 hl hm4
      refine lv_iload_n hx hb dX7_countOf_4 rfl (lv_at hl 3 rfl) ?_
      refine lv_iconst (v := 4) hx hb dX7_countOf_5 (by decide) ?_
      refine lv_icmp_ge (tgt := 27) hx hb dX7_countOf_6 (by decide) (fun c47700 => ?_) (fun c47700 => ?_)
      · have g47701 : Rg 4 4 y4_l3 := rg_ler (by decide : Rg 4 4 (4 : Int32)) g4_l3 c47700 (by decide)
        refine lv_iload_n hx hb dX7_countOf_27 rfl (lv_at hl 2 rfl) ?_
        exact W.iret (v := y4_l2) hx hb hr (fun t ht hW => ⟨_, rfl, ⟨(rg_any y4_l2), trivial⟩, ht⟩) (fun q hq => absurd hq List.not_mem_nil) dX7_countOf_28
      · have g47702 : Rg 0 3 y4_l3 := rg_ltl g4_l3 (by decide : Rg 4 4 (4 : Int32)) (rg_nle c47700) (by decide)
        refine lv_aload_n hx hb dX7_countOf_9 rfl (lv_at hl 0 rfl) ?_
        refine lv_iload_n hx hb dX7_countOf_10 rfl (lv_at hl 3 rfl) ?_
        refine lv_iload_n hx hb dX7_countOf_11 rfl (lv_at hl 1 rfl) ?_
        refine wk_svT 42 (As := [.int y4_l3, .int x0]) (rest := []) ⟨hx, hb, hml, hown, hts⟩ (k_X7_holdsThing l D cI cS a na nc N L u hL hN y4_l3 x0) hKK hAB hP (ci := 7) rfl rfl (cwV 2 hts gX7_countOf_X7_holdsThing rfl rfl rfl (by decide +kernel) ⟨Nat.le_of_ble_eq_true rfl, Nat.le_of_ble_eq_true rfl⟩) rfl hl.1 rfl (Nat.le_of_ble_eq_true rfl) dX7_countOf_12 ⟨Nat.le_of_ble_eq_true rfl, Nat.le_of_ble_eq_true rfl⟩ (fun r47703 hr47703 => ?_)
        refine lv_if_eq (tgt := 21) hx hb dX7_countOf_15 (by decide) (fun c47704 => ?_) (fun c47704 => ?_)
        · have g47705 : Rg 0 0 r47703 := wk_eql hr47703.1 (by decide : Rg 0 0 (0 : Int32)) c47704 (by decide)
          refine wk_iinc (lv' := fun r => [(3, .int r), (0, .ref (a 42)), (1, .int x0), (2, .int y4_l2)]) (e1 := 1) (f := 4) hx hb dX7_countOf_21 hl (k := 3) rfl (by decide) g47702 (by decide) (fun _ => rfl) (fun r47706 ls hr47706 er47706 hl => ?_)
          refine lv_goto (tgt := 4) hx hb dX7_countOf_24 (by decide) ?_
          exact ih4 y4_l2 r47706 ls (show Rg 0 4 r47706 from rg_w hr47706 (by decide) (by decide)) (lv_sub (l' := [(0, .ref (a 42)), (1, .int x0), (2, .int y4_l2), (3, .int r47706)]) hl [1, 2, 3, 0] rfl) (me_up hm4 er47706 (by decide))
        · have g47707 : Rg 0 5 x0 := (hr47703.2 c47704)
          have g47708 : Rg 1 1 r47703 := rg_ne_lo (k := 0) hr47703.1 (by decide) c47704 (by decide)
          refine wk_iincA (lv' := fun r => [(2, .int r), (0, .ref (a 42)), (1, .int x0), (3, .int y4_l3)]) hx hb dX7_countOf_18 hl (k := 2) rfl (by decide) (fun _ => rfl) (fun r47709 ls hl => ?_)
          refine wk_iinc (lv' := fun r => [(3, .int r), (2, .int r47709), (0, .ref (a 42)), (1, .int x0)]) (e1 := 1) (f := 4) hx hb dX7_countOf_21 hl (k := 3) rfl (by decide) g47702 (by decide) (fun _ => rfl) (fun r47710 ls hr47710 er47710 hl => ?_)
          refine lv_goto (tgt := 4) hx hb dX7_countOf_24 (by decide) ?_
          exact ih4 r47709 r47710 ls (show Rg 0 4 r47710 from rg_w hr47710 (by decide) (by decide)) (lv_sub (l' := [(0, .ref (a 42)), (1, .int x0), (2, .int r47709), (3, .int r47710)]) hl [2, 3, 1, 0] rfl) (me_up hm4 er47710 (by decide))
  refine lv_iconst (v := 0) hx hb dX7_countOf_0 (by decide) ?_
  refine lv_istore_n (lv' := [(2, .int 0), (0, .ref (a 42)), (1, .int x0)]) hx hb dX7_countOf_1 rfl hl (by decide) rfl (fun ls hl => ?_)
  refine lv_iconst (v := 0) hx hb dX7_countOf_2 (by decide) ?_
  refine lv_istore_n (lv' := [(3, .int 0), (2, .int 0), (0, .ref (a 42)), (1, .int x0)]) hx hb dX7_countOf_3 rfl hl (by decide) rfl (fun ls hl => ?_)
  exact lp4 5 (0 : Int32) (0 : Int32) ls (by decide : Rg 0 4 (0 : Int32)) (lv_sub (l' := [(0, .ref (a 42)), (1, .int x0), (2, .int 0), (3, .int 0)]) hl [2, 3, 1, 0] rfl) (me_i (by decide : Rg 0 4 (0 : Int32)) (by decide))
theorem dX7_pointsOf_18 : decode cX7_pointsOf 18 = .ok (.iload_n 2, 1) := by decide +kernel
theorem dX7_pointsOf_19 : decode cX7_pointsOf 19 = .ok (.aload_n 0, 1) := by decide +kernel
theorem dX7_pointsOf_20 : decode cX7_pointsOf 20 = .ok (.getfield 15, 3) := by decide +kernel
theorem dX7_pointsOf_23 : decode cX7_pointsOf 23 = .ok (.iload_n 3, 1) := by decide +kernel
theorem dX7_pointsOf_24 : decode cX7_pointsOf 24 = .ok (.iaload, 1) := by decide +kernel
theorem dX7_pointsOf_25 : decode cX7_pointsOf 25 = .ok (.ior, 1) := by decide +kernel
theorem dX7_pointsOf_26 : decode cX7_pointsOf 26 = .ok (.istore_n 2, 1) := by decide +kernel
set_option maxHeartbeats 4000000 in
set_option maxRecDepth 100000 in
theorem k_X7_pointsOf (l : Launch) (D : va_G) (cI cS : ClassId) (a : Nat → Nat) (na nc N : Nat) (L u : SU) (hL : TyX L) (hN : N = 0 ∨ N = 24576) (x0 : Int32) : Met l yX7_pointsOf wsX7_pointsOf ({ frames := 2, cells := 0, slots := 0, locals := 80 }) (PT D cI cS (wX cI cS a na nc N L u) [.ref (a 42), .int x0]) (vp_Si (fun r => Rg (-2147483648) 2147483647 r ∧ True)) 0 0 (fun _ => False) := by
  refine Met.ofW (cc := cX7_pointsOf) (maxL := 4) (ret := (some .int)) (by decide) rfl ?_
  intro p e s m args below meth c s₁ B hml hv
  obtain ⟨rfl, hP, hKK, hAB⟩ := hv
  obtain ⟨t9, f9, hZ, hT⟩ := id hAB
  have hx := B.exec
  have hb := B.bytes
  have hr := B.returns
  have hts := atoms_spec (ws := wsX7_pointsOf) B.pre
  have hown : s.vm.findClass RX7 = some m.cls := findClass_of_methodNamed B.named
  have hlocks := B.notSynchronized
  have hK := hKK.1
  have hin7 : ∀ w ∈ wsX70, w ∈ wsX7_pointsOf := by decide +kernel
  have hl := lv_entry ([.ref (a 42), .int x0]) (n := 4) (Nat.le_of_ble_eq_true rfl)
  rw [lg_entry_eq]
  generalize (lg_sl ([.ref (a 42), .int x0]) ++ List.replicate (4 - (lg_sl ([.ref (a 42), .int x0])).length) Slot.unset).toArray = ls at hl ⊢
  have hl : lv_has ls 4 [(0, .ref (a 42)), (1, .int x0)] := hl
  have lp4 : ∀ (n4 : Nat) (y4_l2 : Int32) (y4_l3 : Int32) (ls : Array Slot), Rg 0 4 y4_l3 → lv_has ls 4 [(0, .ref (a 42)), (1, .int x0), (2, .int y4_l2), (3, .int y4_l3)] → 4 - y4_l3.toInt < (n4 : Int) → W p l e (headSpec wsX7_pointsOf ({ frames := 2, cells := 0, slots := 0, locals := 80 })).room s m ([.ref (a 42), .int x0]).toArray below meth c s.heap [] 0 0 (MQ below (vp_Si (fun r => Rg (-2147483648) 2147483647 r ∧ True)) ([.ref (a 42), .int x0]).toArray s 0 0 (fun _ => False)) (F0 m 4 ls []) := by
    intro n4
    induction n4 with
    | zero =>
      intro y4_l2 y4_l3 ls g4_l3 hl hm4
      exact absurd rfl (me_z g4_l3 hm4)
    | succ n4 ih4 =>
      intro y4_l2 y4_l3 ls g4_l3 hl hm4
      refine lv_iload_n hx hb dX7_pointsOf_4 rfl (lv_at hl 3 rfl) ?_
      refine lv_iconst (v := 4) hx hb dX7_pointsOf_5 (by decide) ?_
      refine lv_icmp_ge (tgt := 33) hx hb dX7_pointsOf_6 (by decide) (fun c47758 => ?_) (fun c47758 => ?_)
      · have g47759 : Rg 4 4 y4_l3 := rg_ler (by decide : Rg 4 4 (4 : Int32)) g4_l3 c47758 (by decide)
        refine lv_iload_n hx hb dX7_pointsOf_33 rfl (lv_at hl 2 rfl) ?_
        exact W.iret (v := y4_l2) hx hb hr (fun t ht hW => ⟨_, rfl, ⟨(rg_any y4_l2), trivial⟩, ht⟩) (fun q hq => absurd hq List.not_mem_nil) dX7_pointsOf_34
      · have g47760 : Rg 0 3 y4_l3 := rg_ltl g4_l3 (by decide : Rg 4 4 (4 : Int32)) (rg_nle c47758) (by decide)
        refine lv_aload_n hx hb dX7_pointsOf_9 rfl (lv_at hl 0 rfl) ?_
        refine lv_iload_n hx hb dX7_pointsOf_10 rfl (lv_at hl 3 rfl) ?_
        refine lv_iload_n hx hb dX7_pointsOf_11 rfl (lv_at hl 1 rfl) ?_
        refine wk_svT 42 (As := [.int y4_l3, .int x0]) (rest := []) ⟨hx, hb, hml, hown, hts⟩ (k_X7_holdsThing l D cI cS a na nc N L u hL hN y4_l3 x0) hKK hAB hP (ci := 7) rfl rfl (cwV 2 hts gX7_pointsOf_X7_holdsThing rfl rfl rfl (by decide +kernel) ⟨Nat.le_of_ble_eq_true rfl, Nat.le_of_ble_eq_true rfl⟩) rfl hl.1 rfl (Nat.le_of_ble_eq_true rfl) dX7_pointsOf_12 ⟨Nat.le_of_ble_eq_true rfl, Nat.le_of_ble_eq_true rfl⟩ (fun r47761 hr47761 => ?_)
        refine lv_if_eq (tgt := 27) hx hb dX7_pointsOf_15 (by decide) (fun c47762 => ?_) (fun c47762 => ?_)
        · have g47763 : Rg 0 0 r47761 := wk_eql hr47761.1 (by decide : Rg 0 0 (0 : Int32)) c47762 (by decide)
          refine wk_iinc (lv' := fun r => [(3, .int r), (0, .ref (a 42)), (1, .int x0), (2, .int y4_l2)]) (e1 := 1) (f := 4) hx hb dX7_pointsOf_27 hl (k := 3) rfl (by decide) g47760 (by decide) (fun _ => rfl) (fun r47764 ls hr47764 er47764 hl => ?_)
          refine lv_goto (tgt := 4) hx hb dX7_pointsOf_30 (by decide) ?_
          exact ih4 y4_l2 r47764 ls (show Rg 0 4 r47764 from rg_w hr47764 (by decide) (by decide)) (lv_sub (l' := [(0, .ref (a 42)), (1, .int x0), (2, .int y4_l2), (3, .int r47764)]) hl [1, 2, 3, 0] rfl) (me_up hm4 er47764 (by decide))
        · have g47765 : Rg 0 5 x0 := (hr47761.2 c47762)
          have g47766 : Rg 1 1 r47761 := rg_ne_lo (k := 0) hr47761.1 (by decide) c47762 (by decide)
          refine lv_iload_n hx hb dX7_pointsOf_18 rfl (lv_at hl 2 rfl) ?_
          refine lv_aload_n hx hb dX7_pointsOf_19 rfl (lv_at hl 0 rfl) ?_
          refine va_get (D := D) (ci := 7) (v := .ref (a 44)) (C := RX7) (T := TX7) (N := 2) hx hb hts hin7 hown hK hP 42 rfl rfl 1 (by decide) (hts (.fieldLink RX7 15 "MissedPoints$Shelves" "worths" "[I") (by decide +kernel)) (fun _ h9 => h9) rfl dX7_pointsOf_20 ?_
          refine lv_iload_n hx hb dX7_pointsOf_23 rfl (lv_at hl 3 rfl) ?_
          refine wk_aldA hx hb hK hP 44 0 rfl rfl (rg_in g47760 (by decide) (by decide)) dX7_pointsOf_24 (fun r47767 => ?_)
          refine lv_ior hx hb dX7_pointsOf_25 ?_
          refine wk_topP (P := fun r => r = y4_l2 ||| r47767) rfl (fun r47768 qr47768 => ?_)
          refine lv_istore_n (lv' := [(2, .int r47768), (0, .ref (a 42)), (1, .int x0), (3, .int y4_l3)]) hx hb dX7_pointsOf_26 rfl hl (by decide) rfl (fun ls hl => ?_)
          refine wk_iinc (lv' := fun r => [(3, .int r), (2, .int r47768), (0, .ref (a 42)), (1, .int x0)]) (e1 := 1) (f := 4) hx hb dX7_pointsOf_27 hl (k := 3) rfl (by decide) g47760 (by decide) (fun _ => rfl) (fun r47769 ls hr47769 er47769 hl => ?_)
          refine lv_goto (tgt := 4) hx hb dX7_pointsOf_30 (by decide) ?_
          exact ih4 r47768 r47769 ls (show Rg 0 4 r47769 from rg_w hr47769 (by decide) (by decide)) (lv_sub (l' := [(0, .ref (a 42)), (1, .int x0), (2, .int r47768), (3, .int r47769)]) hl [2, 3, 1, 0] rfl) (me_up hm4 er47769 (by decide))
  refine lv_iconst (v := 0) hx hb dX7_pointsOf_0 (by decide) ?_
  refine lv_istore_n (lv' := [(2, .int 0), (0, .ref (a 42)), (1, .int x0)]) hx hb dX7_pointsOf_1 rfl hl (by decide) rfl (fun ls hl => ?_)
  refine lv_iconst (v := 0) hx hb dX7_pointsOf_2 (by decide) ?_
  refine lv_istore_n (lv' := [(3, .int 0), (2, .int 0), (0, .ref (a 42)), (1, .int x0)]) hx hb dX7_pointsOf_3 rfl hl (by decide) rfl (fun ls hl => ?_)
  exact lp4 5 (0 : Int32) (0 : Int32) ls (by decide : Rg 0 4 (0 : Int32)) (lv_sub (l' := [(0, .ref (a 42)), (1, .int x0), (2, .int 0), (3, .int 0)]) hl [2, 3, 1, 0] rfl) (me_i (by decide : Rg 0 4 (0 : Int32)) (by decide))
set_option maxRecDepth 20000 in
theorem ggX7_fullestOf_J6_bitCount_0f7a4 : GoodIn wsX7_fullestOf wsJ6_bitCount_0f7a4 := goodIn_r _ [17, 18, 19, 20] rfl (by decide +kernel)
set_option maxRecDepth 20000 in
theorem gX7_fullestOf_J6_bitCount_0f7a4 : GoodIn wsX7_fullestOf (va_wsS RX7 32 yJ6_bitCount_0f7a4 wsJ6_bitCount_0f7a4) := goodIn_app (goodIn_of _ (by decide +kernel)) ggX7_fullestOf_J6_bitCount_0f7a4
theorem dX7_fullestOf_23 : decode cX7_fullestOf 23 = .ok (.aload_n 0, 1) := by decide +kernel
theorem dX7_fullestOf_24 : decode cX7_fullestOf 24 = .ok (.getfield 15, 3) := by decide +kernel
theorem dX7_fullestOf_27 : decode cX7_fullestOf 27 = .ok (.iload 4, 2) := by decide +kernel
theorem dX7_fullestOf_29 : decode cX7_fullestOf 29 = .ok (.iaload, 1) := by decide +kernel
theorem dX7_fullestOf_30 : decode cX7_fullestOf 30 = .ok (.invokestatic 32, 3) := by decide +kernel
theorem dX7_fullestOf_33 : decode cX7_fullestOf 33 = .ok (.iload_n 3, 1) := by decide +kernel
theorem dX7_fullestOf_34 : decode cX7_fullestOf 34 = .ok (.if_icmp .le 17, 3) := by decide +kernel
theorem dX7_fullestOf_37 : decode cX7_fullestOf 37 = .ok (.iload 4, 2) := by decide +kernel
theorem dX7_fullestOf_39 : decode cX7_fullestOf 39 = .ok (.istore_n 2, 1) := by decide +kernel
theorem dX7_fullestOf_40 : decode cX7_fullestOf 40 = .ok (.aload_n 0, 1) := by decide +kernel
theorem dX7_fullestOf_41 : decode cX7_fullestOf 41 = .ok (.getfield 15, 3) := by decide +kernel
theorem dX7_fullestOf_44 : decode cX7_fullestOf 44 = .ok (.iload 4, 2) := by decide +kernel
theorem dX7_fullestOf_46 : decode cX7_fullestOf 46 = .ok (.iaload, 1) := by decide +kernel
theorem dX7_fullestOf_47 : decode cX7_fullestOf 47 = .ok (.invokestatic 32, 3) := by decide +kernel
theorem dX7_fullestOf_50 : decode cX7_fullestOf 50 = .ok (.istore_n 3, 1) := by decide +kernel
set_option maxHeartbeats 4000000 in
set_option maxRecDepth 100000 in
theorem k_X7_fullestOf (l : Launch) (D : va_G) (cI cS : ClassId) (a : Nat → Nat) (na nc N : Nat) (L u : SU) (hL : TyX L) (hN : N = 0 ∨ N = 24576) (x0 : Int32) : Met l yX7_fullestOf wsX7_fullestOf ({ frames := 2, cells := 0, slots := 0, locals := 80 }) (PT D cI cS (wX cI cS a na nc N L u) [.ref (a 42), .int x0]) (vp_Si (fun r => Rg (-1) 3 r ∧ True)) 0 0 (fun _ => False) := by
  refine Met.ofW (cc := cX7_fullestOf) (maxL := 5) (ret := (some .int)) (by decide) rfl ?_
  intro p e s m args below meth c s₁ B hml hv
  obtain ⟨rfl, hP, hKK, hAB⟩ := hv
  obtain ⟨t9, f9, hZ, hT⟩ := id hAB
  have hx := B.exec
  have hb := B.bytes
  have hr := B.returns
  have hts := atoms_spec (ws := wsX7_fullestOf) B.pre
  have hown : s.vm.findClass RX7 = some m.cls := findClass_of_methodNamed B.named
  have hlocks := B.notSynchronized
  have hK := hKK.1
  have hin7 : ∀ w ∈ wsX70, w ∈ wsX7_fullestOf := by decide +kernel
  have hl := lv_entry ([.ref (a 42), .int x0]) (n := 5) (Nat.le_of_ble_eq_true rfl)
  rw [lg_entry_eq]
  generalize (lg_sl ([.ref (a 42), .int x0]) ++ List.replicate (5 - (lg_sl ([.ref (a 42), .int x0])).length) Slot.unset).toArray = ls at hl ⊢
  have hl : lv_has ls 5 [(0, .ref (a 42)), (1, .int x0)] := hl
  have lp7 : ∀ (n7 : Nat) (y7_l2 : Int32) (y7_l3 : Int32) (y7_l4 : Int32) (ls : Array Slot), Rg (-1) 3 y7_l2 → Rg 0 4 y7_l4 → lv_has ls 5 [(0, .ref (a 42)), (1, .int x0), (2, .int y7_l2), (3, .int y7_l3), (4, .int y7_l4)] → 4 - y7_l4.toInt < (n7 : Int) → W p l e (headSpec wsX7_fullestOf ({ frames := 2, cells := 0, slots := 0, locals := 80 })).room s m ([.ref (a 42), .int x0]).toArray below meth c s.heap [] 0 0 (MQ below (vp_Si (fun r => Rg (-1) 3 r ∧ True)) ([.ref (a 42), .int x0]).toArray s 0 0 (fun _ => False)) (F0 m 7 ls []) := by
    intro n7
    induction n7 with
    | zero =>
      intro y7_l2 y7_l3 y7_l4 ls g7_l2 g7_l4 hl hm7
      exact absurd rfl (me_z g7_l4 hm7)
    | succ n7 ih7 =>
      intro y7_l2 y7_l3 y7_l4 ls g7_l2 g7_l4 hl hm7
      refine lv_iload hx hb dX7_fullestOf_7 (lv_at hl 4 rfl) ?_
      refine lv_iconst (v := 4) hx hb dX7_fullestOf_9 (by decide) ?_
      refine lv_icmp_ge (tgt := 57) hx hb dX7_fullestOf_10 (by decide) (fun c47837 => ?_) (fun c47837 => ?_)
      · have g47838 : Rg 4 4 y7_l4 := rg_ler (by decide : Rg 4 4 (4 : Int32)) g7_l4 c47837 (by decide)
        refine lv_iload_n hx hb dX7_fullestOf_57 rfl (lv_at hl 2 rfl) ?_
        exact W.iret (v := y7_l2) hx hb hr (fun t ht hW => ⟨_, rfl, ⟨g7_l2, trivial⟩, ht⟩) (fun q hq => absurd hq List.not_mem_nil) dX7_fullestOf_58
      · have g47839 : Rg 0 3 y7_l4 := rg_ltl g7_l4 (by decide : Rg 4 4 (4 : Int32)) (rg_nle c47837) (by decide)
        refine lv_aload_n hx hb dX7_fullestOf_13 rfl (lv_at hl 0 rfl) ?_
        refine lv_iload hx hb dX7_fullestOf_14 (lv_at hl 4 rfl) ?_
        refine lv_iload_n hx hb dX7_fullestOf_16 rfl (lv_at hl 1 rfl) ?_
        refine wk_svT 42 (As := [.int y7_l4, .int x0]) (rest := []) ⟨hx, hb, hml, hown, hts⟩ (k_X7_holdsThing l D cI cS a na nc N L u hL hN y7_l4 x0) hKK hAB hP (ci := 7) rfl rfl (cwV 2 hts gX7_fullestOf_X7_holdsThing rfl rfl rfl (by decide +kernel) ⟨Nat.le_of_ble_eq_true rfl, Nat.le_of_ble_eq_true rfl⟩) rfl hl.1 rfl (Nat.le_of_ble_eq_true rfl) dX7_fullestOf_17 ⟨Nat.le_of_ble_eq_true rfl, Nat.le_of_ble_eq_true rfl⟩ (fun r47840 hr47840 => ?_)
        refine lv_if_eq (tgt := 51) hx hb dX7_fullestOf_20 (by decide) (fun c47841 => ?_) (fun c47841 => ?_)
        · have g47842 : Rg 0 0 r47840 := wk_eql hr47840.1 (by decide : Rg 0 0 (0 : Int32)) c47841 (by decide)
          refine wk_iinc (lv' := fun r => [(4, .int r), (0, .ref (a 42)), (1, .int x0), (2, .int y7_l2), (3, .int y7_l3)]) (e1 := 1) (f := 4) hx hb dX7_fullestOf_51 hl (k := 4) rfl (by decide) g47839 (by decide) (fun _ => rfl) (fun r47843 ls hr47843 er47843 hl => ?_)
          refine lv_goto (tgt := 7) hx hb dX7_fullestOf_54 (by decide) ?_
          exact ih7 y7_l2 y7_l3 r47843 ls g7_l2 (show Rg 0 4 r47843 from rg_w hr47843 (by decide) (by decide)) (lv_sub (l' := [(0, .ref (a 42)), (1, .int x0), (2, .int y7_l2), (3, .int y7_l3), (4, .int r47843)]) hl [1, 2, 3, 4, 0] rfl) (me_up hm7 er47843 (by decide))
        · have g47844 : Rg 0 5 x0 := (hr47840.2 c47841)
          have g47845 : Rg 1 1 r47840 := rg_ne_lo (k := 0) hr47840.1 (by decide) c47841 (by decide)
          refine lv_aload_n hx hb dX7_fullestOf_23 rfl (lv_at hl 0 rfl) ?_
          refine va_get (D := D) (ci := 7) (v := .ref (a 44)) (C := RX7) (T := TX7) (N := 2) hx hb hts hin7 hown hK hP 42 rfl rfl 1 (by decide) (hts (.fieldLink RX7 15 "MissedPoints$Shelves" "worths" "[I") (by decide +kernel)) (fun _ h9 => h9) rfl dX7_fullestOf_24 ?_
          refine lv_iload hx hb dX7_fullestOf_27 (lv_at hl 4 rfl) ?_
          refine wk_aldA hx hb hK hP 44 0 rfl rfl (rg_in g47839 (by decide) (by decide)) dX7_fullestOf_29 (fun r47846 => ?_)
          refine lz_ss (As := [.int r47846]) (rest := []) ⟨hx, hb, hml, hown, hts⟩ (k_J6_bitCount_0f7a4 l D cI cS r47846) hKK (hP.sub (ws' := []) [] rfl) (va_cwS 1 hts gX7_fullestOf_J6_bitCount_0f7a4 rfl rfl rfl (by decide +kernel) ⟨Nat.le_of_ble_eq_true rfl, Nat.le_of_ble_eq_true rfl⟩) rfl hl.1 rfl (Nat.le_of_ble_eq_true rfl) dX7_fullestOf_30 ⟨Nat.le_of_ble_eq_true rfl, Nat.le_of_ble_eq_true rfl⟩ (fun r47847 hr47847 => ?_)
          refine lv_iload_n hx hb dX7_fullestOf_33 rfl (lv_at hl 3 rfl) ?_
          refine lv_icmp_le (tgt := 51) hx hb dX7_fullestOf_34 (by decide) (fun c47848 => ?_) (fun c47848 => ?_)
          · refine wk_iinc (lv' := fun r => [(4, .int r), (0, .ref (a 42)), (1, .int x0), (2, .int y7_l2), (3, .int y7_l3)]) (e1 := 1) (f := 4) hx hb dX7_fullestOf_51 hl (k := 4) rfl (by decide) g47839 (by decide) (fun _ => rfl) (fun r47849 ls hr47849 er47849 hl => ?_)
            refine lv_goto (tgt := 7) hx hb dX7_fullestOf_54 (by decide) ?_
            exact ih7 y7_l2 y7_l3 r47849 ls g7_l2 (show Rg 0 4 r47849 from rg_w hr47849 (by decide) (by decide)) (lv_sub (l' := [(0, .ref (a 42)), (1, .int x0), (2, .int y7_l2), (3, .int y7_l3), (4, .int r47849)]) hl [1, 2, 3, 4, 0] rfl) (me_up hm7 er47849 (by decide))
          · refine lv_iload hx hb dX7_fullestOf_37 (lv_at hl 4 rfl) ?_
            refine lv_istore_n (lv' := [(2, .int y7_l4), (0, .ref (a 42)), (1, .int x0), (3, .int y7_l3), (4, .int y7_l4)]) hx hb dX7_fullestOf_39 rfl hl (by decide) rfl (fun ls hl => ?_)
            refine lv_aload_n hx hb dX7_fullestOf_40 rfl (lv_at hl 1 rfl) ?_
            refine va_get (D := D) (ci := 7) (v := .ref (a 44)) (C := RX7) (T := TX7) (N := 2) hx hb hts hin7 hown hK hP 42 rfl rfl 1 (by decide) (hts (.fieldLink RX7 15 "MissedPoints$Shelves" "worths" "[I") (by decide +kernel)) (fun _ h9 => h9) rfl dX7_fullestOf_41 ?_
            refine lv_iload hx hb dX7_fullestOf_44 (lv_at hl 4 rfl) ?_
            refine wk_aldA hx hb hK hP 44 0 rfl rfl (rg_in g47839 (by decide) (by decide)) dX7_fullestOf_46 (fun r47850 => ?_)
            refine lz_ss (As := [.int r47850]) (rest := []) ⟨hx, hb, hml, hown, hts⟩ (k_J6_bitCount_0f7a4 l D cI cS r47850) hKK (hP.sub (ws' := []) [] rfl) (va_cwS 1 hts gX7_fullestOf_J6_bitCount_0f7a4 rfl rfl rfl (by decide +kernel) ⟨Nat.le_of_ble_eq_true rfl, Nat.le_of_ble_eq_true rfl⟩) rfl hl.1 rfl (Nat.le_of_ble_eq_true rfl) dX7_fullestOf_47 ⟨Nat.le_of_ble_eq_true rfl, Nat.le_of_ble_eq_true rfl⟩ (fun r47851 hr47851 => ?_)
            refine lv_istore_n (lv' := [(3, .int r47851), (2, .int y7_l4), (0, .ref (a 42)), (1, .int x0), (4, .int y7_l4)]) hx hb dX7_fullestOf_50 rfl hl (by decide) rfl (fun ls hl => ?_)
            refine wk_iinc (lv' := fun r => [(4, .int r), (3, .int r47851), (2, .int y7_l4), (0, .ref (a 42)), (1, .int x0)]) (e1 := 1) (f := 4) hx hb dX7_fullestOf_51 hl (k := 4) rfl (by decide) g47839 (by decide) (fun _ => rfl) (fun r47852 ls hr47852 er47852 hl => ?_)
            refine lv_goto (tgt := 7) hx hb dX7_fullestOf_54 (by decide) ?_
            exact ih7 y7_l4 r47851 r47852 ls (show Rg (-1) 3 y7_l4 from rg_w g47839 (by decide) (by decide)) (show Rg 0 4 r47852 from rg_w hr47852 (by decide) (by decide)) (lv_sub (l' := [(0, .ref (a 42)), (1, .int x0), (2, .int y7_l4), (3, .int r47851), (4, .int r47852)]) hl [3, 4, 2, 1, 0] rfl) (me_up hm7 er47852 (by decide))
  refine lv_iconst (v := (-1)) hx hb dX7_fullestOf_0 (by decide) ?_
  refine lv_istore_n (lv' := [(2, .int (-1)), (0, .ref (a 42)), (1, .int x0)]) hx hb dX7_fullestOf_1 rfl hl (by decide) rfl (fun ls hl => ?_)
  refine lv_iconst (v := (-1)) hx hb dX7_fullestOf_2 (by decide) ?_
  refine lv_istore_n (lv' := [(3, .int (-1)), (2, .int (-1)), (0, .ref (a 42)), (1, .int x0)]) hx hb dX7_fullestOf_3 rfl hl (by decide) rfl (fun ls hl => ?_)
  refine lv_iconst (v := 0) hx hb dX7_fullestOf_4 (by decide) ?_
  refine lv_istore (lv' := [(4, .int 0), (3, .int (-1)), (2, .int (-1)), (0, .ref (a 42)), (1, .int x0)]) hx hb dX7_fullestOf_5 hl (by decide) rfl (fun ls hl => ?_)
  exact lp7 5 (((-1) : Int32)) (((-1) : Int32)) (0 : Int32) ls (by decide : Rg (-1) 3 ((-1) : Int32)) (by decide : Rg 0 4 (0 : Int32)) (lv_sub (l' := [(0, .ref (a 42)), (1, .int x0), (2, .int (-1)), (3, .int (-1)), (4, .int 0)]) hl [3, 4, 2, 1, 0] rfl) (me_i (by decide : Rg 0 4 (0 : Int32)) (by decide))
set_option maxRecDepth 20000 in
theorem ggX11_taken_X7_holdsRow : GoodIn wsX11_taken wsX7_holdsRow := goodIn_r _ [26, 17, 7, 4, 8, 48, 49] rfl (by decide +kernel)
set_option maxRecDepth 20000 in
theorem gX11_taken_X7_holdsRow : GoodIn wsX11_taken (wsV RX11 316 RX7 yX7_holdsRow wsX7_holdsRow) := goodIn_app (goodIn_of _ (by decide +kernel)) ggX11_taken_X7_holdsRow
set_option maxRecDepth 20000 in
theorem ggX11_taken_X7_holdsThing : GoodIn wsX11_taken wsX7_holdsThing := goodIn_r _ [21, 17, 22, 7, 4, 8, 3, 5, 48, 49] rfl (by decide +kernel)
set_option maxRecDepth 20000 in
theorem gX11_taken_X7_holdsThing : GoodIn wsX11_taken (wsV RX11 313 RX7 yX7_holdsThing wsX7_holdsThing) := goodIn_app (goodIn_of _ (by decide +kernel)) ggX11_taken_X7_holdsThing
set_option maxRecDepth 20000 in
theorem ggX11_taken_X7_worthOf : GoodIn wsX11_taken wsX7_worthOf := goodIn_r _ [30, 31, 7, 4, 8, 48, 49] rfl (by decide +kernel)
set_option maxRecDepth 20000 in
theorem gX11_taken_X7_worthOf : GoodIn wsX11_taken (wsV RX11 319 RX7 yX7_worthOf wsX7_worthOf) := goodIn_app (goodIn_of _ (by decide +kernel)) ggX11_taken_X7_worthOf
theorem dX11_taken_43 : decode cX11_taken 43 = .ok (.iload_n 3, 1) := by decide +kernel
theorem dX11_taken_44 : decode cX11_taken 44 = .ok (.ifCond .eq 15, 3) := by decide +kernel
theorem dX11_taken_47 : decode cX11_taken 47 = .ok (.aload_n 0, 1) := by decide +kernel
theorem dX11_taken_48 : decode cX11_taken 48 = .ok (.getfield 92, 3) := by decide +kernel
theorem dX11_taken_51 : decode cX11_taken 51 = .ok (.iload_n 1, 1) := by decide +kernel
theorem dX11_taken_52 : decode cX11_taken 52 = .ok (.iload_n 2, 1) := by decide +kernel
theorem dX11_taken_53 : decode cX11_taken 53 = .ok (.invokevirtual 313, 3) := by decide +kernel
theorem dX11_taken_56 : decode cX11_taken 56 = .ok (.goto 12, 3) := by decide +kernel
theorem dX11_taken_59 : decode cX11_taken 59 = .ok (.aload_n 0, 1) := by decide +kernel
theorem dX11_taken_60 : decode cX11_taken 60 = .ok (.getfield 92, 3) := by decide +kernel
theorem dX11_taken_63 : decode cX11_taken 63 = .ok (.iload_n 1, 1) := by decide +kernel
theorem dX11_taken_64 : decode cX11_taken 64 = .ok (.iload_n 2, 1) := by decide +kernel
theorem dX11_taken_65 : decode cX11_taken 65 = .ok (.invokevirtual 316, 3) := by decide +kernel
theorem dX11_taken_68 : decode cX11_taken 68 = .ok (.istore 4, 2) := by decide +kernel
theorem dX11_taken_70 : decode cX11_taken 70 = .ok (.iload 4, 2) := by decide +kernel
theorem dX11_taken_72 : decode cX11_taken 72 = .ok (.ifCond .eq 14, 3) := by decide +kernel
theorem dX11_taken_75 : decode cX11_taken 75 = .ok (.aload_n 0, 1) := by decide +kernel
theorem dX11_taken_76 : decode cX11_taken 76 = .ok (.getfield 92, 3) := by decide +kernel
theorem dX11_taken_79 : decode cX11_taken 79 = .ok (.iload_n 1, 1) := by decide +kernel
theorem dX11_taken_80 : decode cX11_taken 80 = .ok (.invokevirtual 319, 3) := by decide +kernel
theorem dX11_taken_83 : decode cX11_taken 83 = .ok (.goto 5, 3) := by decide +kernel
theorem dX11_taken_86 : decode cX11_taken 86 = .ok (.bipush (-13), 2) := by decide +kernel
theorem dX11_taken_88 : decode cX11_taken 88 = .ok (.ireturn, 1) := by decide +kernel
set_option maxHeartbeats 4000000 in
set_option maxRecDepth 100000 in
theorem k_X11_taken (l : Launch) (D : va_G) (cI cS : ClassId) (a : Nat → Nat) (na nc N : Nat) (L u : SU) (hL : TyX L) (hN : N = 0 ∨ N = 24576) (x0 x1 : Int32) : Met l yX11_taken wsX11_taken ({ frames := 2, cells := 0, slots := 0, locals := 80 }) (PT D cI cS (wX cI cS a na nc N L u) [.ref (a 0), .int x0, .int x1]) (vp_Si (fun r => Rg (-2147483648) 2147483647 r ∧ True)) 0 0 (fun _ => False) := by
  refine Met.ofW (cc := cX11_taken) (maxL := 5) (ret := (some .int)) (by decide) rfl ?_
  intro p e s m args below meth c s₁ B hml hv
  obtain ⟨rfl, hP, hKK, hAB⟩ := hv
  obtain ⟨t9, f9, hZ, hT⟩ := id hAB
  have hx := B.exec
  have hb := B.bytes
  have hr := B.returns
  have hts := atoms_spec (ws := wsX11_taken) B.pre
  have hown : s.vm.findClass RX11 = some m.cls := findClass_of_methodNamed B.named
  have hlocks := B.notSynchronized
  have hK := hKK.1
  have hin11 : ∀ w ∈ wsX110, w ∈ wsX11_taken := by decide +kernel
  have hl := lv_entry ([.ref (a 0), .int x0, .int x1]) (n := 5) (Nat.le_of_ble_eq_true rfl)
  rw [lg_entry_eq]
  generalize (lg_sl ([.ref (a 0), .int x0, .int x1]) ++ List.replicate (5 - (lg_sl ([.ref (a 0), .int x0, .int x1])).length) Slot.unset).toArray = ls at hl ⊢
  have hl : lv_has ls 5 [(0, .ref (a 0)), (1, .int x0), (2, .int x1)] := hl
  have ct29 : ∀ (y29_l3 : Int32) (ls : Array Slot), Rg 0 3 x0 → Rg 0 1 y29_l3 → lv_has ls 5 [(0, .ref (a 0)), (1, .int x0), (2, .int x1), (3, .int y29_l3)] → W p l e (headSpec wsX11_taken ({ frames := 2, cells := 0, slots := 0, locals := 80 })).room s m ([.ref (a 0), .int x0, .int x1]).toArray below meth c s.heap [] 0 0 (MQ below (vp_Si (fun r => Rg (-2147483648) 2147483647 r ∧ True)) ([.ref (a 0), .int x0, .int x1]).toArray s 0 0 (fun _ => False)) (F0 m 29 ls []) := by
    intro y29_l3 ls g29_l1 g29_l3 hl
    refine lv_aload_n hx hb dX11_taken_29 rfl (lv_at hl 0 rfl) ?_
    refine va_get (D := D) (ci := 11) (v := .ref (a 42)) (C := RX11) (T := TX11) (N := 16) hx hb hts hin11 hown hK hP 0 rfl rfl 15 (by decide) (hts (.fieldLink RX11 92 "MissedPoints" "shelves" "LMissedPoints$Shelves;") (by decide +kernel)) (fun _ h9 => h9) rfl dX11_taken_30 ?_
    refine lv_iload_n hx hb dX11_taken_33 rfl (lv_at hl 1 rfl) ?_
    refine wk_sv 42 (As := [.int x0]) (rest := []) ⟨hx, hb, hml, hown, hts⟩ (k_X7_isEmpty l D cI cS a na nc N L u hL hN x0) hKK hP (ci := 7) rfl rfl (cwV 1 hts gX11_taken_X7_isEmpty rfl rfl rfl (by decide +kernel) ⟨Nat.le_of_ble_eq_true rfl, Nat.le_of_ble_eq_true rfl⟩) rfl hl.1 rfl (Nat.le_of_ble_eq_true rfl) dX11_taken_34 ⟨Nat.le_of_ble_eq_true rfl, Nat.le_of_ble_eq_true rfl⟩ (fun r47919 hr47919 => ?_)
    refine lv_if_eq (tgt := 43) hx hb dX11_taken_37 (by decide) (fun c47920 => ?_) (fun c47920 => ?_)
    · have g47921 : Rg 0 0 r47919 := wk_eql hr47919.1 (by decide : Rg 0 0 (0 : Int32)) c47920 (by decide)
      refine lv_iload_n hx hb dX11_taken_43 rfl (lv_at hl 3 rfl) ?_
      refine lv_if_eq (tgt := 59) hx hb dX11_taken_44 (by decide) (fun c47922 => ?_) (fun c47922 => ?_)
      · have g47923 : Rg 0 0 y29_l3 := wk_eql g29_l3 (by decide : Rg 0 0 (0 : Int32)) c47922 (by decide)
        refine lv_aload_n hx hb dX11_taken_59 rfl (lv_at hl 0 rfl) ?_
        refine va_get (D := D) (ci := 11) (v := .ref (a 42)) (C := RX11) (T := TX11) (N := 16) hx hb hts hin11 hown hK hP 0 rfl rfl 15 (by decide) (hts (.fieldLink RX11 92 "MissedPoints" "shelves" "LMissedPoints$Shelves;") (by decide +kernel)) (fun _ h9 => h9) rfl dX11_taken_60 ?_
        refine lv_iload_n hx hb dX11_taken_63 rfl (lv_at hl 1 rfl) ?_
        refine lv_iload_n hx hb dX11_taken_64 rfl (lv_at hl 2 rfl) ?_
        refine wk_sv 42 (As := [.int x0, .int x1]) (rest := []) ⟨hx, hb, hml, hown, hts⟩ (k_X7_holdsRow l D cI cS a na nc N L u hL hN x0 x1) hKK hP (ci := 7) rfl rfl (cwV 2 hts gX11_taken_X7_holdsRow rfl rfl rfl (by decide +kernel) ⟨Nat.le_of_ble_eq_true rfl, Nat.le_of_ble_eq_true rfl⟩) rfl hl.1 rfl (Nat.le_of_ble_eq_true rfl) dX11_taken_65 ⟨Nat.le_of_ble_eq_true rfl, Nat.le_of_ble_eq_true rfl⟩ (fun r47924 hr47924 => ?_)
        refine lv_istore (lv' := [(4, .int r47924), (0, .ref (a 0)), (1, .int x0), (2, .int x1), (3, .int y29_l3)]) hx hb dX11_taken_68 hl (by decide) rfl (fun ls hl => ?_)
        refine lv_iload hx hb dX11_taken_70 (lv_at hl 0 rfl) ?_
        refine lv_if_eq (tgt := 86) hx hb dX11_taken_72 (by decide) (fun c47925 => ?_) (fun c47925 => ?_)
        · have g47926 : Rg 0 0 r47924 := wk_eql hr47924.1 (by decide : Rg 0 0 (0 : Int32)) c47925 (by decide)
          refine lv_bipush (v := (-13)) hx hb dX11_taken_86 (by decide) ?_
          exact W.iret (v := (-13)) hx hb hr (fun t ht hW => ⟨_, rfl, ⟨(by decide : Rg (-2147483648) 2147483647 ((-13) : Int32)), trivial⟩, ht⟩) (fun q hq => absurd hq List.not_mem_nil) dX11_taken_88
        · have g47927 : Rg 1 1 r47924 := rg_ne_lo (k := 0) hr47924.1 (by decide) c47925 (by decide)
          refine lv_aload_n hx hb dX11_taken_75 rfl (lv_at hl 1 rfl) ?_
          refine va_get (D := D) (ci := 11) (v := .ref (a 42)) (C := RX11) (T := TX11) (N := 16) hx hb hts hin11 hown hK hP 0 rfl rfl 15 (by decide) (hts (.fieldLink RX11 92 "MissedPoints" "shelves" "LMissedPoints$Shelves;") (by decide +kernel)) (fun _ h9 => h9) rfl dX11_taken_76 ?_
          refine lv_iload_n hx hb dX11_taken_79 rfl (lv_at hl 2 rfl) ?_
          refine wk_sv 42 (As := [.int x0]) (rest := []) ⟨hx, hb, hml, hown, hts⟩ (k_X7_worthOf l D cI cS a na nc N L u hL hN x0) hKK hP (ci := 7) rfl rfl (cwV 1 hts gX11_taken_X7_worthOf rfl rfl rfl (by decide +kernel) ⟨Nat.le_of_ble_eq_true rfl, Nat.le_of_ble_eq_true rfl⟩) rfl hl.1 rfl (Nat.le_of_ble_eq_true rfl) dX11_taken_80 ⟨Nat.le_of_ble_eq_true rfl, Nat.le_of_ble_eq_true rfl⟩ (fun r47928 hr47928 => ?_)
          refine lv_goto (tgt := 88) hx hb dX11_taken_83 (by decide) ?_
          exact W.iret (v := r47928) hx hb hr (fun t ht hW => ⟨_, rfl, ⟨hr47928.1, trivial⟩, ht⟩) (fun q hq => absurd hq List.not_mem_nil) dX11_taken_88
      · have g47929 : Rg 1 1 y29_l3 := rg_ne_lo (k := 0) g29_l3 (by decide) c47922 (by decide)
        refine lv_aload_n hx hb dX11_taken_47 rfl (lv_at hl 0 rfl) ?_
        refine va_get (D := D) (ci := 11) (v := .ref (a 42)) (C := RX11) (T := TX11) (N := 16) hx hb hts hin11 hown hK hP 0 rfl rfl 15 (by decide) (hts (.fieldLink RX11 92 "MissedPoints" "shelves" "LMissedPoints$Shelves;") (by decide +kernel)) (fun _ h9 => h9) rfl dX11_taken_48 ?_
        refine lv_iload_n hx hb dX11_taken_51 rfl (lv_at hl 1 rfl) ?_
        refine lv_iload_n hx hb dX11_taken_52 rfl (lv_at hl 2 rfl) ?_
        refine wk_svT 42 (As := [.int x0, .int x1]) (rest := []) ⟨hx, hb, hml, hown, hts⟩ (k_X7_holdsThing l D cI cS a na nc N L u hL hN x0 x1) hKK hAB hP (ci := 7) rfl rfl (cwV 2 hts gX11_taken_X7_holdsThing rfl rfl rfl (by decide +kernel) ⟨Nat.le_of_ble_eq_true rfl, Nat.le_of_ble_eq_true rfl⟩) rfl hl.1 rfl (Nat.le_of_ble_eq_true rfl) dX11_taken_53 ⟨Nat.le_of_ble_eq_true rfl, Nat.le_of_ble_eq_true rfl⟩ (fun r47930 hr47930 => ?_)
        refine lv_goto (tgt := 68) hx hb dX11_taken_56 (by decide) ?_
        refine lv_istore (lv' := [(4, .int r47930), (0, .ref (a 0)), (1, .int x0), (2, .int x1), (3, .int y29_l3)]) hx hb dX11_taken_68 hl (by decide) rfl (fun ls hl => ?_)
        refine lv_iload hx hb dX11_taken_70 (lv_at hl 0 rfl) ?_
        refine lv_if_eq (tgt := 86) hx hb dX11_taken_72 (by decide) (fun c47931 => ?_) (fun c47931 => ?_)
        · have g47932 : Rg 0 0 r47930 := wk_eql hr47930.1 (by decide : Rg 0 0 (0 : Int32)) c47931 (by decide)
          refine lv_bipush (v := (-13)) hx hb dX11_taken_86 (by decide) ?_
          exact W.iret (v := (-13)) hx hb hr (fun t ht hW => ⟨_, rfl, ⟨(by decide : Rg (-2147483648) 2147483647 ((-13) : Int32)), trivial⟩, ht⟩) (fun q hq => absurd hq List.not_mem_nil) dX11_taken_88
        · have g47933 : Rg 0 5 x1 := (hr47930.2 c47931)
          have g47934 : Rg 1 1 r47930 := rg_ne_lo (k := 0) hr47930.1 (by decide) c47931 (by decide)
          refine lv_aload_n hx hb dX11_taken_75 rfl (lv_at hl 1 rfl) ?_
          refine va_get (D := D) (ci := 11) (v := .ref (a 42)) (C := RX11) (T := TX11) (N := 16) hx hb hts hin11 hown hK hP 0 rfl rfl 15 (by decide) (hts (.fieldLink RX11 92 "MissedPoints" "shelves" "LMissedPoints$Shelves;") (by decide +kernel)) (fun _ h9 => h9) rfl dX11_taken_76 ?_
          refine lv_iload_n hx hb dX11_taken_79 rfl (lv_at hl 2 rfl) ?_
          refine wk_sv 42 (As := [.int x0]) (rest := []) ⟨hx, hb, hml, hown, hts⟩ (k_X7_worthOf l D cI cS a na nc N L u hL hN x0) hKK hP (ci := 7) rfl rfl (cwV 1 hts gX11_taken_X7_worthOf rfl rfl rfl (by decide +kernel) ⟨Nat.le_of_ble_eq_true rfl, Nat.le_of_ble_eq_true rfl⟩) rfl hl.1 rfl (Nat.le_of_ble_eq_true rfl) dX11_taken_80 ⟨Nat.le_of_ble_eq_true rfl, Nat.le_of_ble_eq_true rfl⟩ (fun r47935 hr47935 => ?_)
          refine lv_goto (tgt := 88) hx hb dX11_taken_83 (by decide) ?_
          exact W.iret (v := r47935) hx hb hr (fun t ht hW => ⟨_, rfl, ⟨hr47935.1, trivial⟩, ht⟩) (fun q hq => absurd hq List.not_mem_nil) dX11_taken_88
    · have g47936 : Rg 1 1 r47919 := rg_ne_lo (k := 0) hr47919.1 (by decide) c47920 (by decide)
      refine lv_bipush (v := (-11)) hx hb dX11_taken_40 (by decide) ?_
      exact W.iret (v := (-11)) hx hb hr (fun t ht hW => ⟨_, rfl, ⟨(by decide : Rg (-2147483648) 2147483647 ((-11) : Int32)), trivial⟩, ht⟩) (fun q hq => absurd hq List.not_mem_nil) dX11_taken_42
  refine lv_iload_n hx hb dX11_taken_0 rfl (lv_at hl 2 rfl) ?_
  refine lz_ss (As := [.int x1]) (rest := []) ⟨hx, hb, hml, hown, hts⟩ (k_X11_isKind l D cI cS x1) hKK (hP.sub (ws' := []) [] rfl) (va_cwS 1 hts gX11_taken_X11_isKind rfl rfl rfl (by decide +kernel) ⟨Nat.le_of_ble_eq_true rfl, Nat.le_of_ble_eq_true rfl⟩) rfl hl.1 rfl (Nat.le_of_ble_eq_true rfl) dX11_taken_1 ⟨Nat.le_of_ble_eq_true rfl, Nat.le_of_ble_eq_true rfl⟩ (fun r47937 hr47937 => ?_)
  refine lv_istore_n (lv' := [(3, .int r47937), (0, .ref (a 0)), (1, .int x0), (2, .int x1)]) hx hb dX11_taken_4 rfl hl (by decide) rfl (fun ls hl => ?_)
  refine lv_iload_n hx hb dX11_taken_5 rfl (lv_at hl 2 rfl) ?_
  refine lz_ss (As := [.int x0]) (rest := []) ⟨hx, hb, hml, hown, hts⟩ (k_X11_isShelf l D cI cS x0) hKK (hP.sub (ws' := []) [] rfl) (va_cwS 1 hts gX11_taken_X11_isShelf rfl rfl rfl (by decide +kernel) ⟨Nat.le_of_ble_eq_true rfl, Nat.le_of_ble_eq_true rfl⟩) rfl hl.1 rfl (Nat.le_of_ble_eq_true rfl) dX11_taken_6 ⟨Nat.le_of_ble_eq_true rfl, Nat.le_of_ble_eq_true rfl⟩ (fun r47938 hr47938 => ?_)
  refine lv_if_eq (tgt := 26) hx hb dX11_taken_9 (by decide) (fun c47939 => ?_) (fun c47939 => ?_)
  · have g47940 : Rg 0 0 r47938 := wk_eql hr47938.1 (by decide : Rg 0 0 (0 : Int32)) c47939 (by decide)
    refine lv_bipush (v := (-2)) hx hb dX11_taken_26 (by decide) ?_
    exact W.iret (v := (-2)) hx hb hr (fun t ht hW => ⟨_, rfl, ⟨(by decide : Rg (-2147483648) 2147483647 ((-2) : Int32)), trivial⟩, ht⟩) (fun q hq => absurd hq List.not_mem_nil) dX11_taken_28
  · have g47941 : Rg 0 3 x0 := (hr47938.2 c47939)
    have g47942 : Rg 1 1 r47938 := rg_ne_lo (k := 0) hr47938.1 (by decide) c47939 (by decide)
    refine lv_iload_n hx hb dX11_taken_12 rfl (lv_at hl 0 rfl) ?_
    refine lv_if_ne (tgt := 29) hx hb dX11_taken_13 (by decide) (fun c47943 => ?_) (fun c47943 => ?_)
    · have g47944 : Rg 0 5 x1 := (hr47937.2 c47943)
      have g47945 : Rg 1 1 r47937 := rg_ne_lo (k := 0) hr47937.1 (by decide) c47943 (by decide)
      exact ct29 r47937 ls g47941 (show Rg 0 1 r47937 from rg_w g47945 (by decide) (by decide)) (lv_sub (l' := [(0, .ref (a 0)), (1, .int x0), (2, .int x1), (3, .int r47937)]) hl [1, 2, 3, 0] rfl)
    · have g47946 : Rg 0 0 r47937 := wk_eql hr47937.1 (by decide : Rg 0 0 (0 : Int32)) c47943 (by decide)
      refine lv_iload_n hx hb dX11_taken_16 rfl (lv_at hl 3 rfl) ?_
      refine lv_bipush (v := 10) hx hb dX11_taken_17 (by decide) ?_
      refine lv_isub hx hb dX11_taken_19 ?_
      refine wk_topP (P := fun r => r = x1 - (10 : Int32)) rfl (fun r47947 qr47947 => ?_)
      refine lz_ss (As := [.int r47947]) (rest := []) ⟨hx, hb, hml, hown, hts⟩ (k_X11_isSort l D cI cS r47947) hKK (hP.sub (ws' := []) [] rfl) (va_cwS 1 hts gX11_taken_X11_isSort rfl rfl rfl (by decide +kernel) ⟨Nat.le_of_ble_eq_true rfl, Nat.le_of_ble_eq_true rfl⟩) rfl hl.1 rfl (Nat.le_of_ble_eq_true rfl) dX11_taken_20 ⟨Nat.le_of_ble_eq_true rfl, Nat.le_of_ble_eq_true rfl⟩ (fun r47948 hr47948 => ?_)
      refine lv_if_ne (tgt := 29) hx hb dX11_taken_23 (by decide) (fun c47949 => ?_) (fun c47949 => ?_)
      · have g47950 : Rg 1 1 r47948 := rg_ne_lo (k := 0) hr47948.1 (by decide) c47949 (by decide)
        exact ct29 r47937 ls g47941 (show Rg 0 1 r47937 from rg_w g47946 (by decide) (by decide)) (lv_sub (l' := [(0, .ref (a 0)), (1, .int x0), (2, .int x1), (3, .int r47937)]) hl [1, 2, 3, 0] rfl)
      · have g47951 : Rg 0 0 r47948 := wk_eql hr47948.1 (by decide : Rg 0 0 (0 : Int32)) c47949 (by decide)
        refine lv_bipush (v := (-2)) hx hb dX11_taken_26 (by decide) ?_
        exact W.iret (v := (-2)) hx hb hr (fun t ht hW => ⟨_, rfl, ⟨(by decide : Rg (-2147483648) 2147483647 ((-2) : Int32)), trivial⟩, ht⟩) (fun q hq => absurd hq List.not_mem_nil) dX11_taken_28
set_option maxHeartbeats 4000000 in
set_option maxRecDepth 100000 in
theorem k_X11_held (l : Launch) (D : va_G) (cI cS : ClassId) (a : Nat → Nat) (na nc N : Nat) (L u : SU) (hL : TyX L) (hN : N = 0 ∨ N = 24576) (x0 x1 : Int32) : Met l yX11_held wsX11_held ({ frames := 3, cells := 0, slots := 0, locals := 120 }) (PT D cI cS (wX cI cS a na nc N L u) [.ref (a 0), .int x0, .int x1]) (vp_Si (fun r => Rg (-2147483648) 2147483647 r ∧ True)) 0 0 (fun _ => False) := by
  refine Met.ofW (cc := cX11_held) (maxL := 3) (ret := (some .int)) (by decide) rfl ?_
  intro p e s m args below meth c s₁ B hml hv
  obtain ⟨rfl, hP, hKK, hAB⟩ := hv
  obtain ⟨t9, f9, hZ, hT⟩ := id hAB
  have hx := B.exec
  have hb := B.bytes
  have hr := B.returns
  have hts := atoms_spec (ws := wsX11_held) B.pre
  have hown : s.vm.findClass RX11 = some m.cls := findClass_of_methodNamed B.named
  have hlocks := B.notSynchronized
  have hK := hKK.1
  have hin11 : ∀ w ∈ wsX110, w ∈ wsX11_held := by decide +kernel
  have hl := lv_entry ([.ref (a 0), .int x0, .int x1]) (n := 3) (Nat.le_of_ble_eq_true rfl)
  rw [lg_entry_eq]
  generalize (lg_sl ([.ref (a 0), .int x0, .int x1]) ++ List.replicate (3 - (lg_sl ([.ref (a 0), .int x0, .int x1])).length) Slot.unset).toArray = ls at hl ⊢
  have hl : lv_has ls 3 [(0, .ref (a 0)), (1, .int x0), (2, .int x1)] := hl
  refine lv_iload_n hx hb dX11_held_0 rfl (lv_at hl 1 rfl) ?_
  refine lz_ss (As := [.int x0]) (rest := []) ⟨hx, hb, hml, hown, hts⟩ (k_X11_isKind l D cI cS x0) hKK (hP.sub (ws' := []) [] rfl) (va_cwS 1 hts gX11_held_X11_isKind rfl rfl rfl (by decide +kernel) ⟨Nat.le_of_ble_eq_true rfl, Nat.le_of_ble_eq_true rfl⟩) rfl hl.1 rfl (Nat.le_of_ble_eq_true rfl) dX11_held_1 ⟨Nat.le_of_ble_eq_true rfl, Nat.le_of_ble_eq_true rfl⟩ (fun r47972 hr47972 => ?_)
  refine lv_if_eq (tgt := 16) hx hb dX11_held_4 (by decide) (fun c47973 => ?_) (fun c47973 => ?_)
  · have g47974 : Rg 0 0 r47972 := wk_eql hr47972.1 (by decide : Rg 0 0 (0 : Int32)) c47973 (by decide)
    refine lv_bipush (v := (-2)) hx hb dX11_held_16 (by decide) ?_
    exact W.iret (v := (-2)) hx hb hr (fun t ht hW => ⟨_, rfl, ⟨(by decide : Rg (-2147483648) 2147483647 ((-2) : Int32)), trivial⟩, ht⟩) (fun q hq => absurd hq List.not_mem_nil) dX11_held_18
  · have g47975 : Rg 0 5 x0 := (hr47972.2 c47973)
    have g47976 : Rg 1 1 r47972 := rg_ne_lo (k := 0) hr47972.1 (by decide) c47973 (by decide)
    refine lv_iload_n hx hb dX11_held_7 rfl (lv_at hl 2 rfl) ?_
    refine lv_if_lt (tgt := 16) hx hb dX11_held_8 (by decide) (fun c47977 => ?_) (fun c47977 => ?_)
    · have g47978 : Rg (-2147483648) (-1) x1 := rg_ltl (rg_any x1) (by decide : Rg 0 0 (0 : Int32)) c47977 (by decide)
      refine lv_bipush (v := (-2)) hx hb dX11_held_16 (by decide) ?_
      exact W.iret (v := (-2)) hx hb hr (fun t ht hW => ⟨_, rfl, ⟨(by decide : Rg (-2147483648) 2147483647 ((-2) : Int32)), trivial⟩, ht⟩) (fun q hq => absurd hq List.not_mem_nil) dX11_held_18
    · have g47979 : Rg 0 2147483647 x1 := rg_ler (by decide : Rg 0 0 (0 : Int32)) (rg_any x1) (rg_nlt c47977) (by decide)
      refine lv_iload_n hx hb dX11_held_11 rfl (lv_at hl 2 rfl) ?_
      refine lv_iconst (v := 2) hx hb dX11_held_12 (by decide) ?_
      refine lv_icmp_le (tgt := 19) hx hb dX11_held_13 (by decide) (fun c47980 => ?_) (fun c47980 => ?_)
      · have g47981 : Rg 0 2 x1 := rg_lel g47979 (by decide : Rg 2 2 (2 : Int32)) c47980 (by decide)
        refine lv_iload_n hx hb dX11_held_19 rfl (lv_at hl 2 rfl) ?_
        refine lv_if_ne (tgt := 32) hx hb dX11_held_20 (by decide) (fun c47982 => ?_) (fun c47982 => ?_)
        · have g47983 : Rg 1 2 x1 := rg_ne_lo (k := 0) g47981 (by decide) c47982 (by decide)
          refine lv_iload_n hx hb dX11_held_32 rfl (lv_at hl 2 rfl) ?_
          refine lv_iconst (v := 1) hx hb dX11_held_33 (by decide) ?_
          refine lv_icmp_ne (tgt := 48) hx hb dX11_held_34 (by decide) (fun c47984 => ?_) (fun c47984 => ?_)
          · have g47985 : Rg 2 2 x1 := rg_ne_lo (k := 1) g47983 (by decide) c47984 (by decide)
            refine lv_aload_n hx hb dX11_held_48 rfl (lv_at hl 0 rfl) ?_
            refine va_get (D := D) (ci := 11) (v := .ref (a 42)) (C := RX11) (T := TX11) (N := 16) hx hb hts hin11 hown hK hP 0 rfl rfl 15 (by decide) (hts (.fieldLink RX11 92 "MissedPoints" "shelves" "LMissedPoints$Shelves;") (by decide +kernel)) (fun _ h9 => h9) rfl dX11_held_49 ?_
            refine lv_iload_n hx hb dX11_held_52 rfl (lv_at hl 1 rfl) ?_
            refine wk_svT 42 (As := [.int x0]) (rest := []) ⟨hx, hb, hml, hown, hts⟩ (k_X7_fullestOf l D cI cS a na nc N L u hL hN x0) hKK hAB hP (ci := 7) rfl rfl (cwV 1 hts gX11_held_X7_fullestOf rfl rfl rfl (by decide +kernel) ⟨Nat.le_of_ble_eq_true rfl, Nat.le_of_ble_eq_true rfl⟩) rfl hl.1 rfl (Nat.le_of_ble_eq_true rfl) dX11_held_53 ⟨Nat.le_of_ble_eq_true rfl, Nat.le_of_ble_eq_true rfl⟩ (fun r47986 hr47986 => ?_)
            exact W.iret (v := r47986) hx hb hr (fun t ht hW => ⟨_, rfl, ⟨(rg_any r47986), trivial⟩, ht⟩) (fun q hq => absurd hq List.not_mem_nil) dX11_held_56
          · have g47987 : Rg 1 1 x1 := wk_eql g47983 (by decide : Rg 1 1 (1 : Int32)) c47984 (by decide)
            refine lv_aload_n hx hb dX11_held_37 rfl (lv_at hl 0 rfl) ?_
            refine va_get (D := D) (ci := 11) (v := .ref (a 42)) (C := RX11) (T := TX11) (N := 16) hx hb hts hin11 hown hK hP 0 rfl rfl 15 (by decide) (hts (.fieldLink RX11 92 "MissedPoints" "shelves" "LMissedPoints$Shelves;") (by decide +kernel)) (fun _ h9 => h9) rfl dX11_held_38 ?_
            refine lv_iload_n hx hb dX11_held_41 rfl (lv_at hl 1 rfl) ?_
            refine wk_svT 42 (As := [.int x0]) (rest := []) ⟨hx, hb, hml, hown, hts⟩ (k_X7_pointsOf l D cI cS a na nc N L u hL hN x0) hKK hAB hP (ci := 7) rfl rfl (cwV 1 hts gX11_held_X7_pointsOf rfl rfl rfl (by decide +kernel) ⟨Nat.le_of_ble_eq_true rfl, Nat.le_of_ble_eq_true rfl⟩) rfl hl.1 rfl (Nat.le_of_ble_eq_true rfl) dX11_held_42 ⟨Nat.le_of_ble_eq_true rfl, Nat.le_of_ble_eq_true rfl⟩ (fun r47988 hr47988 => ?_)
            refine lv_goto (tgt := 56) hx hb dX11_held_45 (by decide) ?_
            exact W.iret (v := r47988) hx hb hr (fun t ht hW => ⟨_, rfl, ⟨hr47988.1, trivial⟩, ht⟩) (fun q hq => absurd hq List.not_mem_nil) dX11_held_56
        · have g47989 : Rg 0 0 x1 := wk_eql g47981 (by decide : Rg 0 0 (0 : Int32)) c47982 (by decide)
          refine lv_aload_n hx hb dX11_held_23 rfl (lv_at hl 0 rfl) ?_
          refine va_get (D := D) (ci := 11) (v := .ref (a 42)) (C := RX11) (T := TX11) (N := 16) hx hb hts hin11 hown hK hP 0 rfl rfl 15 (by decide) (hts (.fieldLink RX11 92 "MissedPoints" "shelves" "LMissedPoints$Shelves;") (by decide +kernel)) (fun _ h9 => h9) rfl dX11_held_24 ?_
          refine lv_iload_n hx hb dX11_held_27 rfl (lv_at hl 1 rfl) ?_
          refine wk_svT 42 (As := [.int x0]) (rest := []) ⟨hx, hb, hml, hown, hts⟩ (k_X7_countOf l D cI cS a na nc N L u hL hN x0) hKK hAB hP (ci := 7) rfl rfl (cwV 1 hts gX11_held_X7_countOf rfl rfl rfl (by decide +kernel) ⟨Nat.le_of_ble_eq_true rfl, Nat.le_of_ble_eq_true rfl⟩) rfl hl.1 rfl (Nat.le_of_ble_eq_true rfl) dX11_held_28 ⟨Nat.le_of_ble_eq_true rfl, Nat.le_of_ble_eq_true rfl⟩ (fun r47990 hr47990 => ?_)
          exact W.iret (v := r47990) hx hb hr (fun t ht hW => ⟨_, rfl, ⟨hr47990.1, trivial⟩, ht⟩) (fun q hq => absurd hq List.not_mem_nil) dX11_held_31
      · have g47991 : Rg 3 2147483647 x1 := rg_ltr (by decide : Rg 2 2 (2 : Int32)) g47979 (rg_nle c47980) (by decide)
        refine lv_bipush (v := (-2)) hx hb dX11_held_16 (by decide) ?_
        exact W.iret (v := (-2)) hx hb hr (fun t ht hW => ⟨_, rfl, ⟨(by decide : Rg (-2147483648) 2147483647 ((-2) : Int32)), trivial⟩, ht⟩) (fun q hq => absurd hq List.not_mem_nil) dX11_held_18
theorem dX0_draw_0 : decode cX0_draw 0 = .ok (.aload_n 0, 1) := by decide +kernel
theorem dX0_draw_1 : decode cX0_draw 1 = .ok (.aload_n 0, 1) := by decide +kernel
theorem dX0_draw_11 : decode cX0_draw 11 = .ok (.iadd, 1) := by decide +kernel
theorem dX0_draw_12 : decode cX0_draw 12 = .ok (.putfield 7, 3) := by decide +kernel
theorem dX0_draw_15 : decode cX0_draw 15 = .ok (.aload_n 0, 1) := by decide +kernel
theorem dX0_draw_16 : decode cX0_draw 16 = .ok (.getfield 7, 3) := by decide +kernel
theorem dX0_draw_19 : decode cX0_draw 19 = .ok (.bipush 16, 2) := by decide +kernel
theorem dX0_draw_2 : decode cX0_draw 2 = .ok (.getfield 7, 3) := by decide +kernel
theorem dX0_draw_21 : decode cX0_draw 21 = .ok (.iushr, 1) := by decide +kernel
theorem dX0_draw_22 : decode cX0_draw 22 = .ok (.ireturn, 1) := by decide +kernel
theorem dX0_draw_5 : decode cX0_draw 5 = .ok (.ldc 13, 2) := by decide +kernel
theorem dX0_draw_7 : decode cX0_draw 7 = .ok (.imul, 1) := by decide +kernel
theorem dX0_draw_8 : decode cX0_draw 8 = .ok (.sipush 12345, 3) := by decide +kernel
set_option maxHeartbeats 4000000 in
set_option maxRecDepth 100000 in
theorem k_X0_draw (l : Launch) (D : va_G) (cI cS : ClassId) (sz : Nat) (a : Nat → Nat) (na nc N : Nat) (tw : SU) (l_s l_t l_i l_kp l_iz l_z l_tp l_o0 l_o1 l_o2 l_o3 l_n0 l_n1 l_n2 l_n3 : Int32) (u0 : SU) (hL : TyX (mkL tw l_s l_t l_i l_kp l_iz l_z l_tp l_o0 l_o1 l_o2 l_o3 l_n0 l_n1 l_n2 l_n3)) (hN : N = 0 ∨ N = 24576) : Met l yX0_draw wsX0_draw ({ frames := 0, cells := 0, slots := 0, locals := 0 }) (PQ D cI cS (wX cI cS a na nc N (mkL tw l_s l_t l_i l_kp l_iz l_z l_tp l_o0 l_o1 l_o2 l_o3 l_n0 l_n1 l_n2 l_n3) u0) sz [.ref (a 20)]) (QF (S := Int32 × SU) D (wX cI cS a na nc N (mkL tw l_s l_t l_i l_kp l_iz l_z l_tp l_o0 l_o1 l_o2 l_o3 l_n0 l_n1 l_n2 l_n3) u0) (fun q => wX cI cS a na nc N (mkL tw l_s l_t l_i l_kp l_iz q.1 l_tp l_o0 l_o1 l_o2 l_o3 l_n0 l_n1 l_n2 l_n3) q.2) sz (fun r q => Rg (-2147483648) 2147483647 r ∧ (q.1 = zsN l_z))) 0 0 (va_A (wX cI cS a na nc N (mkL tw l_s l_t l_i l_kp l_iz l_z l_tp l_o0 l_o1 l_o2 l_o3 l_n0 l_n1 l_n2 l_n3) u0) sz) := by
  refine Met.ofW (cc := cX0_draw) (maxL := 1) (ret := (some .int)) (by decide) rfl ?_
  intro p e s m args below meth c s₁ B hml hv
  obtain ⟨rfl, hsz, hP, hKK, hD0⟩ := hv
  have hx := B.exec
  have hb := B.bytes
  have hr := B.returns
  have hts := atoms_spec (ws := wsX0_draw) B.pre
  have hown : s.vm.findClass RX0 = some m.cls := findClass_of_methodNamed B.named
  have hlocks := B.notSynchronized
  have hK := hKK.1
  have hin0 : ∀ w ∈ wsX00, w ∈ wsX0_draw := by decide +kernel
  subst hsz
  have hD := hD0.self (sz := s.heap.size)
  obtain ⟨A, hAe⟩ : ∃ A, A = va_A (wX cI cS a na nc N (mkL tw l_s l_t l_i l_kp l_iz l_z l_tp l_o0 l_o1 l_o2 l_o3 l_n0 l_n1 l_n2 l_n3) u0) s.heap.size := ⟨_, rfl⟩
  rw [← hAe] at hD
  have hA : ∀ q : Nat, s.heap.size ≤ q → A q := fun q h => by rw [hAe]; exact Or.inr h
  have hS : va_S A s.heap s.heap [] := va_S.rf
  have hl := lv_entry ([.ref (a 20)]) (n := 1) (Nat.le_of_ble_eq_true rfl)
  rw [lg_entry_eq]
  generalize (lg_sl ([.ref (a 20)]) ++ List.replicate (1 - (lg_sl ([.ref (a 20)])).length) Slot.unset).toArray = ls at hl ⊢
  have hl : lv_has ls 1 [(0, .ref (a 20))] := hl
  obtain ⟨u, hu9⟩ : ∃ u : SU, u = u0 := ⟨_, rfl⟩
  rw [← hu9] at hP hD
  have p_s : Rg 0 12 l_s := hL.1
  have p_t : Rg 0 12 l_t := hL.2.1
  have p_i : Rg 0 12 l_i := hL.2.2.1
  have p_tp : Rg 0 120 l_tp := hL.2.2.2.1
  have p_n0 : Rg 0 40 l_n0 := hL.2.2.2.2.1
  have p_n1 : Rg 0 40 l_n1 := hL.2.2.2.2.2.1
  have p_n2 : Rg 0 40 l_n2 := hL.2.2.2.2.2.2.1
  have p_n3 : Rg 0 40 l_n3 := hL.2.2.2.2.2.2.2
  refine lv_aload_n hx hb dX0_draw_0 rfl (lv_at hl 0 rfl) ?_
  refine lv_aload_n hx hb dX0_draw_1 rfl (lv_at hl 0 rfl) ?_
  refine va_get (D := D) (ci := 0) (v := .int l_z) (C := RX0) (T := TX0) (N := 1) hx hb hts hin0 hown hK hP 20 rfl rfl 0 (by decide) (hts (.fieldLink RX0 7 "MissedPoints$Draws" "z" "I") (by decide +kernel)) (fun _ h9 => h9) rfl dX0_draw_2 ?_
  refine lv_ldc hx hb hown (hts (.constant RX0 13 (1103515245)) (by decide +kernel)) dX0_draw_5 ?_
  refine lv_imul hx hb dX0_draw_7 ?_
  refine wk_topP (P := fun r => r = l_z * (1103515245 : Int32)) rfl (fun r47995 qr47995 => ?_)
  refine lv_sipush (v := 12345) hx hb dX0_draw_8 (by decide) ?_
  refine lv_iadd hx hb dX0_draw_11 ?_
  refine wk_topP (P := fun r => r = r47995 + (12345 : Int32)) rfl (fun r47996 qr47996 => ?_)
  refine va_put (D := D) (ci := 0) (v := .int r47996) (ty := .int) (C := RX0) (T := TX0) (N := 1) hx hb hts hin0 tyX0 tyX0_ok nmX0 hown hK hP hD hS 20 rfl rfl 0 (by decide) (hts (.fieldLink RX0 7 "MissedPoints$Draws" "z" "I") (by decide +kernel)) (fun _ h9 => h9) rfl (by decide +kernel) rfl rfl (Nat.le_of_ble_eq_true rfl) dX0_draw_12 (fun H locs hP hD hS => ?_)
  have hP : va_P D cls (wX cI cS a na nc N (mkL tw l_s l_t l_i l_kp l_iz r47996 l_tp l_o0 l_o1 l_o2 l_o3 l_n0 l_n1 l_n2 l_n3) u) H := hP
  have hD : va_D A (wX cI cS a na nc N (mkL tw l_s l_t l_i l_kp l_iz r47996 l_tp l_o0 l_o1 l_o2 l_o3 l_n0 l_n1 l_n2 l_n3) u) := hD
  refine lv_aload_n hx hb dX0_draw_15 rfl (lv_at hl 0 rfl) ?_
  refine va_get (D := D) (ci := 0) (v := .int r47996) (C := RX0) (T := TX0) (N := 1) hx hb hts hin0 hown hK hP 20 rfl rfl 0 (by decide) (hts (.fieldLink RX0 7 "MissedPoints$Draws" "z" "I") (by decide +kernel)) (fun _ h9 => h9) rfl dX0_draw_16 ?_
  refine lv_bipush (v := 16) hx hb dX0_draw_19 (by decide) ?_
  refine lv_iushr hx hb dX0_draw_21 rfl ?_
  refine wk_any (fun r47997 => ?_)
  subst hAe
  exact W.iret (v := r47997) hx hb hr (fun t ht hW => ⟨⟨_, (r47996, u), rfl, ⟨(rg_any r47997), (by rw [qr47996, qr47995]; rfl)⟩, by rw [ht]; exact hP, hD⟩, hS.F ht⟩) hS.2.2 dX0_draw_22
theorem dX2_add_0 : decode cX2_add 0 = .ok (.aload_n 0, 1) := by decide +kernel
theorem dX2_add_1 : decode cX2_add 1 = .ok (.aload_n 0, 1) := by decide +kernel
theorem dX2_add_12 : decode cX2_add 12 = .ok (.putfield 15, 3) := by decide +kernel
theorem dX2_add_15 : decode cX2_add 15 = .ok (.aload_n 0, 1) := by decide +kernel
theorem dX2_add_16 : decode cX2_add 16 = .ok (.dup, 1) := by decide +kernel
theorem dX2_add_17 : decode cX2_add 17 = .ok (.getfield 33, 3) := by decide +kernel
theorem dX2_add_2 : decode cX2_add 2 = .ok (.getfield 15, 3) := by decide +kernel
theorem dX2_add_20 : decode cX2_add 20 = .ok (.iconst 1, 1) := by decide +kernel
theorem dX2_add_21 : decode cX2_add 21 = .ok (.iadd, 1) := by decide +kernel
theorem dX2_add_22 : decode cX2_add 22 = .ok (.putfield 33, 3) := by decide +kernel
theorem dX2_add_25 : decode cX2_add 25 = .ok (.return_, 1) := by decide +kernel
theorem dX2_add_5 : decode cX2_add 5 = .ok (.iload_n 1, 1) := by decide +kernel
theorem dX2_add_6 : decode cX2_add 6 = .ok (.iadd, 1) := by decide +kernel
theorem dX2_add_7 : decode cX2_add 7 = .ok (.bipush 12, 2) := by decide +kernel
theorem dX2_add_9 : decode cX2_add 9 = .ok (.invokestatic 27, 3) := by decide +kernel
set_option maxHeartbeats 4000000 in
set_option maxRecDepth 100000 in
theorem k_X2_add (l : Launch) (D : va_G) (cI cS : ClassId) (sz : Nat) (a : Nat → Nat) (na nc N : Nat) (tw : SU) (l_s l_t l_i l_kp l_iz l_z l_tp l_o0 l_o1 l_o2 l_o3 l_n0 l_n1 l_n2 l_n3 : Int32) (u0 : SU) (hL : TyX (mkL tw l_s l_t l_i l_kp l_iz l_z l_tp l_o0 l_o1 l_o2 l_o3 l_n0 l_n1 l_n2 l_n3)) (hN : N = 0 ∨ N = 24576) (x0 : Int32) (px0 : Rg 0 12 x0) : Met l yX2_add wsX2_add ({ frames := 1, cells := 0, slots := 0, locals := 40 }) (PQ D cI cS (wX cI cS a na nc N (mkL tw l_s l_t l_i l_kp l_iz l_z l_tp l_o0 l_o1 l_o2 l_o3 l_n0 l_n1 l_n2 l_n3) u0) sz [.ref (a 1), .int x0]) (QE (S := Int32 × SU) D (wX cI cS a na nc N (mkL tw l_s l_t l_i l_kp l_iz l_z l_tp l_o0 l_o1 l_o2 l_o3 l_n0 l_n1 l_n2 l_n3) u0) (fun q => wX cI cS a na nc N (mkL tw q.1 l_t l_i l_kp l_iz l_z l_tp l_o0 l_o1 l_o2 l_o3 l_n0 l_n1 l_n2 l_n3) q.2) sz (fun q => Rg 0 12 q.1 ∧ ((l_s.toInt + x0.toInt ≤ 12 → q.1.toInt = l_s.toInt + x0.toInt)))) 0 0 (va_A (wX cI cS a na nc N (mkL tw l_s l_t l_i l_kp l_iz l_z l_tp l_o0 l_o1 l_o2 l_o3 l_n0 l_n1 l_n2 l_n3) u0) sz) := by
  refine Met.ofW (cc := cX2_add) (maxL := 2) (ret := none) (by decide) rfl ?_
  intro p e s m args below meth c s₁ B hml hv
  obtain ⟨rfl, hsz, hP, hKK, hD0⟩ := hv
  have hx := B.exec
  have hb := B.bytes
  have hr := B.returns
  have hts := atoms_spec (ws := wsX2_add) B.pre
  have hown : s.vm.findClass RX2 = some m.cls := findClass_of_methodNamed B.named
  have hlocks := B.notSynchronized
  have hK := hKK.1
  have hin2 : ∀ w ∈ wsX20, w ∈ wsX2_add := by decide +kernel
  subst hsz
  have hD := hD0.self (sz := s.heap.size)
  obtain ⟨A, hAe⟩ : ∃ A, A = va_A (wX cI cS a na nc N (mkL tw l_s l_t l_i l_kp l_iz l_z l_tp l_o0 l_o1 l_o2 l_o3 l_n0 l_n1 l_n2 l_n3) u0) s.heap.size := ⟨_, rfl⟩
  rw [← hAe] at hD
  have hA : ∀ q : Nat, s.heap.size ≤ q → A q := fun q h => by rw [hAe]; exact Or.inr h
  have hS : va_S A s.heap s.heap [] := va_S.rf
  have hl := lv_entry ([.ref (a 1), .int x0]) (n := 2) (Nat.le_of_ble_eq_true rfl)
  rw [lg_entry_eq]
  generalize (lg_sl ([.ref (a 1), .int x0]) ++ List.replicate (2 - (lg_sl ([.ref (a 1), .int x0])).length) Slot.unset).toArray = ls at hl ⊢
  have hl : lv_has ls 2 [(0, .ref (a 1)), (1, .int x0)] := hl
  obtain ⟨u, hu9⟩ : ∃ u : SU, u = u0 := ⟨_, rfl⟩
  rw [← hu9] at hP hD
  have p_s : Rg 0 12 l_s := hL.1
  have p_t : Rg 0 12 l_t := hL.2.1
  have p_i : Rg 0 12 l_i := hL.2.2.1
  have p_tp : Rg 0 120 l_tp := hL.2.2.2.1
  have p_n0 : Rg 0 40 l_n0 := hL.2.2.2.2.1
  have p_n1 : Rg 0 40 l_n1 := hL.2.2.2.2.2.1
  have p_n2 : Rg 0 40 l_n2 := hL.2.2.2.2.2.2.1
  have p_n3 : Rg 0 40 l_n3 := hL.2.2.2.2.2.2.2
  refine lv_aload_n hx hb dX2_add_0 rfl (lv_at hl 0 rfl) ?_
  refine lv_aload_n hx hb dX2_add_1 rfl (lv_at hl 0 rfl) ?_
  refine va_get (D := D) (ci := 2) (v := .int l_s) (C := RX2) (T := TX2) (N := 3) hx hb hts hin2 hown hK hP 1 rfl rfl 1 (by decide) (hts (.fieldLink RX2 15 "MissedPoints$Net" "size" "I") (by decide +kernel)) (fun _ h9 => h9) rfl dX2_add_2 ?_
  refine lv_iload_n hx hb dX2_add_5 rfl (lv_at hl 1 rfl) ?_
  refine wk_iadd (e1 := 0) (f := 24) hx hb dX2_add_6 p_s px0 (by decide) (fun r48002 hr48002 er48002 qr48002 => ?_)
  refine lv_bipush (v := 12) hx hb dX2_add_7 (by decide) ?_
  refine va_mmin hx hb (by rw [hml]; exact hl.1.symm) hown (hts (.methodLink RX2 27 Lib.Math.min.name) (by decide +kernel)) (hts (.static Lib.Math.min.name) (by decide +kernel)) (hts (.initialized "java/lang/Math") (by decide +kernel)) (hts (.code Lib.Math.min.name Lib.Math.min.code 2 (some .int)) (by decide +kernel)) (Nat.le_of_ble_eq_true rfl) (Nat.le_of_ble_eq_true rfl) (Nat.le_of_ble_eq_true rfl) (Nat.le_of_ble_eq_true rfl) dX2_add_9 ?_
  refine wk_topP (P := fun r => Rg 0 12 r ∧ (r.toInt ≤ r48002.toInt ∧ r.toInt ≤ (12 : Int32).toInt) ∧ (r.toInt = r48002.toInt ∨ r.toInt = (12 : Int32).toInt)) ⟨wk_min hr48002 (by decide : Rg 12 12 (12 : Int32)) (by decide), ⟨⟨wk_minE.1, wk_minE.2.1⟩, wk_minE.2.2⟩⟩ (fun r48003 hr48003 => ?_)
  refine va_put (D := D) (ci := 2) (v := .int r48003) (ty := .int) (C := RX2) (T := TX2) (N := 3) hx hb hts hin2 tyX2 tyX2_ok nmX2 hown hK hP hD hS 1 rfl rfl 1 (by decide) (hts (.fieldLink RX2 15 "MissedPoints$Net" "size" "I") (by decide +kernel)) (fun _ h9 => h9) rfl (by decide +kernel) rfl rfl (Nat.le_of_ble_eq_true rfl) dX2_add_12 (fun H locs hP hD hS => ?_)
  have hP : va_P D cls (wX cI cS a na nc N (mkL tw r48003 l_t l_i l_kp l_iz l_z l_tp l_o0 l_o1 l_o2 l_o3 l_n0 l_n1 l_n2 l_n3) u) H := hP
  have hD : va_D A (wX cI cS a na nc N (mkL tw r48003 l_t l_i l_kp l_iz l_z l_tp l_o0 l_o1 l_o2 l_o3 l_n0 l_n1 l_n2 l_n3) u) := hD
  refine lv_aload_n hx hb dX2_add_15 rfl (lv_at hl 0 rfl) ?_
  refine lv_dup hx hb dX2_add_16 rfl ?_
  refine va_get (D := D) (ci := 2) (v := .int (u 1 2)) (C := RX2) (T := TX2) (N := 3) hx hb hts hin2 hown hK hP 1 rfl rfl 2 (by decide) (hts (.fieldLink RX2 33 "MissedPoints$Net" "changes" "I") (by decide +kernel)) (fun _ h9 => h9) rfl dX2_add_17 ?_
  refine wk_any (fun r48004 => ?_)
  refine lv_iconst (v := 1) hx hb dX2_add_20 (by decide) ?_
  refine lv_iadd hx hb dX2_add_21 ?_
  refine wk_topP (P := fun r => r = r48004 + (1 : Int32)) rfl (fun r48005 qr48005 => ?_)
  refine va_put (D := D) (ci := 2) (v := .int r48005) (ty := .int) (C := RX2) (T := TX2) (N := 3) hx hb hts hin2 tyX2 tyX2_ok nmX2 hown hK hP hD hS 1 rfl rfl 2 (by decide) (hts (.fieldLink RX2 33 "MissedPoints$Net" "changes" "I") (by decide +kernel)) (fun _ h9 => h9) rfl (by decide +kernel) rfl rfl (Nat.le_of_ble_eq_true rfl) dX2_add_22 (fun H locs hP hD hS => ?_)
  rw [sxf_1_2] at hP hD
  generalize sU u 1 _ = u at hP hD
  subst hAe
  exact W.vret hx hb hr (fun t ht hW => ⟨⟨(r48003, u), rfl, ⟨hr48003.1, (show (l_s.toInt + x0.toInt ≤ 12 → r48003.toInt = l_s.toInt + x0.toInt) from by have y90 : Rg 0 12 x0 := px0; have y91 : Rg 0 12 r48003 := hr48003.1; have y92 : Rg 0 12 l_t := p_t; have y93 : Rg 0 12 l_i := p_i; have y94 : Rg 0 120 l_tp := p_tp; have y95 : Rg 0 40 l_n0 := p_n0; have y96 : Rg 0 40 l_n1 := p_n1; have y97 : Rg 0 40 l_n2 := p_n2; have y98 : Rg 0 40 l_n3 := p_n3; have y9c9 : (0 : Int32).toInt = 0 := (by decide); have y9c10 : (1 : Int32).toInt = 1 := (by decide); have y9c11 : (12 : Int32).toInt = 12 := (by decide); omega)⟩, by rw [ht]; exact hP, hD⟩, hS.F ht⟩) hS.2.2 dX2_add_25
theorem dX2_empty_0 : decode cX2_empty 0 = .ok (.iconst 0, 1) := by decide +kernel
theorem dX2_empty_1 : decode cX2_empty 1 = .ok (.istore_n 1, 1) := by decide +kernel
theorem dX2_empty_12 : decode cX2_empty 12 = .ok (.iload_n 1, 1) := by decide +kernel
theorem dX2_empty_13 : decode cX2_empty 13 = .ok (.iconst 0, 1) := by decide +kernel
theorem dX2_empty_14 : decode cX2_empty 14 = .ok (.iastore, 1) := by decide +kernel
theorem dX2_empty_15 : decode cX2_empty 15 = .ok (.iinc 1 1, 3) := by decide +kernel
theorem dX2_empty_18 : decode cX2_empty 18 = .ok (.goto (-16), 3) := by decide +kernel
theorem dX2_empty_2 : decode cX2_empty 2 = .ok (.iload_n 1, 1) := by decide +kernel
theorem dX2_empty_21 : decode cX2_empty 21 = .ok (.aload_n 0, 1) := by decide +kernel
theorem dX2_empty_22 : decode cX2_empty 22 = .ok (.iconst 0, 1) := by decide +kernel
theorem dX2_empty_23 : decode cX2_empty 23 = .ok (.putfield 15, 3) := by decide +kernel
theorem dX2_empty_26 : decode cX2_empty 26 = .ok (.aload_n 0, 1) := by decide +kernel
theorem dX2_empty_27 : decode cX2_empty 27 = .ok (.dup, 1) := by decide +kernel
theorem dX2_empty_28 : decode cX2_empty 28 = .ok (.getfield 33, 3) := by decide +kernel
theorem dX2_empty_3 : decode cX2_empty 3 = .ok (.bipush 12, 2) := by decide +kernel
theorem dX2_empty_31 : decode cX2_empty 31 = .ok (.iconst 1, 1) := by decide +kernel
theorem dX2_empty_32 : decode cX2_empty 32 = .ok (.iadd, 1) := by decide +kernel
theorem dX2_empty_33 : decode cX2_empty 33 = .ok (.putfield 33, 3) := by decide +kernel
theorem dX2_empty_36 : decode cX2_empty 36 = .ok (.return_, 1) := by decide +kernel
theorem dX2_empty_5 : decode cX2_empty 5 = .ok (.if_icmp .ge 16, 3) := by decide +kernel
theorem dX2_empty_8 : decode cX2_empty 8 = .ok (.aload_n 0, 1) := by decide +kernel
theorem dX2_empty_9 : decode cX2_empty 9 = .ok (.getfield 9, 3) := by decide +kernel
set_option maxHeartbeats 4000000 in
set_option maxRecDepth 100000 in
theorem k_X2_empty (l : Launch) (D : va_G) (cI cS : ClassId) (sz : Nat) (a : Nat → Nat) (na nc N : Nat) (tw : SU) (l_s l_t l_i l_kp l_iz l_z l_tp l_o0 l_o1 l_o2 l_o3 l_n0 l_n1 l_n2 l_n3 : Int32) (u0 : SU) (hL : TyX (mkL tw l_s l_t l_i l_kp l_iz l_z l_tp l_o0 l_o1 l_o2 l_o3 l_n0 l_n1 l_n2 l_n3)) (hN : N = 0 ∨ N = 24576) : Met l yX2_empty wsX2_empty ({ frames := 0, cells := 0, slots := 0, locals := 0 }) (PQ D cI cS (wX cI cS a na nc N (mkL tw l_s l_t l_i l_kp l_iz l_z l_tp l_o0 l_o1 l_o2 l_o3 l_n0 l_n1 l_n2 l_n3) u0) sz [.ref (a 1)]) (QE (S := Int32 × SU) D (wX cI cS a na nc N (mkL tw l_s l_t l_i l_kp l_iz l_z l_tp l_o0 l_o1 l_o2 l_o3 l_n0 l_n1 l_n2 l_n3) u0) (fun q => wX cI cS a na nc N (mkL tw q.1 l_t l_i l_kp l_iz l_z l_tp l_o0 l_o1 l_o2 l_o3 l_n0 l_n1 l_n2 l_n3) q.2) sz (fun q => Rg 0 0 q.1 ∧ (q.1.toInt = 0))) 0 0 (va_A (wX cI cS a na nc N (mkL tw l_s l_t l_i l_kp l_iz l_z l_tp l_o0 l_o1 l_o2 l_o3 l_n0 l_n1 l_n2 l_n3) u0) sz) := by
  refine Met.ofW (cc := cX2_empty) (maxL := 2) (ret := none) (by decide) rfl ?_
  intro p e s m args below meth c s₁ B hml hv
  obtain ⟨rfl, hsz, hP, hKK, hD0⟩ := hv
  have hx := B.exec
  have hb := B.bytes
  have hr := B.returns
  have hts := atoms_spec (ws := wsX2_empty) B.pre
  have hown : s.vm.findClass RX2 = some m.cls := findClass_of_methodNamed B.named
  have hlocks := B.notSynchronized
  have hK := hKK.1
  have hin2 : ∀ w ∈ wsX20, w ∈ wsX2_empty := by decide +kernel
  subst hsz
  have hD := hD0.self (sz := s.heap.size)
  obtain ⟨A, hAe⟩ : ∃ A, A = va_A (wX cI cS a na nc N (mkL tw l_s l_t l_i l_kp l_iz l_z l_tp l_o0 l_o1 l_o2 l_o3 l_n0 l_n1 l_n2 l_n3) u0) s.heap.size := ⟨_, rfl⟩
  rw [← hAe] at hD
  have hA : ∀ q : Nat, s.heap.size ≤ q → A q := fun q h => by rw [hAe]; exact Or.inr h
  have hS : va_S A s.heap s.heap [] := va_S.rf
  have hl := lv_entry ([.ref (a 1)]) (n := 2) (Nat.le_of_ble_eq_true rfl)
  rw [lg_entry_eq]
  generalize (lg_sl ([.ref (a 1)]) ++ List.replicate (2 - (lg_sl ([.ref (a 1)])).length) Slot.unset).toArray = ls at hl ⊢
  have hl : lv_has ls 2 [(0, .ref (a 1))] := hl
  obtain ⟨u, hu9⟩ : ∃ u : SU, u = u0 := ⟨_, rfl⟩
  rw [← hu9] at hP hD
  have p_s : Rg 0 12 l_s := hL.1
  have p_t : Rg 0 12 l_t := hL.2.1
  have p_i : Rg 0 12 l_i := hL.2.2.1
  have p_tp : Rg 0 120 l_tp := hL.2.2.2.1
  have p_n0 : Rg 0 40 l_n0 := hL.2.2.2.2.1
  have p_n1 : Rg 0 40 l_n1 := hL.2.2.2.2.2.1
  have p_n2 : Rg 0 40 l_n2 := hL.2.2.2.2.2.2.1
  have p_n3 : Rg 0 40 l_n3 := hL.2.2.2.2.2.2.2
  have lp2 : ∀ (n2 : Nat) (y2_l1 : Int32) (u : SU) (H : Heap) (locs : List Loc) (ls : Array Slot), Rg 0 12 y2_l1 → Rg 0 12 l_s → va_P D cls (wX cI cS a na nc N (mkL tw l_s l_t l_i l_kp l_iz l_z l_tp l_o0 l_o1 l_o2 l_o3 l_n0 l_n1 l_n2 l_n3) u) H → va_D A (wX cI cS a na nc N (mkL tw l_s l_t l_i l_kp l_iz l_z l_tp l_o0 l_o1 l_o2 l_o3 l_n0 l_n1 l_n2 l_n3) u) → va_S A s.heap H locs → lv_has ls 2 [(0, .ref (a 1)), (1, .int y2_l1)] → 12 - y2_l1.toInt < (n2 : Int) → W p l e (headSpec wsX2_empty ({ frames := 0, cells := 0, slots := 0, locals := 0 })).room s m ([.ref (a 1)]).toArray below meth c H locs 0 0 (MQ below (QE (S := Int32 × SU) D (wX cI cS a na nc N (mkL tw l_s l_t l_i l_kp l_iz l_z l_tp l_o0 l_o1 l_o2 l_o3 l_n0 l_n1 l_n2 l_n3) u0) (fun q => wX cI cS a na nc N (mkL tw q.1 l_t l_i l_kp l_iz l_z l_tp l_o0 l_o1 l_o2 l_o3 l_n0 l_n1 l_n2 l_n3) q.2) s.heap.size (fun q => Rg 0 0 q.1 ∧ (q.1.toInt = 0))) ([.ref (a 1)]).toArray s 0 0 (va_A (wX cI cS a na nc N (mkL tw l_s l_t l_i l_kp l_iz l_z l_tp l_o0 l_o1 l_o2 l_o3 l_n0 l_n1 l_n2 l_n3) u0) s.heap.size)) (F0 m 2 ls []) := by
    intro n2
    induction n2 with
    | zero =>
      intro y2_l1 u H locs ls g2_l1 g2_ks hP hD hS hl hm2
      exact absurd rfl (me_z g2_l1 hm2)
    | succ n2 ih2 =>
      intro y2_l1 u H locs ls g2_l1 g2_ks hP hD hS hl hm2
      refine lv_iload_n hx hb dX2_empty_2 rfl (lv_at hl 1 rfl) ?_
      refine lv_bipush (v := 12) hx hb dX2_empty_3 (by decide) ?_
      refine lv_icmp_ge (tgt := 21) hx hb dX2_empty_5 (by decide) (fun c48028 => ?_) (fun c48028 => ?_)
      · have g48029 : Rg 12 12 y2_l1 := rg_ler (by decide : Rg 12 12 (12 : Int32)) g2_l1 c48028 (by decide)
        refine lv_aload_n hx hb dX2_empty_21 rfl (lv_at hl 0 rfl) ?_
        refine lv_iconst (v := 0) hx hb dX2_empty_22 (by decide) ?_
        refine va_put (D := D) (ci := 2) (v := .int 0) (ty := .int) (C := RX2) (T := TX2) (N := 3) hx hb hts hin2 tyX2 tyX2_ok nmX2 hown hK hP hD hS 1 rfl rfl 1 (by decide) (hts (.fieldLink RX2 15 "MissedPoints$Net" "size" "I") (by decide +kernel)) (fun _ h9 => h9) rfl (by decide +kernel) rfl rfl (Nat.le_of_ble_eq_true rfl) dX2_empty_23 (fun H locs hP hD hS => ?_)
        have hP : va_P D cls (wX cI cS a na nc N (mkL tw (0 : Int32) l_t l_i l_kp l_iz l_z l_tp l_o0 l_o1 l_o2 l_o3 l_n0 l_n1 l_n2 l_n3) u) H := hP
        have hD : va_D A (wX cI cS a na nc N (mkL tw (0 : Int32) l_t l_i l_kp l_iz l_z l_tp l_o0 l_o1 l_o2 l_o3 l_n0 l_n1 l_n2 l_n3) u) := hD
        refine lv_aload_n hx hb dX2_empty_26 rfl (lv_at hl 0 rfl) ?_
        refine lv_dup hx hb dX2_empty_27 rfl ?_
        refine va_get (D := D) (ci := 2) (v := .int (u 1 2)) (C := RX2) (T := TX2) (N := 3) hx hb hts hin2 hown hK hP 1 rfl rfl 2 (by decide) (hts (.fieldLink RX2 33 "MissedPoints$Net" "changes" "I") (by decide +kernel)) (fun _ h9 => h9) rfl dX2_empty_28 ?_
        refine wk_any (fun r48030 => ?_)
        refine lv_iconst (v := 1) hx hb dX2_empty_31 (by decide) ?_
        refine lv_iadd hx hb dX2_empty_32 ?_
        refine wk_topP (P := fun r => r = r48030 + (1 : Int32)) rfl (fun r48031 qr48031 => ?_)
        refine va_put (D := D) (ci := 2) (v := .int r48031) (ty := .int) (C := RX2) (T := TX2) (N := 3) hx hb hts hin2 tyX2 tyX2_ok nmX2 hown hK hP hD hS 1 rfl rfl 2 (by decide) (hts (.fieldLink RX2 33 "MissedPoints$Net" "changes" "I") (by decide +kernel)) (fun _ h9 => h9) rfl (by decide +kernel) rfl rfl (Nat.le_of_ble_eq_true rfl) dX2_empty_33 (fun H locs hP hD hS => ?_)
        rw [sxf_1_2] at hP hD
        generalize sU u 1 _ = u at hP hD
        subst hAe
        exact W.vret hx hb hr (fun t ht hW => ⟨⟨((0 : Int32), u), rfl, ⟨(by decide : Rg 0 0 (0 : Int32)), (show (0 : Int32).toInt = 0 from by have y90 : (12 : Int32).toInt ≤ y2_l1.toInt := (lz_le _ _).mp c48028; have y91 : Rg 12 12 y2_l1 := g48029; have y92 : Rg 12 12 y2_l1 := g48029; have y93 : Rg 0 12 l_t := p_t; have y94 : Rg 0 12 l_i := p_i; have y95 : Rg 0 120 l_tp := p_tp; have y96 : Rg 0 40 l_n0 := p_n0; have y97 : Rg 0 40 l_n1 := p_n1; have y98 : Rg 0 40 l_n2 := p_n2; have y99 : Rg 0 40 l_n3 := p_n3; have y9c10 : (0 : Int32).toInt = 0 := (by decide); have y9c11 : (1 : Int32).toInt = 1 := (by decide); have y9c12 : (12 : Int32).toInt = 12 := (by decide); omega)⟩, by rw [ht]; exact hP, hD⟩, hS.F ht⟩) hS.2.2 dX2_empty_36
      · have g48032 : Rg 0 11 y2_l1 := rg_ltl g2_l1 (by decide : Rg 12 12 (12 : Int32)) (rg_nle c48028) (by decide)
        refine lv_aload_n hx hb dX2_empty_8 rfl (lv_at hl 0 rfl) ?_
        refine va_get (D := D) (ci := 2) (v := .ref (a 2)) (C := RX2) (T := TX2) (N := 3) hx hb hts hin2 hown hK hP 1 rfl rfl 0 (by decide) (hts (.fieldLink RX2 9 "MissedPoints$Net" "links" "[I") (by decide +kernel)) (fun _ h9 => h9) rfl dX2_empty_9 ?_
        refine lv_iload_n hx hb dX2_empty_12 rfl (lv_at hl 1 rfl) ?_
        refine lv_iconst (v := 0) hx hb dX2_empty_13 (by decide) ?_
        refine ks_ast hx hb hK hP hD hS rfl (k := 2) rfl sx_2 (rg_in g48032 (by decide) (by decide)) dX2_empty_14 (fun u H locs hP hD hS => ?_)
        refine wk_iinc (lv' := fun r => [(1, .int r), (0, .ref (a 1))]) (e1 := 1) (f := 12) hx hb dX2_empty_15 hl (k := 1) rfl (by decide) g48032 (by decide) (fun _ => rfl) (fun r48033 ls hr48033 er48033 hl => ?_)
        refine lv_goto (tgt := 2) hx hb dX2_empty_18 (by decide) ?_
        exact ih2 r48033 u _ _ ls (show Rg 0 12 r48033 from rg_w hr48033 (by decide) (by decide)) g2_ks hP hD hS (lv_sub (l' := [(0, .ref (a 1)), (1, .int r48033)]) hl [1, 0] rfl) (me_up hm2 er48033 (by decide))
  refine lv_iconst (v := 0) hx hb dX2_empty_0 (by decide) ?_
  refine lv_istore_n (lv' := [(1, .int 0), (0, .ref (a 1))]) hx hb dX2_empty_1 rfl hl (by decide) rfl (fun ls hl => ?_)
  exact lp2 13 (0 : Int32) u _ _ ls (by decide : Rg 0 12 (0 : Int32)) p_s hP hD hS (lv_sub (l' := [(0, .ref (a 1)), (1, .int 0)]) hl [1, 0] rfl) (me_i (by decide : Rg 0 12 (0 : Int32)) (by decide))
set_option maxRecDepth 20000 in
theorem ggX2_dealAnew_X0_draw : GoodIn wsX2_dealAnew wsX0_draw := goodIn_r _ [21, 22, 23, 39] rfl (by decide +kernel)
set_option maxRecDepth 20000 in
theorem gX2_dealAnew_X0_draw : GoodIn wsX2_dealAnew (wsV RX2 60 RX0 yX0_draw wsX0_draw) := goodIn_app (goodIn_of _ (by decide +kernel)) ggX2_dealAnew_X0_draw
set_option maxRecDepth 20000 in
theorem ggX2_dealAnew_X2_add : GoodIn wsX2_dealAnew wsX2_add := goodIn_r _ [12, 1, 13, 14, 15, 16, 8, 36, 37, 38] rfl (by decide +kernel)
set_option maxRecDepth 20000 in
theorem gX2_dealAnew_X2_add : GoodIn wsX2_dealAnew (wsV RX2 56 RX2 yX2_add wsX2_add) := goodIn_app (goodIn_of _ (by decide +kernel)) ggX2_dealAnew_X2_add
set_option maxRecDepth 20000 in
theorem ggX2_dealAnew_X2_empty : GoodIn wsX2_dealAnew wsX2_empty := goodIn_r _ [6, 7, 1, 8, 36, 37, 38] rfl (by decide +kernel)
set_option maxRecDepth 20000 in
theorem gX2_dealAnew_X2_empty : GoodIn wsX2_dealAnew (wsV RX2 53 RX2 yX2_empty wsX2_empty) := goodIn_app (goodIn_of _ (by decide +kernel)) ggX2_dealAnew_X2_empty
set_option maxRecDepth 20000 in
theorem ggX2_dealAnew_X2_join : GoodIn wsX2_dealAnew wsX2_join := goodIn_r _ [27, 7, 8, 28, 29, 30, 5, 31, 32, 33, 34, 35, 1, 36, 37, 38] rfl (by decide +kernel)
set_option maxRecDepth 20000 in
theorem gX2_dealAnew_X2_join : GoodIn wsX2_dealAnew (wsV RX2 43 RX2 yX2_join wsX2_join) := goodIn_app (goodIn_of _ (by decide +kernel)) ggX2_dealAnew_X2_join
theorem dX2_dealAnew_0 : decode cX2_dealAnew 0 = .ok (.aload_n 0, 1) := by decide +kernel
theorem dX2_dealAnew_1 : decode cX2_dealAnew 1 = .ok (.invokevirtual 53, 3) := by decide +kernel
theorem dX2_dealAnew_10 : decode cX2_dealAnew 10 = .ok (.istore 4, 2) := by decide +kernel
theorem dX2_dealAnew_12 : decode cX2_dealAnew 12 = .ok (.iload 4, 2) := by decide +kernel
theorem dX2_dealAnew_14 : decode cX2_dealAnew 14 = .ok (.aload_n 0, 1) := by decide +kernel
theorem dX2_dealAnew_15 : decode cX2_dealAnew 15 = .ok (.getfield 15, 3) := by decide +kernel
theorem dX2_dealAnew_18 : decode cX2_dealAnew 18 = .ok (.if_icmp .ge 50, 3) := by decide +kernel
theorem dX2_dealAnew_21 : decode cX2_dealAnew 21 = .ok (.iload 4, 2) := by decide +kernel
theorem dX2_dealAnew_23 : decode cX2_dealAnew 23 = .ok (.iconst 1, 1) := by decide +kernel
theorem dX2_dealAnew_24 : decode cX2_dealAnew 24 = .ok (.iadd, 1) := by decide +kernel
theorem dX2_dealAnew_25 : decode cX2_dealAnew 25 = .ok (.istore 5, 2) := by decide +kernel
theorem dX2_dealAnew_27 : decode cX2_dealAnew 27 = .ok (.iload 5, 2) := by decide +kernel
theorem dX2_dealAnew_29 : decode cX2_dealAnew 29 = .ok (.aload_n 0, 1) := by decide +kernel
theorem dX2_dealAnew_30 : decode cX2_dealAnew 30 = .ok (.getfield 15, 3) := by decide +kernel
theorem dX2_dealAnew_33 : decode cX2_dealAnew 33 = .ok (.if_icmp .ge 29, 3) := by decide +kernel
theorem dX2_dealAnew_36 : decode cX2_dealAnew 36 = .ok (.aload_n 3, 1) := by decide +kernel
theorem dX2_dealAnew_37 : decode cX2_dealAnew 37 = .ok (.invokevirtual 60, 3) := by decide +kernel
theorem dX2_dealAnew_4 : decode cX2_dealAnew 4 = .ok (.aload_n 0, 1) := by decide +kernel
theorem dX2_dealAnew_40 : decode cX2_dealAnew 40 = .ok (.bipush 10, 2) := by decide +kernel
theorem dX2_dealAnew_42 : decode cX2_dealAnew 42 = .ok (.irem, 1) := by decide +kernel
theorem dX2_dealAnew_43 : decode cX2_dealAnew 43 = .ok (.iload_n 2, 1) := by decide +kernel
theorem dX2_dealAnew_44 : decode cX2_dealAnew 44 = .ok (.if_icmp .ge 12, 3) := by decide +kernel
theorem dX2_dealAnew_47 : decode cX2_dealAnew 47 = .ok (.aload_n 0, 1) := by decide +kernel
theorem dX2_dealAnew_48 : decode cX2_dealAnew 48 = .ok (.iload 4, 2) := by decide +kernel
theorem dX2_dealAnew_5 : decode cX2_dealAnew 5 = .ok (.iload_n 1, 1) := by decide +kernel
theorem dX2_dealAnew_50 : decode cX2_dealAnew 50 = .ok (.iload 5, 2) := by decide +kernel
theorem dX2_dealAnew_52 : decode cX2_dealAnew 52 = .ok (.iconst 1, 1) := by decide +kernel
theorem dX2_dealAnew_53 : decode cX2_dealAnew 53 = .ok (.invokevirtual 43, 3) := by decide +kernel
theorem dX2_dealAnew_56 : decode cX2_dealAnew 56 = .ok (.iinc 5 1, 3) := by decide +kernel
theorem dX2_dealAnew_59 : decode cX2_dealAnew 59 = .ok (.goto (-32), 3) := by decide +kernel
theorem dX2_dealAnew_6 : decode cX2_dealAnew 6 = .ok (.invokevirtual 56, 3) := by decide +kernel
theorem dX2_dealAnew_62 : decode cX2_dealAnew 62 = .ok (.iinc 4 1, 3) := by decide +kernel
theorem dX2_dealAnew_65 : decode cX2_dealAnew 65 = .ok (.goto (-53), 3) := by decide +kernel
theorem dX2_dealAnew_68 : decode cX2_dealAnew 68 = .ok (.return_, 1) := by decide +kernel
theorem dX2_dealAnew_9 : decode cX2_dealAnew 9 = .ok (.iconst 0, 1) := by decide +kernel
set_option maxHeartbeats 4000000 in
set_option maxRecDepth 100000 in
theorem k_X2_dealAnew (l : Launch) (D : va_G) (cI cS : ClassId) (sz : Nat) (a : Nat → Nat) (na nc N : Nat) (tw : SU) (l_s l_t l_i l_kp l_iz l_z l_tp l_o0 l_o1 l_o2 l_o3 l_n0 l_n1 l_n2 l_n3 : Int32) (u0 : SU) (hL : TyX (mkL tw l_s l_t l_i l_kp l_iz l_z l_tp l_o0 l_o1 l_o2 l_o3 l_n0 l_n1 l_n2 l_n3)) (hN : N = 0 ∨ N = 24576) (x0 x1 : Int32) (px0 : Rg 0 12 x0) : Met l yX2_dealAnew wsX2_dealAnew ({ frames := 3, cells := 0, slots := 0, locals := 120 }) (PQ D cI cS (wX cI cS a na nc N (mkL tw l_s l_t l_i l_kp l_iz l_z l_tp l_o0 l_o1 l_o2 l_o3 l_n0 l_n1 l_n2 l_n3) u0) sz [.ref (a 1), .int x0, .int x1, .ref (a 20)]) (QE (S := Int32 × Int32 × SU) D (wX cI cS a na nc N (mkL tw l_s l_t l_i l_kp l_iz l_z l_tp l_o0 l_o1 l_o2 l_o3 l_n0 l_n1 l_n2 l_n3) u0) (fun q => wX cI cS a na nc N (mkL tw q.1 l_t l_i l_kp l_iz q.2.1 l_tp l_o0 l_o1 l_o2 l_o3 l_n0 l_n1 l_n2 l_n3) q.2.2) sz (fun q => Rg 0 12 q.1 ∧ (q.1.toInt = x0.toInt) ∧ (q.2.1.toInt = (zout x0.toNatClampNeg l_z x0.toNatClampNeg).toInt))) 0 0 (va_A (wX cI cS a na nc N (mkL tw l_s l_t l_i l_kp l_iz l_z l_tp l_o0 l_o1 l_o2 l_o3 l_n0 l_n1 l_n2 l_n3) u0) sz) := by
  refine Met.ofW (cc := cX2_dealAnew) (maxL := 6) (ret := none) (by decide) rfl ?_
  intro p e s m args below meth c s₁ B hml hv
  obtain ⟨rfl, hsz, hP, hKK, hD0⟩ := hv
  have hx := B.exec
  have hb := B.bytes
  have hr := B.returns
  have hts := atoms_spec (ws := wsX2_dealAnew) B.pre
  have hown : s.vm.findClass RX2 = some m.cls := findClass_of_methodNamed B.named
  have hlocks := B.notSynchronized
  have hK := hKK.1
  have hin2 : ∀ w ∈ wsX20, w ∈ wsX2_dealAnew := by decide +kernel
  subst hsz
  have hD := hD0.self (sz := s.heap.size)
  obtain ⟨A, hAe⟩ : ∃ A, A = va_A (wX cI cS a na nc N (mkL tw l_s l_t l_i l_kp l_iz l_z l_tp l_o0 l_o1 l_o2 l_o3 l_n0 l_n1 l_n2 l_n3) u0) s.heap.size := ⟨_, rfl⟩
  rw [← hAe] at hD
  have hA : ∀ q : Nat, s.heap.size ≤ q → A q := fun q h => by rw [hAe]; exact Or.inr h
  have hS : va_S A s.heap s.heap [] := va_S.rf
  have hl := lv_entry ([.ref (a 1), .int x0, .int x1, .ref (a 20)]) (n := 6) (Nat.le_of_ble_eq_true rfl)
  rw [lg_entry_eq]
  generalize (lg_sl ([.ref (a 1), .int x0, .int x1, .ref (a 20)]) ++ List.replicate (6 - (lg_sl ([.ref (a 1), .int x0, .int x1, .ref (a 20)])).length) Slot.unset).toArray = ls at hl ⊢
  have hl : lv_has ls 6 [(0, .ref (a 1)), (1, .int x0), (2, .int x1), (3, .ref (a 20))] := hl
  obtain ⟨u, hu9⟩ : ∃ u : SU, u = u0 := ⟨_, rfl⟩
  rw [← hu9] at hP hD
  have p_s : Rg 0 12 l_s := hL.1
  have p_t : Rg 0 12 l_t := hL.2.1
  have p_i : Rg 0 12 l_i := hL.2.2.1
  have p_tp : Rg 0 120 l_tp := hL.2.2.2.1
  have p_n0 : Rg 0 40 l_n0 := hL.2.2.2.2.1
  have p_n1 : Rg 0 40 l_n1 := hL.2.2.2.2.2.1
  have p_n2 : Rg 0 40 l_n2 := hL.2.2.2.2.2.2.1
  have p_n3 : Rg 0 40 l_n3 := hL.2.2.2.2.2.2.2
  have lp12 : ∀ (n12 : Nat) (y12_l4 : Int32) (y12_ks : Int32) (y12_kz : Int32) (u : SU) (H : Heap) (locs : List Loc) (ls : Array Slot), Rg 0 12 y12_l4 → Rg 0 12 y12_ks → (y12_ks.toInt = x0.toInt ∧ (y12_kz = zout x0.toNatClampNeg l_z y12_l4.toNatClampNeg ∧ y12_l4.toInt ≤ x0.toInt)) → va_P D cls (wX cI cS a na nc N (mkL tw y12_ks l_t l_i l_kp l_iz y12_kz l_tp l_o0 l_o1 l_o2 l_o3 l_n0 l_n1 l_n2 l_n3) u) H → va_D A (wX cI cS a na nc N (mkL tw y12_ks l_t l_i l_kp l_iz y12_kz l_tp l_o0 l_o1 l_o2 l_o3 l_n0 l_n1 l_n2 l_n3) u) → va_S A s.heap H locs → lv_has ls 6 [(0, .ref (a 1)), (2, .int x1), (3, .ref (a 20)), (4, .int y12_l4)] → 12 - y12_l4.toInt < (n12 : Int) → W p l e (headSpec wsX2_dealAnew ({ frames := 3, cells := 0, slots := 0, locals := 120 })).room s m ([.ref (a 1), .int x0, .int x1, .ref (a 20)]).toArray below meth c H locs 0 0 (MQ below (QE (S := Int32 × Int32 × SU) D (wX cI cS a na nc N (mkL tw l_s l_t l_i l_kp l_iz l_z l_tp l_o0 l_o1 l_o2 l_o3 l_n0 l_n1 l_n2 l_n3) u0) (fun q => wX cI cS a na nc N (mkL tw q.1 l_t l_i l_kp l_iz q.2.1 l_tp l_o0 l_o1 l_o2 l_o3 l_n0 l_n1 l_n2 l_n3) q.2.2) s.heap.size (fun q => Rg 0 12 q.1 ∧ (q.1.toInt = x0.toInt) ∧ (q.2.1.toInt = (zout x0.toNatClampNeg l_z x0.toNatClampNeg).toInt))) ([.ref (a 1), .int x0, .int x1, .ref (a 20)]).toArray s 0 0 (va_A (wX cI cS a na nc N (mkL tw l_s l_t l_i l_kp l_iz l_z l_tp l_o0 l_o1 l_o2 l_o3 l_n0 l_n1 l_n2 l_n3) u0) s.heap.size)) (F0 m 12 ls []) := by
    intro n12
    induction n12 with
    | zero =>
      intro y12_l4 y12_ks y12_kz u H locs ls g12_l4 g12_ks x12_0 hP hD hS hl hm12
      exact absurd rfl (me_z g12_l4 hm12)
    | succ n12 ih12 =>
      intro y12_l4 y12_ks y12_kz u H locs ls g12_l4 g12_ks x12_0 hP hD hS hl hm12
      have lp27 : ∀ (n27 : Nat) (y27_l5 : Int32) (y27_kz : Int32) (u : SU) (H : Heap) (locs : List Loc) (ls : Array Slot), Rg 0 11 y12_l4 → Rg 1 12 y27_l5 → Rg 1 12 y12_ks → (y12_ks.toInt = x0.toInt ∧ (y27_kz = zin (zout x0.toNatClampNeg l_z y12_l4.toNatClampNeg) (y27_l5.toNatClampNeg - y12_l4.toNatClampNeg - 1) ∧ y12_l4.toInt < y27_l5.toInt ∧ y27_l5.toInt ≤ x0.toInt)) → va_P D cls (wX cI cS a na nc N (mkL tw y12_ks l_t l_i l_kp l_iz y27_kz l_tp l_o0 l_o1 l_o2 l_o3 l_n0 l_n1 l_n2 l_n3) u) H → va_D A (wX cI cS a na nc N (mkL tw y12_ks l_t l_i l_kp l_iz y27_kz l_tp l_o0 l_o1 l_o2 l_o3 l_n0 l_n1 l_n2 l_n3) u) → va_S A s.heap H locs → lv_has ls 6 [(0, .ref (a 1)), (2, .int x1), (3, .ref (a 20)), (4, .int y12_l4), (5, .int y27_l5)] → 12 - y27_l5.toInt < (n27 : Int) → W p l e (headSpec wsX2_dealAnew ({ frames := 3, cells := 0, slots := 0, locals := 120 })).room s m ([.ref (a 1), .int x0, .int x1, .ref (a 20)]).toArray below meth c H locs 0 0 (MQ below (QE (S := Int32 × Int32 × SU) D (wX cI cS a na nc N (mkL tw l_s l_t l_i l_kp l_iz l_z l_tp l_o0 l_o1 l_o2 l_o3 l_n0 l_n1 l_n2 l_n3) u0) (fun q => wX cI cS a na nc N (mkL tw q.1 l_t l_i l_kp l_iz q.2.1 l_tp l_o0 l_o1 l_o2 l_o3 l_n0 l_n1 l_n2 l_n3) q.2.2) s.heap.size (fun q => Rg 0 12 q.1 ∧ (q.1.toInt = x0.toInt) ∧ (q.2.1.toInt = (zout x0.toNatClampNeg l_z x0.toNatClampNeg).toInt))) ([.ref (a 1), .int x0, .int x1, .ref (a 20)]).toArray s 0 0 (va_A (wX cI cS a na nc N (mkL tw l_s l_t l_i l_kp l_iz l_z l_tp l_o0 l_o1 l_o2 l_o3 l_n0 l_n1 l_n2 l_n3) u0) s.heap.size)) (F0 m 27 ls []) := by
        intro n27
        induction n27 with
        | zero =>
          intro y27_l5 y27_kz u H locs ls g27_l4 g27_l5 g27_ks x27_0 hP hD hS hl hm27
          exact absurd rfl (me_z g27_l5 hm27)
        | succ n27 ih27 =>
          intro y27_l5 y27_kz u H locs ls g27_l4 g27_l5 g27_ks x27_0 hP hD hS hl hm27
          refine lv_iload hx hb dX2_dealAnew_27 (lv_at hl 4 rfl) ?_
          refine lv_aload_n hx hb dX2_dealAnew_29 rfl (lv_at hl 0 rfl) ?_
          refine va_get (D := D) (ci := 2) (v := .int y12_ks) (C := RX2) (T := TX2) (N := 3) hx hb hts hin2 hown hK hP 1 rfl rfl 1 (by decide) (hts (.fieldLink RX2 15 "MissedPoints$Net" "size" "I") (by decide +kernel)) (fun _ h9 => h9) rfl dX2_dealAnew_30 ?_
          refine lv_icmp_ge (tgt := 62) hx hb dX2_dealAnew_33 (by decide) (fun c48207 => ?_) (fun c48207 => ?_)
          · refine wk_iinc (lv' := fun r => [(4, .int r), (0, .ref (a 1)), (2, .int x1), (3, .ref (a 20)), (5, .int y27_l5)]) (e1 := 1) (f := 12) hx hb dX2_dealAnew_62 hl (k := 3) rfl (by decide) g27_l4 (by decide) (fun _ => rfl) (fun r48208 ls hr48208 er48208 hl => ?_)
            refine lv_goto (tgt := 12) hx hb dX2_dealAnew_65 (by decide) ?_
            exact ih12 r48208 y12_ks y27_kz u _ _ ls (show Rg 0 12 r48208 from rg_w hr48208 (by decide) (by decide)) (show Rg 0 12 y12_ks from rg_w g27_ks (by decide) (by decide)) (by have y90 : y12_ks.toInt ≤ y27_l5.toInt := (lz_le _ _).mp c48207; have y91 : Rg 1 12 r48208 := hr48208; have y92 : Rg 1 12 y27_l5 := g27_l5; have y93 : Rg 1 12 y12_ks := g27_ks; have y94 : Rg 0 12 l_t := p_t; have y95 : Rg 0 12 l_i := p_i; have y96 : Rg 0 120 l_tp := p_tp; have y97 : Rg 0 40 l_n0 := p_n0; have y98 : Rg 0 40 l_n1 := p_n1; have y99 : Rg 0 40 l_n2 := p_n2; have y910 : Rg 0 40 l_n3 := p_n3; have y9c11 : (0 : Int32).toInt = 0 := (by decide); have y9c12 : (1 : Int32).toInt = 1 := (by decide); exact ⟨by omega, zi_2 (b := y27_l5) x27_0.2.1 g12_l4.1 (by omega) (by omega) er48208, by omega⟩) hP hD hS (lv_sub (l' := [(0, .ref (a 1)), (2, .int x1), (3, .ref (a 20)), (4, .int r48208)]) hl [1, 2, 3, 0] rfl) (me_up hm12 er48208 (by decide))
          · have g48209 : Rg 2 12 y12_ks := rg_ltr g27_l5 g27_ks (rg_nle c48207) (by decide)
            have g48210 : Rg 1 11 y27_l5 := rg_ltl g27_l5 g27_ks (rg_nle c48207) (by decide)
            refine lv_aload_n hx hb dX2_dealAnew_36 rfl (lv_at hl 2 rfl) ?_
            refine wk_qi (S := Int32 × SU) (fun q => wX cI cS a na nc N (mkL tw y12_ks l_t l_i l_kp l_iz q.1 l_tp l_o0 l_o1 l_o2 l_o3 l_n0 l_n1 l_n2 l_n3) q.2) (y27_kz, u) (As := []) (rest := []) ⟨hx, hb, hml, hown, hts⟩ (k_X0_draw l D cI cS _ a na nc N tw y12_ks l_t l_i l_kp l_iz y27_kz l_tp l_o0 l_o1 l_o2 l_o3 l_n0 l_n1 l_n2 l_n3 u (show TyX (mkL tw y12_ks l_t l_i l_kp l_iz y27_kz l_tp l_o0 l_o1 l_o2 l_o3 l_n0 l_n1 l_n2 l_n3) from ⟨(show Rg 0 12 y12_ks from rg_w g48209 (by decide) (by decide)), p_t, p_i, p_tp, p_n0, p_n1, p_n2, p_n3⟩) hN) hKK hP hD hS hA 20 (ci := 0) rfl rfl (cwV 0 hts gX2_dealAnew_X0_draw rfl rfl rfl (by decide +kernel) ⟨Nat.le_of_ble_eq_true rfl, Nat.le_of_ble_eq_true rfl⟩) rfl hl.1 rfl (Nat.le_of_ble_eq_true rfl) dX2_dealAnew_37 ⟨Nat.le_of_ble_eq_true rfl, Nat.le_of_ble_eq_true rfl⟩ (fun r48211 q9 H locs hr48211 hP hD hS => ?_)
            obtain ⟨r48212, u⟩ := q9
            have hr48211 : Rg (-2147483648) 2147483647 r48211 ∧ (r48212 = zsN y27_kz) := hr48211
            have hP : va_P D cls (wX cI cS a na nc N (mkL tw y12_ks l_t l_i l_kp l_iz r48212 l_tp l_o0 l_o1 l_o2 l_o3 l_n0 l_n1 l_n2 l_n3) u) H := hP
            have hD : va_D A (wX cI cS a na nc N (mkL tw y12_ks l_t l_i l_kp l_iz r48212 l_tp l_o0 l_o1 l_o2 l_o3 l_n0 l_n1 l_n2 l_n3) u) := hD
            have kr48211_0 := hr48211.2
            refine lv_bipush (v := 10) hx hb dX2_dealAnew_40 (by decide) ?_
            refine lv_irem hx hb dX2_dealAnew_42 (by decide) ?_
            refine wk_any (fun r48213 => ?_)
            refine lv_iload_n hx hb dX2_dealAnew_43 rfl (lv_at hl 1 rfl) ?_
            refine lv_icmp_ge (tgt := 56) hx hb dX2_dealAnew_44 (by decide) (fun c48214 => ?_) (fun c48214 => ?_)
            · refine wk_iinc (lv' := fun r => [(5, .int r), (0, .ref (a 1)), (2, .int x1), (3, .ref (a 20)), (4, .int y12_l4)]) (e1 := 2) (f := 12) hx hb dX2_dealAnew_56 hl (k := 4) rfl (by decide) g48210 (by decide) (fun _ => rfl) (fun r48215 ls hr48215 er48215 hl => ?_)
              refine lv_goto (tgt := 27) hx hb dX2_dealAnew_59 (by decide) ?_
              exact ih27 r48215 r48212 u _ _ ls g27_l4 (show Rg 1 12 r48215 from rg_w hr48215 (by decide) (by decide)) (show Rg 1 12 y12_ks from rg_w g48209 (by decide) (by decide)) (by have y90 : y27_l5.toInt < y12_ks.toInt := (lz_lt _ _).mp (rg_nle c48207); have y91 : x1.toInt ≤ r48213.toInt := (lz_le _ _).mp c48214; have y92 : Rg 2 12 y12_ks := g48209; have y93 : Rg 1 11 y27_l5 := g48210; have y94 : Rg 0 11 y12_l4 := g27_l4; have y95 : Rg 2 12 r48215 := hr48215; have y96 : Rg 2 12 y12_ks := g48209; have y97 : Rg 0 12 l_t := p_t; have y98 : Rg 0 12 l_i := p_i; have y99 : Rg 0 120 l_tp := p_tp; have y910 : Rg 0 40 l_n0 := p_n0; have y911 : Rg 0 40 l_n1 := p_n1; have y912 : Rg 0 40 l_n2 := p_n2; have y913 : Rg 0 40 l_n3 := p_n3; have y9c14 : (0 : Int32).toInt = 0 := (by decide); have y9c15 : (1 : Int32).toInt = 1 := (by decide); exact ⟨by omega, zi_1 x27_0.2.1 g12_l4.1 (by omega) er48215 kr48211_0, by omega, by omega⟩) hP hD hS (lv_sub (l' := [(0, .ref (a 1)), (2, .int x1), (3, .ref (a 20)), (4, .int y12_l4), (5, .int r48215)]) hl [1, 2, 3, 4, 0] rfl) (me_up hm27 er48215 (by decide))
            · refine lv_aload_n hx hb dX2_dealAnew_47 rfl (lv_at hl 0 rfl) ?_
              refine lv_iload hx hb dX2_dealAnew_48 (lv_at hl 3 rfl) ?_
              refine lv_iload hx hb dX2_dealAnew_50 (lv_at hl 4 rfl) ?_
              refine lv_iconst (v := 1) hx hb dX2_dealAnew_52 (by decide) ?_
              refine wk_qv (wX cI cS a na nc N (mkL tw y12_ks l_t l_i l_kp l_iz r48212 l_tp l_o0 l_o1 l_o2 l_o3 l_n0 l_n1 l_n2 l_n3)) u (As := [.int y12_l4, .int y27_l5, .int 1]) (rest := []) ⟨hx, hb, hml, hown, hts⟩ (k_X2_join l D cI cS _ a na nc N (mkL tw y12_ks l_t l_i l_kp l_iz r48212 l_tp l_o0 l_o1 l_o2 l_o3 l_n0 l_n1 l_n2 l_n3) u (show TyX (mkL tw y12_ks l_t l_i l_kp l_iz r48212 l_tp l_o0 l_o1 l_o2 l_o3 l_n0 l_n1 l_n2 l_n3) from ⟨(show Rg 0 12 y12_ks from rg_w g48209 (by decide) (by decide)), p_t, p_i, p_tp, p_n0, p_n1, p_n2, p_n3⟩) hN y12_l4 y27_l5 (1 : Int32) (by decide : Rg 0 1 (1 : Int32))) hKK hP hD hS hA 1 (ci := 2) rfl rfl (cwV 3 hts gX2_dealAnew_X2_join rfl rfl rfl (by decide +kernel) ⟨Nat.le_of_ble_eq_true rfl, Nat.le_of_ble_eq_true rfl⟩) rfl hl.1 rfl (Nat.le_of_ble_eq_true rfl) dX2_dealAnew_53 ⟨Nat.le_of_ble_eq_true rfl, Nat.le_of_ble_eq_true rfl⟩ (fun u H locs hr48216 hP hD hS => ?_)
              refine wk_iinc (lv' := fun r => [(5, .int r), (0, .ref (a 1)), (2, .int x1), (3, .ref (a 20)), (4, .int y12_l4)]) (e1 := 2) (f := 12) hx hb dX2_dealAnew_56 hl (k := 4) rfl (by decide) g48210 (by decide) (fun _ => rfl) (fun r48217 ls hr48217 er48217 hl => ?_)
              refine lv_goto (tgt := 27) hx hb dX2_dealAnew_59 (by decide) ?_
              exact ih27 r48217 r48212 u _ _ ls g27_l4 (show Rg 1 12 r48217 from rg_w hr48217 (by decide) (by decide)) (show Rg 1 12 y12_ks from rg_w g48209 (by decide) (by decide)) (by have y90 : y27_l5.toInt < y12_ks.toInt := (lz_lt _ _).mp (rg_nle c48207); have y91 : r48213.toInt < x1.toInt := (lz_lt _ _).mp (rg_nle c48214); have y92 : Rg 2 12 y12_ks := g48209; have y93 : Rg 1 11 y27_l5 := g48210; have y94 : Rg 0 11 y12_l4 := g27_l4; have y95 : Rg 2 12 r48217 := hr48217; have y96 : Rg 2 12 y12_ks := g48209; have y97 : Rg 0 12 l_t := p_t; have y98 : Rg 0 12 l_i := p_i; have y99 : Rg 0 120 l_tp := p_tp; have y910 : Rg 0 40 l_n0 := p_n0; have y911 : Rg 0 40 l_n1 := p_n1; have y912 : Rg 0 40 l_n2 := p_n2; have y913 : Rg 0 40 l_n3 := p_n3; have y9c14 : (0 : Int32).toInt = 0 := (by decide); have y9c15 : (1 : Int32).toInt = 1 := (by decide); exact ⟨by omega, zi_1 x27_0.2.1 g12_l4.1 (by omega) er48217 kr48211_0, by omega, by omega⟩) hP hD hS (lv_sub (l' := [(0, .ref (a 1)), (2, .int x1), (3, .ref (a 20)), (4, .int y12_l4), (5, .int r48217)]) hl [1, 2, 3, 4, 0] rfl) (me_up hm27 er48217 (by decide))
      refine lv_iload hx hb dX2_dealAnew_12 (lv_at hl 3 rfl) ?_
      refine lv_aload_n hx hb dX2_dealAnew_14 rfl (lv_at hl 0 rfl) ?_
      refine va_get (D := D) (ci := 2) (v := .int y12_ks) (C := RX2) (T := TX2) (N := 3) hx hb hts hin2 hown hK hP 1 rfl rfl 1 (by decide) (hts (.fieldLink RX2 15 "MissedPoints$Net" "size" "I") (by decide +kernel)) (fun _ h9 => h9) rfl dX2_dealAnew_15 ?_
      refine lv_icmp_ge (tgt := 68) hx hb dX2_dealAnew_18 (by decide) (fun c48218 => ?_) (fun c48218 => ?_)
      · subst hAe
        exact W.vret hx hb hr (fun t ht hW => ⟨⟨(y12_ks, y12_kz, u), rfl, ⟨g12_ks, (show y12_ks.toInt = x0.toInt from by have y90 : y12_ks.toInt ≤ y12_l4.toInt := (lz_le _ _).mp c48218; have y91 : Rg 0 12 y12_l4 := g12_l4; have y92 : Rg 0 12 y12_ks := g12_ks; have y93 : Rg 0 12 l_t := p_t; have y94 : Rg 0 12 l_i := p_i; have y95 : Rg 0 120 l_tp := p_tp; have y96 : Rg 0 40 l_n0 := p_n0; have y97 : Rg 0 40 l_n1 := p_n1; have y98 : Rg 0 40 l_n2 := p_n2; have y99 : Rg 0 40 l_n3 := p_n3; have y9c10 : (0 : Int32).toInt = 0 := (by decide); have y9c11 : (1 : Int32).toInt = 1 := (by decide); omega), (zo_1 x12_0.2.1 (by have y90 : y12_ks.toInt ≤ y12_l4.toInt := (lz_le _ _).mp c48218; have y91 : Rg 0 12 y12_l4 := g12_l4; have y92 : Rg 0 12 y12_ks := g12_ks; have y93 : Rg 0 12 l_t := p_t; have y94 : Rg 0 12 l_i := p_i; have y95 : Rg 0 120 l_tp := p_tp; have y96 : Rg 0 40 l_n0 := p_n0; have y97 : Rg 0 40 l_n1 := p_n1; have y98 : Rg 0 40 l_n2 := p_n2; have y99 : Rg 0 40 l_n3 := p_n3; have y9c10 : (0 : Int32).toInt = 0 := (by decide); have y9c11 : (1 : Int32).toInt = 1 := (by decide); omega))⟩, by rw [ht]; exact hP, hD⟩, hS.F ht⟩) hS.2.2 dX2_dealAnew_68
      · have g48219 : Rg 1 12 y12_ks := rg_ltr g12_l4 g12_ks (rg_nle c48218) (by decide)
        have g48220 : Rg 0 11 y12_l4 := rg_ltl g12_l4 g12_ks (rg_nle c48218) (by decide)
        refine lv_iload hx hb dX2_dealAnew_21 (lv_at hl 3 rfl) ?_
        refine lv_iconst (v := 1) hx hb dX2_dealAnew_23 (by decide) ?_
        refine wk_iadd (e1 := 1) (f := 12) hx hb dX2_dealAnew_24 g48220 (by decide : Rg 1 1 (1 : Int32)) (by decide) (fun r48221 hr48221 er48221 qr48221 => ?_)
        refine lv_istore (lv' := [(5, .int r48221), (0, .ref (a 1)), (2, .int x1), (3, .ref (a 20)), (4, .int y12_l4)]) hx hb dX2_dealAnew_25 hl (by decide) rfl (fun ls hl => ?_)
        exact lp27 12 r48221 y12_kz u _ _ ls g48220 hr48221 g48219 (by have y90 : y12_l4.toInt < y12_ks.toInt := (lz_lt _ _).mp (rg_nle c48218); have y91 : Rg 1 12 y12_ks := g48219; have y92 : Rg 0 11 y12_l4 := g48220; have y93 : Rg 0 11 y12_l4 := g48220; have y94 : Rg 1 12 r48221 := hr48221; have y95 : Rg 1 12 y12_ks := g48219; have y96 : Rg 0 12 l_t := p_t; have y97 : Rg 0 12 l_i := p_i; have y98 : Rg 0 120 l_tp := p_tp; have y99 : Rg 0 40 l_n0 := p_n0; have y910 : Rg 0 40 l_n1 := p_n1; have y911 : Rg 0 40 l_n2 := p_n2; have y912 : Rg 0 40 l_n3 := p_n3; have y9c13 : (0 : Int32).toInt = 0 := (by decide); have y9c14 : (1 : Int32).toInt = 1 := (by decide); exact ⟨by omega, zi_0 x12_0.2.1 g12_l4.1 er48221, by omega, by omega⟩) hP hD hS (lv_sub (l' := [(0, .ref (a 1)), (2, .int x1), (3, .ref (a 20)), (4, .int y12_l4), (5, .int r48221)]) hl [1, 2, 3, 4, 0] rfl) (me_i hr48221 (by decide))
  refine lv_aload_n hx hb dX2_dealAnew_0 rfl (lv_at hl 0 rfl) ?_
  refine wk_qv (S := Int32 × SU) (fun q => wX cI cS a na nc N (mkL tw q.1 l_t l_i l_kp l_iz l_z l_tp l_o0 l_o1 l_o2 l_o3 l_n0 l_n1 l_n2 l_n3) q.2) (l_s, u) (As := []) (rest := []) ⟨hx, hb, hml, hown, hts⟩ (k_X2_empty l D cI cS _ a na nc N tw l_s l_t l_i l_kp l_iz l_z l_tp l_o0 l_o1 l_o2 l_o3 l_n0 l_n1 l_n2 l_n3 u (show TyX (mkL tw l_s l_t l_i l_kp l_iz l_z l_tp l_o0 l_o1 l_o2 l_o3 l_n0 l_n1 l_n2 l_n3) from ⟨p_s, p_t, p_i, p_tp, p_n0, p_n1, p_n2, p_n3⟩) hN) hKK hP hD hS hA 1 (ci := 2) rfl rfl (cwV 0 hts gX2_dealAnew_X2_empty rfl rfl rfl (by decide +kernel) ⟨Nat.le_of_ble_eq_true rfl, Nat.le_of_ble_eq_true rfl⟩) rfl hl.1 rfl (Nat.le_of_ble_eq_true rfl) dX2_dealAnew_1 ⟨Nat.le_of_ble_eq_true rfl, Nat.le_of_ble_eq_true rfl⟩ (fun q9 H locs hr48222 hP hD hS => ?_)
  obtain ⟨r48223, u⟩ := q9
  have hr48222 : Rg 0 0 r48223 ∧ (r48223.toInt = 0) := hr48222
  have hP : va_P D cls (wX cI cS a na nc N (mkL tw r48223 l_t l_i l_kp l_iz l_z l_tp l_o0 l_o1 l_o2 l_o3 l_n0 l_n1 l_n2 l_n3) u) H := hP
  have hD : va_D A (wX cI cS a na nc N (mkL tw r48223 l_t l_i l_kp l_iz l_z l_tp l_o0 l_o1 l_o2 l_o3 l_n0 l_n1 l_n2 l_n3) u) := hD
  have kr48222_0 := hr48222.2
  refine lv_aload_n hx hb dX2_dealAnew_4 rfl (lv_at hl 0 rfl) ?_
  refine lv_iload_n hx hb dX2_dealAnew_5 rfl (lv_at hl 1 rfl) ?_
  refine wk_qv (S := Int32 × SU) (fun q => wX cI cS a na nc N (mkL tw q.1 l_t l_i l_kp l_iz l_z l_tp l_o0 l_o1 l_o2 l_o3 l_n0 l_n1 l_n2 l_n3) q.2) (r48223, u) (As := [.int x0]) (rest := []) ⟨hx, hb, hml, hown, hts⟩ (k_X2_add l D cI cS _ a na nc N tw r48223 l_t l_i l_kp l_iz l_z l_tp l_o0 l_o1 l_o2 l_o3 l_n0 l_n1 l_n2 l_n3 u (show TyX (mkL tw r48223 l_t l_i l_kp l_iz l_z l_tp l_o0 l_o1 l_o2 l_o3 l_n0 l_n1 l_n2 l_n3) from ⟨(show Rg 0 12 r48223 from rg_w hr48222.1 (by decide) (by decide)), p_t, p_i, p_tp, p_n0, p_n1, p_n2, p_n3⟩) hN x0 px0) hKK hP hD hS hA 1 (ci := 2) rfl rfl (cwV 1 hts gX2_dealAnew_X2_add rfl rfl rfl (by decide +kernel) ⟨Nat.le_of_ble_eq_true rfl, Nat.le_of_ble_eq_true rfl⟩) rfl hl.1 rfl (Nat.le_of_ble_eq_true rfl) dX2_dealAnew_6 ⟨Nat.le_of_ble_eq_true rfl, Nat.le_of_ble_eq_true rfl⟩ (fun q9 H locs hr48224 hP hD hS => ?_)
  obtain ⟨r48225, u⟩ := q9
  have hr48224 : Rg 0 12 r48225 ∧ ((r48223.toInt + x0.toInt ≤ 12 → r48225.toInt = r48223.toInt + x0.toInt)) := hr48224
  have hP : va_P D cls (wX cI cS a na nc N (mkL tw r48225 l_t l_i l_kp l_iz l_z l_tp l_o0 l_o1 l_o2 l_o3 l_n0 l_n1 l_n2 l_n3) u) H := hP
  have hD : va_D A (wX cI cS a na nc N (mkL tw r48225 l_t l_i l_kp l_iz l_z l_tp l_o0 l_o1 l_o2 l_o3 l_n0 l_n1 l_n2 l_n3) u) := hD
  have kr48224_0 := hr48224.2
  refine lv_iconst (v := 0) hx hb dX2_dealAnew_9 (by decide) ?_
  refine lv_istore (lv' := [(4, .int 0), (0, .ref (a 1)), (1, .int x0), (2, .int x1), (3, .ref (a 20))]) hx hb dX2_dealAnew_10 hl (by decide) rfl (fun ls hl => ?_)
  exact lp12 13 (0 : Int32) r48225 l_z u _ _ ls (by decide : Rg 0 12 (0 : Int32)) hr48224.1 (by have y90 : Rg 0 12 x0 := px0; have y91 : Rg 0 12 r48225 := hr48224.1; have y92 : Rg 0 12 l_t := p_t; have y93 : Rg 0 12 l_i := p_i; have y94 : Rg 0 120 l_tp := p_tp; have y95 : Rg 0 40 l_n0 := p_n0; have y96 : Rg 0 40 l_n1 := p_n1; have y97 : Rg 0 40 l_n2 := p_n2; have y98 : Rg 0 40 l_n3 := p_n3; have y9c9 : (0 : Int32).toInt = 0 := (by decide); have y9c10 : (1 : Int32).toInt = 1 := (by decide); exact ⟨by omega, zo_0, by omega⟩) hP hD hS (lv_sub (l' := [(0, .ref (a 1)), (2, .int x1), (3, .ref (a 20)), (4, .int 0)]) hl [1, 3, 4, 0] rfl) (me_i (by decide : Rg 0 12 (0 : Int32)) (by decide))
theorem dX2_become_0 : decode cX2_become 0 = .ok (.aload_n 1, 1) := by decide +kernel
theorem dX2_become_1 : decode cX2_become 1 = .ok (.getfield 9, 3) := by decide +kernel
theorem dX2_become_10 : decode cX2_become 10 = .ok (.bipush 12, 2) := by decide +kernel
theorem dX2_become_12 : decode cX2_become 12 = .ok (.invokestatic 47, 3) := by decide +kernel
theorem dX2_become_15 : decode cX2_become 15 = .ok (.aload_n 0, 1) := by decide +kernel
theorem dX2_become_16 : decode cX2_become 16 = .ok (.aload_n 1, 1) := by decide +kernel
theorem dX2_become_17 : decode cX2_become 17 = .ok (.getfield 15, 3) := by decide +kernel
theorem dX2_become_20 : decode cX2_become 20 = .ok (.putfield 15, 3) := by decide +kernel
theorem dX2_become_23 : decode cX2_become 23 = .ok (.aload_n 0, 1) := by decide +kernel
theorem dX2_become_24 : decode cX2_become 24 = .ok (.dup, 1) := by decide +kernel
theorem dX2_become_25 : decode cX2_become 25 = .ok (.getfield 33, 3) := by decide +kernel
theorem dX2_become_28 : decode cX2_become 28 = .ok (.iconst 1, 1) := by decide +kernel
theorem dX2_become_29 : decode cX2_become 29 = .ok (.iadd, 1) := by decide +kernel
theorem dX2_become_30 : decode cX2_become 30 = .ok (.putfield 33, 3) := by decide +kernel
theorem dX2_become_33 : decode cX2_become 33 = .ok (.return_, 1) := by decide +kernel
theorem dX2_become_4 : decode cX2_become 4 = .ok (.iconst 0, 1) := by decide +kernel
theorem dX2_become_5 : decode cX2_become 5 = .ok (.aload_n 0, 1) := by decide +kernel
theorem dX2_become_6 : decode cX2_become 6 = .ok (.getfield 9, 3) := by decide +kernel
theorem dX2_become_9 : decode cX2_become 9 = .ok (.iconst 0, 1) := by decide +kernel
set_option maxHeartbeats 4000000 in
set_option maxRecDepth 100000 in
theorem k_X2_become_5 (l : Launch) (D : va_G) (cI cS : ClassId) (sz : Nat) (a : Nat → Nat) (na nc N : Nat) (tw : SU) (l_s l_t l_i l_kp l_iz l_z l_tp l_o0 l_o1 l_o2 l_o3 l_n0 l_n1 l_n2 l_n3 : Int32) (u0 : SU) (hL : TyX (mkL tw l_s l_t l_i l_kp l_iz l_z l_tp l_o0 l_o1 l_o2 l_o3 l_n0 l_n1 l_n2 l_n3)) (hN : N = 0 ∨ N = 24576) : Met l yX2_become wsX2_become ({ frames := 1, cells := 0, slots := 0, locals := 40 }) (PQ D cI cS (wX cI cS a na nc N (mkL tw l_s l_t l_i l_kp l_iz l_z l_tp l_o0 l_o1 l_o2 l_o3 l_n0 l_n1 l_n2 l_n3) u0) sz [.ref (a 5), .ref (a 1)]) (QE (S := Int32 × SU) D (wX cI cS a na nc N (mkL tw l_s l_t l_i l_kp l_iz l_z l_tp l_o0 l_o1 l_o2 l_o3 l_n0 l_n1 l_n2 l_n3) u0) (fun q => wX cI cS a na nc N (mkL tw l_s l_t q.1 l_kp l_iz l_z l_tp l_o0 l_o1 l_o2 l_o3 l_n0 l_n1 l_n2 l_n3) q.2) sz (fun q => Rg 0 12 q.1 ∧ (q.1.toInt = l_s.toInt))) 0 0 (va_A (wX cI cS a na nc N (mkL tw l_s l_t l_i l_kp l_iz l_z l_tp l_o0 l_o1 l_o2 l_o3 l_n0 l_n1 l_n2 l_n3) u0) sz) := by
  refine Met.ofW (cc := cX2_become) (maxL := 2) (ret := none) (by decide) rfl ?_
  intro p e s m args below meth c s₁ B hml hv
  obtain ⟨rfl, hsz, hP, hKK, hD0⟩ := hv
  have hx := B.exec
  have hb := B.bytes
  have hr := B.returns
  have hts := atoms_spec (ws := wsX2_become) B.pre
  have hown : s.vm.findClass RX2 = some m.cls := findClass_of_methodNamed B.named
  have hlocks := B.notSynchronized
  have hK := hKK.1
  have hin2 : ∀ w ∈ wsX20, w ∈ wsX2_become := by decide +kernel
  subst hsz
  have hD := hD0.self (sz := s.heap.size)
  obtain ⟨A, hAe⟩ : ∃ A, A = va_A (wX cI cS a na nc N (mkL tw l_s l_t l_i l_kp l_iz l_z l_tp l_o0 l_o1 l_o2 l_o3 l_n0 l_n1 l_n2 l_n3) u0) s.heap.size := ⟨_, rfl⟩
  rw [← hAe] at hD
  have hA : ∀ q : Nat, s.heap.size ≤ q → A q := fun q h => by rw [hAe]; exact Or.inr h
  have hS : va_S A s.heap s.heap [] := va_S.rf
  have hl := lv_entry ([.ref (a 5), .ref (a 1)]) (n := 2) (Nat.le_of_ble_eq_true rfl)
  rw [lg_entry_eq]
  generalize (lg_sl ([.ref (a 5), .ref (a 1)]) ++ List.replicate (2 - (lg_sl ([.ref (a 5), .ref (a 1)])).length) Slot.unset).toArray = ls at hl ⊢
  have hl : lv_has ls 2 [(0, .ref (a 5)), (1, .ref (a 1))] := hl
  obtain ⟨u, hu9⟩ : ∃ u : SU, u = u0 := ⟨_, rfl⟩
  rw [← hu9] at hP hD
  have p_s : Rg 0 12 l_s := hL.1
  have p_t : Rg 0 12 l_t := hL.2.1
  have p_i : Rg 0 12 l_i := hL.2.2.1
  have p_tp : Rg 0 120 l_tp := hL.2.2.2.1
  have p_n0 : Rg 0 40 l_n0 := hL.2.2.2.2.1
  have p_n1 : Rg 0 40 l_n1 := hL.2.2.2.2.2.1
  have p_n2 : Rg 0 40 l_n2 := hL.2.2.2.2.2.2.1
  have p_n3 : Rg 0 40 l_n3 := hL.2.2.2.2.2.2.2
  refine lv_aload_n hx hb dX2_become_0 rfl (lv_at hl 1 rfl) ?_
  refine va_get (D := D) (ci := 2) (v := .ref (a 2)) (C := RX2) (T := TX2) (N := 3) hx hb hts hin2 hown hK hP 1 rfl rfl 0 (by decide) (hts (.fieldLink RX2 9 "MissedPoints$Net" "links" "[I") (by decide +kernel)) (fun _ h9 => h9) rfl dX2_become_1 ?_
  refine lv_iconst (v := 0) hx hb dX2_become_4 (by decide) ?_
  refine lv_aload_n hx hb dX2_become_5 rfl (lv_at hl 0 rfl) ?_
  refine va_get (D := D) (ci := 2) (v := .ref (a 6)) (C := RX2) (T := TX2) (N := 3) hx hb hts hin2 hown hK hP 5 rfl rfl 0 (by decide) (hts (.fieldLink RX2 9 "MissedPoints$Net" "links" "[I") (by decide +kernel)) (fun _ h9 => h9) rfl dX2_become_6 ?_
  refine lv_iconst (v := 0) hx hb dX2_become_9 (by decide) ?_
  refine lv_bipush (v := 12) hx hb dX2_become_10 (by decide) ?_
  refine va_copyi hx hb (by rw [hml]; exact hl.1.symm) hown (hts (.methodLink RX2 47 arraycopyName) (by decide +kernel)) (hts (.native arraycopyName) (by decide +kernel)) (hts (.static arraycopyName) (by decide +kernel)) (hts (.initialized "java/lang/System") (by decide +kernel)) hK hP hD hS 2 6 0 0 rfl rfl rfl rfl rfl (by decide) (by decide) (by decide) (by decide) (by decide) (fun _ _ => rfl) (Nat.le_of_ble_eq_true rfl) (Nat.le_of_ble_eq_true rfl) dX2_become_12 (fun H locs hP hD hS => ?_)
  rw [sx_6] at hP hD
  generalize sU u 6 _ = u at hP hD
  refine lv_aload_n hx hb dX2_become_15 rfl (lv_at hl 0 rfl) ?_
  refine lv_aload_n hx hb dX2_become_16 rfl (lv_at hl 1 rfl) ?_
  refine va_get (D := D) (ci := 2) (v := .int l_s) (C := RX2) (T := TX2) (N := 3) hx hb hts hin2 hown hK hP 1 rfl rfl 1 (by decide) (hts (.fieldLink RX2 15 "MissedPoints$Net" "size" "I") (by decide +kernel)) (fun _ h9 => h9) rfl dX2_become_17 ?_
  refine va_put (D := D) (ci := 2) (v := .int l_s) (ty := .int) (C := RX2) (T := TX2) (N := 3) hx hb hts hin2 tyX2 tyX2_ok nmX2 hown hK hP hD hS 5 rfl rfl 1 (by decide) (hts (.fieldLink RX2 15 "MissedPoints$Net" "size" "I") (by decide +kernel)) (fun _ h9 => h9) rfl (by decide +kernel) rfl rfl (Nat.le_of_ble_eq_true rfl) dX2_become_20 (fun H locs hP hD hS => ?_)
  have hP : va_P D cls (wX cI cS a na nc N (mkL tw l_s l_t l_s l_kp l_iz l_z l_tp l_o0 l_o1 l_o2 l_o3 l_n0 l_n1 l_n2 l_n3) u) H := hP
  have hD : va_D A (wX cI cS a na nc N (mkL tw l_s l_t l_s l_kp l_iz l_z l_tp l_o0 l_o1 l_o2 l_o3 l_n0 l_n1 l_n2 l_n3) u) := hD
  refine lv_aload_n hx hb dX2_become_23 rfl (lv_at hl 0 rfl) ?_
  refine lv_dup hx hb dX2_become_24 rfl ?_
  refine va_get (D := D) (ci := 2) (v := .int (u 5 2)) (C := RX2) (T := TX2) (N := 3) hx hb hts hin2 hown hK hP 5 rfl rfl 2 (by decide) (hts (.fieldLink RX2 33 "MissedPoints$Net" "changes" "I") (by decide +kernel)) (fun _ h9 => h9) rfl dX2_become_25 ?_
  refine wk_any (fun r48228 => ?_)
  refine lv_iconst (v := 1) hx hb dX2_become_28 (by decide) ?_
  refine lv_iadd hx hb dX2_become_29 ?_
  refine wk_topP (P := fun r => r = r48228 + (1 : Int32)) rfl (fun r48229 qr48229 => ?_)
  refine va_put (D := D) (ci := 2) (v := .int r48229) (ty := .int) (C := RX2) (T := TX2) (N := 3) hx hb hts hin2 tyX2 tyX2_ok nmX2 hown hK hP hD hS 5 rfl rfl 2 (by decide) (hts (.fieldLink RX2 33 "MissedPoints$Net" "changes" "I") (by decide +kernel)) (fun _ h9 => h9) rfl (by decide +kernel) rfl rfl (Nat.le_of_ble_eq_true rfl) dX2_become_30 (fun H locs hP hD hS => ?_)
  rw [sxf_5_2] at hP hD
  generalize sU u 5 _ = u at hP hD
  subst hAe
  exact W.vret hx hb hr (fun t ht hW => ⟨⟨(l_s, u), rfl, ⟨p_s, (show l_s.toInt = l_s.toInt from by have y90 : Rg 0 12 l_s := p_s; have y91 : Rg 0 12 l_t := p_t; have y92 : Rg 0 12 l_s := p_s; have y93 : Rg 0 120 l_tp := p_tp; have y94 : Rg 0 40 l_n0 := p_n0; have y95 : Rg 0 40 l_n1 := p_n1; have y96 : Rg 0 40 l_n2 := p_n2; have y97 : Rg 0 40 l_n3 := p_n3; have y9c8 : (0 : Int32).toInt = 0 := (by decide); have y9c9 : (1 : Int32).toInt = 1 := (by decide); omega)⟩, by rw [ht]; exact hP, hD⟩, hS.F ht⟩) hS.2.2 dX2_become_33
set_option maxHeartbeats 4000000 in
set_option maxRecDepth 100000 in
theorem k_X2_become_1 (l : Launch) (D : va_G) (cI cS : ClassId) (sz : Nat) (a : Nat → Nat) (na nc N : Nat) (tw : SU) (l_s l_t l_i l_kp l_iz l_z l_tp l_o0 l_o1 l_o2 l_o3 l_n0 l_n1 l_n2 l_n3 : Int32) (u0 : SU) (hL : TyX (mkL tw l_s l_t l_i l_kp l_iz l_z l_tp l_o0 l_o1 l_o2 l_o3 l_n0 l_n1 l_n2 l_n3)) (hN : N = 0 ∨ N = 24576) : Met l yX2_become wsX2_become ({ frames := 1, cells := 0, slots := 0, locals := 40 }) (PQ D cI cS (wX cI cS a na nc N (mkL tw l_s l_t l_i l_kp l_iz l_z l_tp l_o0 l_o1 l_o2 l_o3 l_n0 l_n1 l_n2 l_n3) u0) sz [.ref (a 1), .ref (a 5)]) (QE (S := Int32 × SU) D (wX cI cS a na nc N (mkL tw l_s l_t l_i l_kp l_iz l_z l_tp l_o0 l_o1 l_o2 l_o3 l_n0 l_n1 l_n2 l_n3) u0) (fun q => wX cI cS a na nc N (mkL tw q.1 l_t l_i l_kp l_iz l_z l_tp l_o0 l_o1 l_o2 l_o3 l_n0 l_n1 l_n2 l_n3) q.2) sz (fun q => Rg 0 12 q.1 ∧ (q.1.toInt = l_i.toInt))) 0 0 (va_A (wX cI cS a na nc N (mkL tw l_s l_t l_i l_kp l_iz l_z l_tp l_o0 l_o1 l_o2 l_o3 l_n0 l_n1 l_n2 l_n3) u0) sz) := by
  refine Met.ofW (cc := cX2_become) (maxL := 2) (ret := none) (by decide) rfl ?_
  intro p e s m args below meth c s₁ B hml hv
  obtain ⟨rfl, hsz, hP, hKK, hD0⟩ := hv
  have hx := B.exec
  have hb := B.bytes
  have hr := B.returns
  have hts := atoms_spec (ws := wsX2_become) B.pre
  have hown : s.vm.findClass RX2 = some m.cls := findClass_of_methodNamed B.named
  have hlocks := B.notSynchronized
  have hK := hKK.1
  have hin2 : ∀ w ∈ wsX20, w ∈ wsX2_become := by decide +kernel
  subst hsz
  have hD := hD0.self (sz := s.heap.size)
  obtain ⟨A, hAe⟩ : ∃ A, A = va_A (wX cI cS a na nc N (mkL tw l_s l_t l_i l_kp l_iz l_z l_tp l_o0 l_o1 l_o2 l_o3 l_n0 l_n1 l_n2 l_n3) u0) s.heap.size := ⟨_, rfl⟩
  rw [← hAe] at hD
  have hA : ∀ q : Nat, s.heap.size ≤ q → A q := fun q h => by rw [hAe]; exact Or.inr h
  have hS : va_S A s.heap s.heap [] := va_S.rf
  have hl := lv_entry ([.ref (a 1), .ref (a 5)]) (n := 2) (Nat.le_of_ble_eq_true rfl)
  rw [lg_entry_eq]
  generalize (lg_sl ([.ref (a 1), .ref (a 5)]) ++ List.replicate (2 - (lg_sl ([.ref (a 1), .ref (a 5)])).length) Slot.unset).toArray = ls at hl ⊢
  have hl : lv_has ls 2 [(0, .ref (a 1)), (1, .ref (a 5))] := hl
  obtain ⟨u, hu9⟩ : ∃ u : SU, u = u0 := ⟨_, rfl⟩
  rw [← hu9] at hP hD
  have p_s : Rg 0 12 l_s := hL.1
  have p_t : Rg 0 12 l_t := hL.2.1
  have p_i : Rg 0 12 l_i := hL.2.2.1
  have p_tp : Rg 0 120 l_tp := hL.2.2.2.1
  have p_n0 : Rg 0 40 l_n0 := hL.2.2.2.2.1
  have p_n1 : Rg 0 40 l_n1 := hL.2.2.2.2.2.1
  have p_n2 : Rg 0 40 l_n2 := hL.2.2.2.2.2.2.1
  have p_n3 : Rg 0 40 l_n3 := hL.2.2.2.2.2.2.2
  refine lv_aload_n hx hb dX2_become_0 rfl (lv_at hl 1 rfl) ?_
  refine va_get (D := D) (ci := 2) (v := .ref (a 6)) (C := RX2) (T := TX2) (N := 3) hx hb hts hin2 hown hK hP 5 rfl rfl 0 (by decide) (hts (.fieldLink RX2 9 "MissedPoints$Net" "links" "[I") (by decide +kernel)) (fun _ h9 => h9) rfl dX2_become_1 ?_
  refine lv_iconst (v := 0) hx hb dX2_become_4 (by decide) ?_
  refine lv_aload_n hx hb dX2_become_5 rfl (lv_at hl 0 rfl) ?_
  refine va_get (D := D) (ci := 2) (v := .ref (a 2)) (C := RX2) (T := TX2) (N := 3) hx hb hts hin2 hown hK hP 1 rfl rfl 0 (by decide) (hts (.fieldLink RX2 9 "MissedPoints$Net" "links" "[I") (by decide +kernel)) (fun _ h9 => h9) rfl dX2_become_6 ?_
  refine lv_iconst (v := 0) hx hb dX2_become_9 (by decide) ?_
  refine lv_bipush (v := 12) hx hb dX2_become_10 (by decide) ?_
  refine va_copyi hx hb (by rw [hml]; exact hl.1.symm) hown (hts (.methodLink RX2 47 arraycopyName) (by decide +kernel)) (hts (.native arraycopyName) (by decide +kernel)) (hts (.static arraycopyName) (by decide +kernel)) (hts (.initialized "java/lang/System") (by decide +kernel)) hK hP hD hS 6 2 0 0 rfl rfl rfl rfl rfl (by decide) (by decide) (by decide) (by decide) (by decide) (fun _ _ => rfl) (Nat.le_of_ble_eq_true rfl) (Nat.le_of_ble_eq_true rfl) dX2_become_12 (fun H locs hP hD hS => ?_)
  rw [sx_2] at hP hD
  generalize sU u 2 _ = u at hP hD
  refine lv_aload_n hx hb dX2_become_15 rfl (lv_at hl 0 rfl) ?_
  refine lv_aload_n hx hb dX2_become_16 rfl (lv_at hl 1 rfl) ?_
  refine va_get (D := D) (ci := 2) (v := .int l_i) (C := RX2) (T := TX2) (N := 3) hx hb hts hin2 hown hK hP 5 rfl rfl 1 (by decide) (hts (.fieldLink RX2 15 "MissedPoints$Net" "size" "I") (by decide +kernel)) (fun _ h9 => h9) rfl dX2_become_17 ?_
  refine va_put (D := D) (ci := 2) (v := .int l_i) (ty := .int) (C := RX2) (T := TX2) (N := 3) hx hb hts hin2 tyX2 tyX2_ok nmX2 hown hK hP hD hS 1 rfl rfl 1 (by decide) (hts (.fieldLink RX2 15 "MissedPoints$Net" "size" "I") (by decide +kernel)) (fun _ h9 => h9) rfl (by decide +kernel) rfl rfl (Nat.le_of_ble_eq_true rfl) dX2_become_20 (fun H locs hP hD hS => ?_)
  have hP : va_P D cls (wX cI cS a na nc N (mkL tw l_i l_t l_i l_kp l_iz l_z l_tp l_o0 l_o1 l_o2 l_o3 l_n0 l_n1 l_n2 l_n3) u) H := hP
  have hD : va_D A (wX cI cS a na nc N (mkL tw l_i l_t l_i l_kp l_iz l_z l_tp l_o0 l_o1 l_o2 l_o3 l_n0 l_n1 l_n2 l_n3) u) := hD
  refine lv_aload_n hx hb dX2_become_23 rfl (lv_at hl 0 rfl) ?_
  refine lv_dup hx hb dX2_become_24 rfl ?_
  refine va_get (D := D) (ci := 2) (v := .int (u 1 2)) (C := RX2) (T := TX2) (N := 3) hx hb hts hin2 hown hK hP 1 rfl rfl 2 (by decide) (hts (.fieldLink RX2 33 "MissedPoints$Net" "changes" "I") (by decide +kernel)) (fun _ h9 => h9) rfl dX2_become_25 ?_
  refine wk_any (fun r48232 => ?_)
  refine lv_iconst (v := 1) hx hb dX2_become_28 (by decide) ?_
  refine lv_iadd hx hb dX2_become_29 ?_
  refine wk_topP (P := fun r => r = r48232 + (1 : Int32)) rfl (fun r48233 qr48233 => ?_)
  refine va_put (D := D) (ci := 2) (v := .int r48233) (ty := .int) (C := RX2) (T := TX2) (N := 3) hx hb hts hin2 tyX2 tyX2_ok nmX2 hown hK hP hD hS 1 rfl rfl 2 (by decide) (hts (.fieldLink RX2 33 "MissedPoints$Net" "changes" "I") (by decide +kernel)) (fun _ h9 => h9) rfl (by decide +kernel) rfl rfl (Nat.le_of_ble_eq_true rfl) dX2_become_30 (fun H locs hP hD hS => ?_)
  rw [sxf_1_2] at hP hD
  generalize sU u 1 _ = u at hP hD
  subst hAe
  exact W.vret hx hb hr (fun t ht hW => ⟨⟨(l_i, u), rfl, ⟨p_i, (show l_i.toInt = l_i.toInt from by have y90 : Rg 0 12 l_i := p_i; have y91 : Rg 0 12 l_t := p_t; have y92 : Rg 0 12 l_i := p_i; have y93 : Rg 0 120 l_tp := p_tp; have y94 : Rg 0 40 l_n0 := p_n0; have y95 : Rg 0 40 l_n1 := p_n1; have y96 : Rg 0 40 l_n2 := p_n2; have y97 : Rg 0 40 l_n3 := p_n3; have y9c8 : (0 : Int32).toInt = 0 := (by decide); have y9c9 : (1 : Int32).toInt = 1 := (by decide); omega)⟩, by rw [ht]; exact hP, hD⟩, hS.F ht⟩) hS.2.2 dX2_become_33
theorem dX8_append_0 : decode cX8_append 0 = .ok (.aload_n 0, 1) := by decide +kernel
theorem dX8_append_1 : decode cX8_append 1 = .ok (.getfield 15, 3) := by decide +kernel
theorem dX8_append_10 : decode cX8_append 10 = .ok (.getfield 9, 3) := by decide +kernel
theorem dX8_append_13 : decode cX8_append 13 = .ok (.aload_n 0, 1) := by decide +kernel
theorem dX8_append_14 : decode cX8_append 14 = .ok (.getfield 15, 3) := by decide +kernel
theorem dX8_append_17 : decode cX8_append 17 = .ok (.iload_n 1, 1) := by decide +kernel
theorem dX8_append_18 : decode cX8_append 18 = .ok (.iastore, 1) := by decide +kernel
theorem dX8_append_19 : decode cX8_append 19 = .ok (.aload_n 0, 1) := by decide +kernel
theorem dX8_append_20 : decode cX8_append 20 = .ok (.dup, 1) := by decide +kernel
theorem dX8_append_21 : decode cX8_append 21 = .ok (.getfield 15, 3) := by decide +kernel
theorem dX8_append_24 : decode cX8_append 24 = .ok (.iconst 1, 1) := by decide +kernel
theorem dX8_append_25 : decode cX8_append 25 = .ok (.iadd, 1) := by decide +kernel
theorem dX8_append_26 : decode cX8_append 26 = .ok (.putfield 15, 3) := by decide +kernel
theorem dX8_append_29 : decode cX8_append 29 = .ok (.return_, 1) := by decide +kernel
theorem dX8_append_4 : decode cX8_append 4 = .ok (.bipush 120, 2) := by decide +kernel
theorem dX8_append_6 : decode cX8_append 6 = .ok (.if_icmp .ge 23, 3) := by decide +kernel
theorem dX8_append_9 : decode cX8_append 9 = .ok (.aload_n 0, 1) := by decide +kernel
set_option maxHeartbeats 4000000 in
set_option maxRecDepth 100000 in
theorem k_X8_append (l : Launch) (D : va_G) (cI cS : ClassId) (sz : Nat) (a : Nat → Nat) (na nc N : Nat) (tw : SU) (l_s l_t l_i l_kp l_iz l_z l_tp l_o0 l_o1 l_o2 l_o3 l_n0 l_n1 l_n2 l_n3 : Int32) (u0 : SU) (hL : TyX (mkL tw l_s l_t l_i l_kp l_iz l_z l_tp l_o0 l_o1 l_o2 l_o3 l_n0 l_n1 l_n2 l_n3)) (hN : N = 0 ∨ N = 24576) (x0 : Int32) : Met l yX8_append wsX8_append ({ frames := 0, cells := 0, slots := 0, locals := 0 }) (PQ D cI cS (wX cI cS a na nc N (mkL tw l_s l_t l_i l_kp l_iz l_z l_tp l_o0 l_o1 l_o2 l_o3 l_n0 l_n1 l_n2 l_n3) u0) sz [.ref (a 21), .int x0]) (QE (S := Int32 × SU) D (wX cI cS a na nc N (mkL tw l_s l_t l_i l_kp l_iz l_z l_tp l_o0 l_o1 l_o2 l_o3 l_n0 l_n1 l_n2 l_n3) u0) (fun q => wX cI cS a na nc N (mkL tw l_s l_t l_i l_kp l_iz l_z q.1 l_o0 l_o1 l_o2 l_o3 l_n0 l_n1 l_n2 l_n3) q.2) sz (fun q => Rg 1 120 q.1 ∧ ((l_tp.toInt < 120 → q.1.toInt = l_tp.toInt + 1)))) 0 0 (va_A (wX cI cS a na nc N (mkL tw l_s l_t l_i l_kp l_iz l_z l_tp l_o0 l_o1 l_o2 l_o3 l_n0 l_n1 l_n2 l_n3) u0) sz) := by
  refine Met.ofW (cc := cX8_append) (maxL := 2) (ret := none) (by decide) rfl ?_
  intro p e s m args below meth c s₁ B hml hv
  obtain ⟨rfl, hsz, hP, hKK, hD0⟩ := hv
  have hx := B.exec
  have hb := B.bytes
  have hr := B.returns
  have hts := atoms_spec (ws := wsX8_append) B.pre
  have hown : s.vm.findClass RX8 = some m.cls := findClass_of_methodNamed B.named
  have hlocks := B.notSynchronized
  have hK := hKK.1
  have hin8 : ∀ w ∈ wsX80, w ∈ wsX8_append := by decide +kernel
  subst hsz
  have hD := hD0.self (sz := s.heap.size)
  obtain ⟨A, hAe⟩ : ∃ A, A = va_A (wX cI cS a na nc N (mkL tw l_s l_t l_i l_kp l_iz l_z l_tp l_o0 l_o1 l_o2 l_o3 l_n0 l_n1 l_n2 l_n3) u0) s.heap.size := ⟨_, rfl⟩
  rw [← hAe] at hD
  have hA : ∀ q : Nat, s.heap.size ≤ q → A q := fun q h => by rw [hAe]; exact Or.inr h
  have hS : va_S A s.heap s.heap [] := va_S.rf
  have hl := lv_entry ([.ref (a 21), .int x0]) (n := 2) (Nat.le_of_ble_eq_true rfl)
  rw [lg_entry_eq]
  generalize (lg_sl ([.ref (a 21), .int x0]) ++ List.replicate (2 - (lg_sl ([.ref (a 21), .int x0])).length) Slot.unset).toArray = ls at hl ⊢
  have hl : lv_has ls 2 [(0, .ref (a 21)), (1, .int x0)] := hl
  obtain ⟨u, hu9⟩ : ∃ u : SU, u = u0 := ⟨_, rfl⟩
  rw [← hu9] at hP hD
  have p_s : Rg 0 12 l_s := hL.1
  have p_t : Rg 0 12 l_t := hL.2.1
  have p_i : Rg 0 12 l_i := hL.2.2.1
  have p_tp : Rg 0 120 l_tp := hL.2.2.2.1
  have p_n0 : Rg 0 40 l_n0 := hL.2.2.2.2.1
  have p_n1 : Rg 0 40 l_n1 := hL.2.2.2.2.2.1
  have p_n2 : Rg 0 40 l_n2 := hL.2.2.2.2.2.2.1
  have p_n3 : Rg 0 40 l_n3 := hL.2.2.2.2.2.2.2
  refine lv_aload_n hx hb dX8_append_0 rfl (lv_at hl 0 rfl) ?_
  refine va_get (D := D) (ci := 8) (v := .int l_tp) (C := RX8) (T := TX8) (N := 2) hx hb hts hin8 hown hK hP 21 rfl rfl 1 (by decide) (hts (.fieldLink RX8 15 "MissedPoints$Tape" "size" "I") (by decide +kernel)) (fun _ h9 => h9) rfl dX8_append_1 ?_
  refine lv_bipush (v := 120) hx hb dX8_append_4 (by decide) ?_
  refine lv_icmp_ge (tgt := 29) hx hb dX8_append_6 (by decide) (fun c48238 => ?_) (fun c48238 => ?_)
  · have g48239 : Rg 120 120 l_tp := rg_ler (by decide : Rg 120 120 (120 : Int32)) p_tp c48238 (by decide)
    subst hAe
    exact W.vret hx hb hr (fun t ht hW => ⟨⟨(l_tp, u), rfl, ⟨(show Rg 1 120 l_tp from rg_w g48239 (by decide) (by decide)), (show (l_tp.toInt < 120 → l_tp.toInt = l_tp.toInt + 1) from by have y90 : (120 : Int32).toInt ≤ l_tp.toInt := (lz_le _ _).mp c48238; have y91 : Rg 120 120 l_tp := g48239; have y92 : Rg 0 12 l_s := p_s; have y93 : Rg 0 12 l_t := p_t; have y94 : Rg 0 12 l_i := p_i; have y95 : Rg 120 120 l_tp := g48239; have y96 : Rg 0 40 l_n0 := p_n0; have y97 : Rg 0 40 l_n1 := p_n1; have y98 : Rg 0 40 l_n2 := p_n2; have y99 : Rg 0 40 l_n3 := p_n3; have y9c10 : (0 : Int32).toInt = 0 := (by decide); have y9c11 : (1 : Int32).toInt = 1 := (by decide); have y9c12 : (120 : Int32).toInt = 120 := (by decide); omega)⟩, by rw [ht]; exact hP, hD⟩, hS.F ht⟩) hS.2.2 dX8_append_29
  · have g48240 : Rg 0 119 l_tp := rg_ltl p_tp (by decide : Rg 120 120 (120 : Int32)) (rg_nle c48238) (by decide)
    refine lv_aload_n hx hb dX8_append_9 rfl (lv_at hl 0 rfl) ?_
    refine va_get (D := D) (ci := 8) (v := .ref (a 22)) (C := RX8) (T := TX8) (N := 2) hx hb hts hin8 hown hK hP 21 rfl rfl 0 (by decide) (hts (.fieldLink RX8 9 "MissedPoints$Tape" "bytes" "[I") (by decide +kernel)) (fun _ h9 => h9) rfl dX8_append_10 ?_
    refine lv_aload_n hx hb dX8_append_13 rfl (lv_at hl 0 rfl) ?_
    refine va_get (D := D) (ci := 8) (v := .int l_tp) (C := RX8) (T := TX8) (N := 2) hx hb hts hin8 hown hK hP 21 rfl rfl 1 (by decide) (hts (.fieldLink RX8 15 "MissedPoints$Tape" "size" "I") (by decide +kernel)) (fun _ h9 => h9) rfl dX8_append_14 ?_
    refine lv_iload_n hx hb dX8_append_17 rfl (lv_at hl 1 rfl) ?_
    refine ks_ast hx hb hK hP hD hS rfl (k := 22) rfl sx_22 (rg_in g48240 (by decide) (by decide)) dX8_append_18 (fun u H locs hP hD hS => ?_)
    refine lv_aload_n hx hb dX8_append_19 rfl (lv_at hl 0 rfl) ?_
    refine lv_dup hx hb dX8_append_20 rfl ?_
    refine va_get (D := D) (ci := 8) (v := .int l_tp) (C := RX8) (T := TX8) (N := 2) hx hb hts hin8 hown hK hP 21 rfl rfl 1 (by decide) (hts (.fieldLink RX8 15 "MissedPoints$Tape" "size" "I") (by decide +kernel)) (fun _ h9 => h9) rfl dX8_append_21 ?_
    refine lv_iconst (v := 1) hx hb dX8_append_24 (by decide) ?_
    refine wk_iadd (e1 := 1) (f := 120) hx hb dX8_append_25 g48240 (by decide : Rg 1 1 (1 : Int32)) (by decide) (fun r48241 hr48241 er48241 qr48241 => ?_)
    refine va_put (D := D) (ci := 8) (v := .int r48241) (ty := .int) (C := RX8) (T := TX8) (N := 2) hx hb hts hin8 tyX8 tyX8_ok nmX8 hown hK hP hD hS 21 rfl rfl 1 (by decide) (hts (.fieldLink RX8 15 "MissedPoints$Tape" "size" "I") (by decide +kernel)) (fun _ h9 => h9) rfl (by decide +kernel) rfl rfl (Nat.le_of_ble_eq_true rfl) dX8_append_26 (fun H locs hP hD hS => ?_)
    have hP : va_P D cls (wX cI cS a na nc N (mkL tw l_s l_t l_i l_kp l_iz l_z r48241 l_o0 l_o1 l_o2 l_o3 l_n0 l_n1 l_n2 l_n3) u) H := hP
    have hD : va_D A (wX cI cS a na nc N (mkL tw l_s l_t l_i l_kp l_iz l_z r48241 l_o0 l_o1 l_o2 l_o3 l_n0 l_n1 l_n2 l_n3) u) := hD
    subst hAe
    exact W.vret hx hb hr (fun t ht hW => ⟨⟨(r48241, u), rfl, ⟨hr48241, (show (l_tp.toInt < 120 → r48241.toInt = l_tp.toInt + 1) from by have y90 : l_tp.toInt < (120 : Int32).toInt := (lz_lt _ _).mp (rg_nle c48238); have y91 : Rg 0 119 l_tp := g48240; have y92 : Rg 0 12 l_s := p_s; have y93 : Rg 0 12 l_t := p_t; have y94 : Rg 0 12 l_i := p_i; have y95 : Rg 1 120 r48241 := hr48241; have y96 : Rg 0 40 l_n0 := p_n0; have y97 : Rg 0 40 l_n1 := p_n1; have y98 : Rg 0 40 l_n2 := p_n2; have y99 : Rg 0 40 l_n3 := p_n3; have y9c10 : (0 : Int32).toInt = 0 := (by decide); have y9c11 : (1 : Int32).toInt = 1 := (by decide); have y9c12 : (120 : Int32).toInt = 120 := (by decide); omega)⟩, by rw [ht]; exact hP, hD⟩, hS.F ht⟩) hS.2.2 dX8_append_29
theorem dX8_clear_0 : decode cX8_clear 0 = .ok (.aload_n 0, 1) := by decide +kernel
theorem dX8_clear_1 : decode cX8_clear 1 = .ok (.getfield 15, 3) := by decide +kernel
theorem dX8_clear_10 : decode cX8_clear 10 = .ok (.iload_n 1, 1) := by decide +kernel
theorem dX8_clear_11 : decode cX8_clear 11 = .ok (.ireturn, 1) := by decide +kernel
theorem dX8_clear_4 : decode cX8_clear 4 = .ok (.istore_n 1, 1) := by decide +kernel
theorem dX8_clear_5 : decode cX8_clear 5 = .ok (.aload_n 0, 1) := by decide +kernel
theorem dX8_clear_6 : decode cX8_clear 6 = .ok (.iconst 0, 1) := by decide +kernel
theorem dX8_clear_7 : decode cX8_clear 7 = .ok (.putfield 15, 3) := by decide +kernel
set_option maxHeartbeats 4000000 in
set_option maxRecDepth 100000 in
theorem k_X8_clear (l : Launch) (D : va_G) (cI cS : ClassId) (sz : Nat) (a : Nat → Nat) (na nc N : Nat) (tw : SU) (l_s l_t l_i l_kp l_iz l_z l_tp l_o0 l_o1 l_o2 l_o3 l_n0 l_n1 l_n2 l_n3 : Int32) (u0 : SU) (hL : TyX (mkL tw l_s l_t l_i l_kp l_iz l_z l_tp l_o0 l_o1 l_o2 l_o3 l_n0 l_n1 l_n2 l_n3)) (hN : N = 0 ∨ N = 24576) : Met l yX8_clear wsX8_clear ({ frames := 0, cells := 0, slots := 0, locals := 0 }) (PQ D cI cS (wX cI cS a na nc N (mkL tw l_s l_t l_i l_kp l_iz l_z l_tp l_o0 l_o1 l_o2 l_o3 l_n0 l_n1 l_n2 l_n3) u0) sz [.ref (a 21)]) (QF (S := Int32 × SU) D (wX cI cS a na nc N (mkL tw l_s l_t l_i l_kp l_iz l_z l_tp l_o0 l_o1 l_o2 l_o3 l_n0 l_n1 l_n2 l_n3) u0) (fun q => wX cI cS a na nc N (mkL tw l_s l_t l_i l_kp l_iz l_z q.1 l_o0 l_o1 l_o2 l_o3 l_n0 l_n1 l_n2 l_n3) q.2) sz (fun r q => Rg 0 120 r ∧ Rg 0 0 q.1 ∧ (r.toInt = l_tp.toInt ∧ q.1.toInt = 0))) 0 0 (va_A (wX cI cS a na nc N (mkL tw l_s l_t l_i l_kp l_iz l_z l_tp l_o0 l_o1 l_o2 l_o3 l_n0 l_n1 l_n2 l_n3) u0) sz) := by
  refine Met.ofW (cc := cX8_clear) (maxL := 2) (ret := (some .int)) (by decide) rfl ?_
  intro p e s m args below meth c s₁ B hml hv
  obtain ⟨rfl, hsz, hP, hKK, hD0⟩ := hv
  have hx := B.exec
  have hb := B.bytes
  have hr := B.returns
  have hts := atoms_spec (ws := wsX8_clear) B.pre
  have hown : s.vm.findClass RX8 = some m.cls := findClass_of_methodNamed B.named
  have hlocks := B.notSynchronized
  have hK := hKK.1
  have hin8 : ∀ w ∈ wsX80, w ∈ wsX8_clear := by decide +kernel
  subst hsz
  have hD := hD0.self (sz := s.heap.size)
  obtain ⟨A, hAe⟩ : ∃ A, A = va_A (wX cI cS a na nc N (mkL tw l_s l_t l_i l_kp l_iz l_z l_tp l_o0 l_o1 l_o2 l_o3 l_n0 l_n1 l_n2 l_n3) u0) s.heap.size := ⟨_, rfl⟩
  rw [← hAe] at hD
  have hA : ∀ q : Nat, s.heap.size ≤ q → A q := fun q h => by rw [hAe]; exact Or.inr h
  have hS : va_S A s.heap s.heap [] := va_S.rf
  have hl := lv_entry ([.ref (a 21)]) (n := 2) (Nat.le_of_ble_eq_true rfl)
  rw [lg_entry_eq]
  generalize (lg_sl ([.ref (a 21)]) ++ List.replicate (2 - (lg_sl ([.ref (a 21)])).length) Slot.unset).toArray = ls at hl ⊢
  have hl : lv_has ls 2 [(0, .ref (a 21))] := hl
  obtain ⟨u, hu9⟩ : ∃ u : SU, u = u0 := ⟨_, rfl⟩
  rw [← hu9] at hP hD
  have p_s : Rg 0 12 l_s := hL.1
  have p_t : Rg 0 12 l_t := hL.2.1
  have p_i : Rg 0 12 l_i := hL.2.2.1
  have p_tp : Rg 0 120 l_tp := hL.2.2.2.1
  have p_n0 : Rg 0 40 l_n0 := hL.2.2.2.2.1
  have p_n1 : Rg 0 40 l_n1 := hL.2.2.2.2.2.1
  have p_n2 : Rg 0 40 l_n2 := hL.2.2.2.2.2.2.1
  have p_n3 : Rg 0 40 l_n3 := hL.2.2.2.2.2.2.2
  refine lv_aload_n hx hb dX8_clear_0 rfl (lv_at hl 0 rfl) ?_
  refine va_get (D := D) (ci := 8) (v := .int l_tp) (C := RX8) (T := TX8) (N := 2) hx hb hts hin8 hown hK hP 21 rfl rfl 1 (by decide) (hts (.fieldLink RX8 15 "MissedPoints$Tape" "size" "I") (by decide +kernel)) (fun _ h9 => h9) rfl dX8_clear_1 ?_
  refine lv_istore_n (lv' := [(1, .int l_tp), (0, .ref (a 21))]) hx hb dX8_clear_4 rfl hl (by decide) rfl (fun ls hl => ?_)
  refine lv_aload_n hx hb dX8_clear_5 rfl (lv_at hl 1 rfl) ?_
  refine lv_iconst (v := 0) hx hb dX8_clear_6 (by decide) ?_
  refine va_put (D := D) (ci := 8) (v := .int 0) (ty := .int) (C := RX8) (T := TX8) (N := 2) hx hb hts hin8 tyX8 tyX8_ok nmX8 hown hK hP hD hS 21 rfl rfl 1 (by decide) (hts (.fieldLink RX8 15 "MissedPoints$Tape" "size" "I") (by decide +kernel)) (fun _ h9 => h9) rfl (by decide +kernel) rfl rfl (Nat.le_of_ble_eq_true rfl) dX8_clear_7 (fun H locs hP hD hS => ?_)
  have hP : va_P D cls (wX cI cS a na nc N (mkL tw l_s l_t l_i l_kp l_iz l_z (0 : Int32) l_o0 l_o1 l_o2 l_o3 l_n0 l_n1 l_n2 l_n3) u) H := hP
  have hD : va_D A (wX cI cS a na nc N (mkL tw l_s l_t l_i l_kp l_iz l_z (0 : Int32) l_o0 l_o1 l_o2 l_o3 l_n0 l_n1 l_n2 l_n3) u) := hD
  refine lv_iload_n hx hb dX8_clear_10 rfl (lv_at hl 0 rfl) ?_
  subst hAe
  exact W.iret (v := l_tp) hx hb hr (fun t ht hW => ⟨⟨_, ((0 : Int32), u), rfl, ⟨p_tp, (by decide : Rg 0 0 (0 : Int32)), (show l_tp.toInt = l_tp.toInt ∧ (0 : Int32).toInt = 0 from by have y90 : Rg 0 120 l_tp := p_tp; have y91 : Rg 0 120 l_tp := p_tp; have y92 : Rg 0 12 l_s := p_s; have y93 : Rg 0 12 l_t := p_t; have y94 : Rg 0 12 l_i := p_i; have y95 : Rg 0 40 l_n0 := p_n0; have y96 : Rg 0 40 l_n1 := p_n1; have y97 : Rg 0 40 l_n2 := p_n2; have y98 : Rg 0 40 l_n3 := p_n3; have y99 : Rg 0 120 l_tp := p_tp; have y9c10 : (0 : Int32).toInt = 0 := (by decide); have y9c11 : (1 : Int32).toInt = 1 := (by decide); omega)⟩, by rw [ht]; exact hP, hD⟩, hS.F ht⟩) hS.2.2 dX8_clear_11
set_option maxHeartbeats 4000000 in
set_option maxRecDepth 100000 in
theorem k_X11_isSheet_z (l : Launch) (D : va_G) (cI cS : ClassId) (x0 : Int32) : Met l yX11_isSheet wsX11_isSheet ({ frames := 0, cells := 0, slots := 0, locals := 0 }) (PS D cI cS [] [.int x0]) (vp_Si (fun r => Rg 0 1 r ∧ (r ≠ 0 → Rg 0 3 x0) ∧ (r = 0 → (x0.toInt < 0 ∨ 3 < x0.toInt)))) 0 0 (fun _ => False) := by
  refine Met.ofW (cc := cX11_isSheet) (maxL := 1) (ret := (some .boolean)) (by decide) rfl ?_
  intro p e s m args below meth c s₁ B hml hv
  obtain ⟨rfl, hP, hKK⟩ := hv
  have hx := B.exec
  have hb := B.bytes
  have hr := B.returns
  have hts := atoms_spec (ws := wsX11_isSheet) B.pre
  have hown : s.vm.findClass RX11 = some m.cls := findClass_of_methodNamed B.named
  have hlocks := B.notSynchronized
  have hK := hKK.1
  have hl := lv_entry ([.int x0]) (n := 1) (Nat.le_of_ble_eq_true rfl)
  rw [lg_entry_eq]
  generalize (lg_sl ([.int x0]) ++ List.replicate (1 - (lg_sl ([.int x0])).length) Slot.unset).toArray = ls at hl ⊢
  have hl : lv_has ls 1 [(0, .int x0)] := hl
  refine lv_iload_n hx hb dX11_isSheet_0 rfl (lv_at hl 0 rfl) ?_
  refine lv_if_lt (tgt := 13) hx hb dX11_isSheet_1 (by decide) (fun c48248 => ?_) (fun c48248 => ?_)
  · have g48249 : Rg (-2147483648) (-1) x0 := rg_ltl (rg_any x0) (by decide : Rg 0 0 (0 : Int32)) c48248 (by decide)
    refine lv_iconst (v := 0) hx hb dX11_isSheet_13 (by decide) ?_
    exact W.zret (v := 0) hx hb hr (by decide) (fun t ht hW => ⟨_, rfl, ⟨(by decide : Rg 0 1 (0 : Int32)), fun h9 => absurd rfl h9, fun _ => (by have y90 : x0.toInt < (0 : Int32).toInt := (lz_lt _ _).mp c48248; have y91 : Rg (-2147483648) (-1) x0 := g48249; have y92 : Rg (-2147483648) (-1) x0 := g48249; have y9c3 : (0 : Int32).toInt = 0 := (by decide); have y9c4 : (1 : Int32).toInt = 1 := (by decide); omega)⟩, ht⟩) (fun q hq => absurd hq List.not_mem_nil) dX11_isSheet_14
  · have g48250 : Rg 0 2147483647 x0 := rg_ler (by decide : Rg 0 0 (0 : Int32)) (rg_any x0) (rg_nlt c48248) (by decide)
    refine lv_iload_n hx hb dX11_isSheet_4 rfl (lv_at hl 0 rfl) ?_
    refine lv_iconst (v := 4) hx hb dX11_isSheet_5 (by decide) ?_
    refine lv_icmp_ge (tgt := 13) hx hb dX11_isSheet_6 (by decide) (fun c48251 => ?_) (fun c48251 => ?_)
    · have g48252 : Rg 4 2147483647 x0 := rg_ler (by decide : Rg 4 4 (4 : Int32)) g48250 c48251 (by decide)
      refine lv_iconst (v := 0) hx hb dX11_isSheet_13 (by decide) ?_
      exact W.zret (v := 0) hx hb hr (by decide) (fun t ht hW => ⟨_, rfl, ⟨(by decide : Rg 0 1 (0 : Int32)), fun h9 => absurd rfl h9, fun _ => (by have y90 : (0 : Int32).toInt ≤ x0.toInt := (lz_le _ _).mp (rg_nlt c48248); have y91 : (4 : Int32).toInt ≤ x0.toInt := (lz_le _ _).mp c48251; have y92 : Rg 4 2147483647 x0 := g48252; have y93 : Rg 4 2147483647 x0 := g48252; have y9c4 : (0 : Int32).toInt = 0 := (by decide); have y9c5 : (1 : Int32).toInt = 1 := (by decide); have y9c6 : (4 : Int32).toInt = 4 := (by decide); omega)⟩, ht⟩) (fun q hq => absurd hq List.not_mem_nil) dX11_isSheet_14
    · have g48253 : Rg 0 3 x0 := rg_ltl g48250 (by decide : Rg 4 4 (4 : Int32)) (rg_nle c48251) (by decide)
      refine lv_iconst (v := 1) hx hb dX11_isSheet_9 (by decide) ?_
      refine lv_goto (tgt := 14) hx hb dX11_isSheet_10 (by decide) ?_
      exact W.zret (v := 1) hx hb hr (by decide) (fun t ht hW => ⟨_, rfl, ⟨(by decide : Rg 0 1 (1 : Int32)), fun _ => g48253, fun h9 => absurd h9 (by decide)⟩, ht⟩) (fun q hq => absurd hq List.not_mem_nil) dX11_isSheet_14
set_option maxHeartbeats 4000000 in
set_option maxRecDepth 100000 in
theorem k_X11_isSort_z (l : Launch) (D : va_G) (cI cS : ClassId) (x0 : Int32) : Met l yX11_isSort wsX11_isSort ({ frames := 0, cells := 0, slots := 0, locals := 0 }) (PS D cI cS [] [.int x0]) (vp_Si (fun r => Rg 0 1 r ∧ (r ≠ 0 → Rg 0 1 x0) ∧ (r = 0 → (x0.toInt < 0 ∨ 1 < x0.toInt)))) 0 0 (fun _ => False) := by
  refine Met.ofW (cc := cX11_isSort) (maxL := 1) (ret := (some .boolean)) (by decide) rfl ?_
  intro p e s m args below meth c s₁ B hml hv
  obtain ⟨rfl, hP, hKK⟩ := hv
  have hx := B.exec
  have hb := B.bytes
  have hr := B.returns
  have hts := atoms_spec (ws := wsX11_isSort) B.pre
  have hown : s.vm.findClass RX11 = some m.cls := findClass_of_methodNamed B.named
  have hlocks := B.notSynchronized
  have hK := hKK.1
  have hl := lv_entry ([.int x0]) (n := 1) (Nat.le_of_ble_eq_true rfl)
  rw [lg_entry_eq]
  generalize (lg_sl ([.int x0]) ++ List.replicate (1 - (lg_sl ([.int x0])).length) Slot.unset).toArray = ls at hl ⊢
  have hl : lv_has ls 1 [(0, .int x0)] := hl
  refine lv_iload_n hx hb dX11_isSort_0 rfl (lv_at hl 0 rfl) ?_
  refine lv_if_eq (tgt := 9) hx hb dX11_isSort_1 (by decide) (fun c48258 => ?_) (fun c48258 => ?_)
  · have g48259 : Rg 0 0 x0 := wk_eql (rg_any x0) (by decide : Rg 0 0 (0 : Int32)) c48258 (by decide)
    refine lv_iconst (v := 1) hx hb dX11_isSort_9 (by decide) ?_
    refine lv_goto (tgt := 14) hx hb dX11_isSort_10 (by decide) ?_
    exact W.zret (v := 1) hx hb hr (by decide) (fun t ht hW => ⟨_, rfl, ⟨(by decide : Rg 0 1 (1 : Int32)), fun _ => (show Rg 0 1 x0 from rg_w g48259 (by decide) (by decide)), fun h9 => absurd h9 (by decide)⟩, ht⟩) (fun q hq => absurd hq List.not_mem_nil) dX11_isSort_14
  · refine lv_iload_n hx hb dX11_isSort_4 rfl (lv_at hl 0 rfl) ?_
    refine lv_iconst (v := 1) hx hb dX11_isSort_5 (by decide) ?_
    refine lv_icmp_ne (tgt := 13) hx hb dX11_isSort_6 (by decide) (fun c48260 => ?_) (fun c48260 => ?_)
    · refine lv_iconst (v := 0) hx hb dX11_isSort_13 (by decide) ?_
      exact W.zret (v := 0) hx hb hr (by decide) (fun t ht hW => ⟨_, rfl, ⟨(by decide : Rg 0 1 (0 : Int32)), fun h9 => absurd rfl h9, fun _ => (by have y90 : ¬ x0.toInt = (0 : Int32).toInt := fun z => c48258 (Int32.toInt_inj.mp z); have y91 : ¬ x0.toInt = (1 : Int32).toInt := fun z => c48260 (Int32.toInt_inj.mp z); have y9c2 : (0 : Int32).toInt = 0 := (by decide); have y9c3 : (1 : Int32).toInt = 1 := (by decide); omega)⟩, ht⟩) (fun q hq => absurd hq List.not_mem_nil) dX11_isSort_14
    · have g48261 : Rg 1 1 x0 := wk_eql (rg_any x0) (by decide : Rg 1 1 (1 : Int32)) c48260 (by decide)
      refine lv_iconst (v := 1) hx hb dX11_isSort_9 (by decide) ?_
      refine lv_goto (tgt := 14) hx hb dX11_isSort_10 (by decide) ?_
      exact W.zret (v := 1) hx hb hr (by decide) (fun t ht hW => ⟨_, rfl, ⟨(by decide : Rg 0 1 (1 : Int32)), fun _ => (show Rg 0 1 x0 from rg_w g48261 (by decide) (by decide)), fun h9 => absurd h9 (by decide)⟩, ht⟩) (fun q hq => absurd hq List.not_mem_nil) dX11_isSort_14
set_option maxHeartbeats 4000000 in
set_option maxRecDepth 100000 in
theorem k_X11_canDeal_z (l : Launch) (D : va_G) (cI cS : ClassId) (x0 x1 : Int32) : Met l yX11_canDeal wsX11_canDeal ({ frames := 0, cells := 0, slots := 0, locals := 0 }) (PS D cI cS [] [.int x0, .int x1]) (vp_Si (fun r => Rg 0 1 r ∧ (r ≠ 0 → Rg 0 12 x0 ∧ Rg 0 10 x1) ∧ (r = 0 → (x0.toInt < 0 ∨ 12 < x0.toInt ∨ x1.toInt < 0 ∨ 10 < x1.toInt)))) 0 0 (fun _ => False) := by
  refine Met.ofW (cc := cX11_canDeal) (maxL := 2) (ret := (some .boolean)) (by decide) rfl ?_
  intro p e s m args below meth c s₁ B hml hv
  obtain ⟨rfl, hP, hKK⟩ := hv
  have hx := B.exec
  have hb := B.bytes
  have hr := B.returns
  have hts := atoms_spec (ws := wsX11_canDeal) B.pre
  have hown : s.vm.findClass RX11 = some m.cls := findClass_of_methodNamed B.named
  have hlocks := B.notSynchronized
  have hK := hKK.1
  have hl := lv_entry ([.int x0, .int x1]) (n := 2) (Nat.le_of_ble_eq_true rfl)
  rw [lg_entry_eq]
  generalize (lg_sl ([.int x0, .int x1]) ++ List.replicate (2 - (lg_sl ([.int x0, .int x1])).length) Slot.unset).toArray = ls at hl ⊢
  have hl : lv_has ls 2 [(0, .int x0), (1, .int x1)] := hl
  refine lv_iload_n hx hb dX11_canDeal_0 rfl (lv_at hl 0 rfl) ?_
  refine lv_if_lt (tgt := 24) hx hb dX11_canDeal_1 (by decide) (fun c48274 => ?_) (fun c48274 => ?_)
  · have g48275 : Rg (-2147483648) (-1) x0 := rg_ltl (rg_any x0) (by decide : Rg 0 0 (0 : Int32)) c48274 (by decide)
    refine lv_iconst (v := 0) hx hb dX11_canDeal_24 (by decide) ?_
    exact W.zret (v := 0) hx hb hr (by decide) (fun t ht hW => ⟨_, rfl, ⟨(by decide : Rg 0 1 (0 : Int32)), fun h9 => absurd rfl h9, fun _ => (by have y90 : x0.toInt < (0 : Int32).toInt := (lz_lt _ _).mp c48274; have y91 : Rg (-2147483648) (-1) x0 := g48275; have y92 : Rg (-2147483648) (-1) x0 := g48275; have y9c3 : (0 : Int32).toInt = 0 := (by decide); have y9c4 : (1 : Int32).toInt = 1 := (by decide); omega)⟩, ht⟩) (fun q hq => absurd hq List.not_mem_nil) dX11_canDeal_25
  · have g48276 : Rg 0 2147483647 x0 := rg_ler (by decide : Rg 0 0 (0 : Int32)) (rg_any x0) (rg_nlt c48274) (by decide)
    refine lv_iload_n hx hb dX11_canDeal_4 rfl (lv_at hl 0 rfl) ?_
    refine lv_bipush (v := 12) hx hb dX11_canDeal_5 (by decide) ?_
    refine lv_icmp_gt (tgt := 24) hx hb dX11_canDeal_7 (by decide) (fun c48277 => ?_) (fun c48277 => ?_)
    · have g48278 : Rg 13 2147483647 x0 := rg_ltr (by decide : Rg 12 12 (12 : Int32)) g48276 c48277 (by decide)
      refine lv_iconst (v := 0) hx hb dX11_canDeal_24 (by decide) ?_
      exact W.zret (v := 0) hx hb hr (by decide) (fun t ht hW => ⟨_, rfl, ⟨(by decide : Rg 0 1 (0 : Int32)), fun h9 => absurd rfl h9, fun _ => (by have y90 : (0 : Int32).toInt ≤ x0.toInt := (lz_le _ _).mp (rg_nlt c48274); have y91 : (12 : Int32).toInt < x0.toInt := (lz_lt _ _).mp c48277; have y92 : Rg 13 2147483647 x0 := g48278; have y93 : Rg 13 2147483647 x0 := g48278; have y9c4 : (0 : Int32).toInt = 0 := (by decide); have y9c5 : (1 : Int32).toInt = 1 := (by decide); have y9c6 : (12 : Int32).toInt = 12 := (by decide); omega)⟩, ht⟩) (fun q hq => absurd hq List.not_mem_nil) dX11_canDeal_25
    · have g48279 : Rg 0 12 x0 := rg_lel g48276 (by decide : Rg 12 12 (12 : Int32)) (rg_nlt c48277) (by decide)
      refine lv_iload_n hx hb dX11_canDeal_10 rfl (lv_at hl 1 rfl) ?_
      refine lv_if_lt (tgt := 24) hx hb dX11_canDeal_11 (by decide) (fun c48280 => ?_) (fun c48280 => ?_)
      · have g48281 : Rg (-2147483648) (-1) x1 := rg_ltl (rg_any x1) (by decide : Rg 0 0 (0 : Int32)) c48280 (by decide)
        refine lv_iconst (v := 0) hx hb dX11_canDeal_24 (by decide) ?_
        exact W.zret (v := 0) hx hb hr (by decide) (fun t ht hW => ⟨_, rfl, ⟨(by decide : Rg 0 1 (0 : Int32)), fun h9 => absurd rfl h9, fun _ => (by have y90 : (0 : Int32).toInt ≤ x0.toInt := (lz_le _ _).mp (rg_nlt c48274); have y91 : x0.toInt ≤ (12 : Int32).toInt := (lz_le _ _).mp (rg_nlt c48277); have y92 : x1.toInt < (0 : Int32).toInt := (lz_lt _ _).mp c48280; have y93 : Rg 0 12 x0 := g48279; have y94 : Rg (-2147483648) (-1) x1 := g48281; have y95 : Rg 0 12 x0 := g48279; have y96 : Rg (-2147483648) (-1) x1 := g48281; have y9c7 : (0 : Int32).toInt = 0 := (by decide); have y9c8 : (1 : Int32).toInt = 1 := (by decide); have y9c9 : (12 : Int32).toInt = 12 := (by decide); omega)⟩, ht⟩) (fun q hq => absurd hq List.not_mem_nil) dX11_canDeal_25
      · have g48282 : Rg 0 2147483647 x1 := rg_ler (by decide : Rg 0 0 (0 : Int32)) (rg_any x1) (rg_nlt c48280) (by decide)
        refine lv_iload_n hx hb dX11_canDeal_14 rfl (lv_at hl 1 rfl) ?_
        refine lv_bipush (v := 10) hx hb dX11_canDeal_15 (by decide) ?_
        refine lv_icmp_gt (tgt := 24) hx hb dX11_canDeal_17 (by decide) (fun c48283 => ?_) (fun c48283 => ?_)
        · have g48284 : Rg 11 2147483647 x1 := rg_ltr (by decide : Rg 10 10 (10 : Int32)) g48282 c48283 (by decide)
          refine lv_iconst (v := 0) hx hb dX11_canDeal_24 (by decide) ?_
          exact W.zret (v := 0) hx hb hr (by decide) (fun t ht hW => ⟨_, rfl, ⟨(by decide : Rg 0 1 (0 : Int32)), fun h9 => absurd rfl h9, fun _ => (by have y90 : (0 : Int32).toInt ≤ x0.toInt := (lz_le _ _).mp (rg_nlt c48274); have y91 : x0.toInt ≤ (12 : Int32).toInt := (lz_le _ _).mp (rg_nlt c48277); have y92 : (0 : Int32).toInt ≤ x1.toInt := (lz_le _ _).mp (rg_nlt c48280); have y93 : (10 : Int32).toInt < x1.toInt := (lz_lt _ _).mp c48283; have y94 : Rg 0 12 x0 := g48279; have y95 : Rg 11 2147483647 x1 := g48284; have y96 : Rg 0 12 x0 := g48279; have y97 : Rg 11 2147483647 x1 := g48284; have y9c8 : (0 : Int32).toInt = 0 := (by decide); have y9c9 : (1 : Int32).toInt = 1 := (by decide); have y9c10 : (10 : Int32).toInt = 10 := (by decide); have y9c11 : (12 : Int32).toInt = 12 := (by decide); omega)⟩, ht⟩) (fun q hq => absurd hq List.not_mem_nil) dX11_canDeal_25
        · have g48285 : Rg 0 10 x1 := rg_lel g48282 (by decide : Rg 10 10 (10 : Int32)) (rg_nlt c48283) (by decide)
          refine lv_iconst (v := 1) hx hb dX11_canDeal_20 (by decide) ?_
          refine lv_goto (tgt := 25) hx hb dX11_canDeal_21 (by decide) ?_
          exact W.zret (v := 1) hx hb hr (by decide) (fun t ht hW => ⟨_, rfl, ⟨(by decide : Rg 0 1 (1 : Int32)), fun _ => ⟨g48279, g48285⟩, fun h9 => absurd h9 (by decide)⟩, ht⟩) (fun q hq => absurd hq List.not_mem_nil) dX11_canDeal_25
theorem dX6_become_0 : decode cX6_become 0 = .ok (.aload_n 0, 1) := by decide +kernel
theorem dX6_become_1 : decode cX6_become 1 = .ok (.iload_n 1, 1) := by decide +kernel
theorem dX6_become_10 : decode cX6_become 10 = .ok (.invokestatic 19, 3) := by decide +kernel
theorem dX6_become_13 : decode cX6_become 13 = .ok (.invokestatic 25, 3) := by decide +kernel
theorem dX6_become_16 : decode cX6_become 16 = .ok (.putfield 28, 3) := by decide +kernel
theorem dX6_become_19 : decode cX6_become 19 = .ok (.iconst 0, 1) := by decide +kernel
theorem dX6_become_2 : decode cX6_become 2 = .ok (.putfield 15, 3) := by decide +kernel
theorem dX6_become_20 : decode cX6_become 20 = .ok (.istore_n 3, 1) := by decide +kernel
theorem dX6_become_21 : decode cX6_become 21 = .ok (.iload_n 3, 1) := by decide +kernel
theorem dX6_become_22 : decode cX6_become 22 = .ok (.bipush 40, 2) := by decide +kernel
theorem dX6_become_24 : decode cX6_become 24 = .ok (.if_icmp .ge 16, 3) := by decide +kernel
theorem dX6_become_27 : decode cX6_become 27 = .ok (.aload_n 0, 1) := by decide +kernel
theorem dX6_become_28 : decode cX6_become 28 = .ok (.getfield 9, 3) := by decide +kernel
theorem dX6_become_31 : decode cX6_become 31 = .ok (.iload_n 3, 1) := by decide +kernel
theorem dX6_become_32 : decode cX6_become 32 = .ok (.iconst 0, 1) := by decide +kernel
theorem dX6_become_33 : decode cX6_become 33 = .ok (.iastore, 1) := by decide +kernel
theorem dX6_become_34 : decode cX6_become 34 = .ok (.iinc 3 1, 3) := by decide +kernel
theorem dX6_become_37 : decode cX6_become 37 = .ok (.goto (-16), 3) := by decide +kernel
theorem dX6_become_40 : decode cX6_become 40 = .ok (.return_, 1) := by decide +kernel
theorem dX6_become_5 : decode cX6_become 5 = .ok (.aload_n 0, 1) := by decide +kernel
theorem dX6_become_6 : decode cX6_become 6 = .ok (.iconst 0, 1) := by decide +kernel
theorem dX6_become_7 : decode cX6_become 7 = .ok (.iload_n 2, 1) := by decide +kernel
theorem dX6_become_8 : decode cX6_become 8 = .ok (.bipush 40, 2) := by decide +kernel
set_option maxHeartbeats 4000000 in
set_option maxRecDepth 100000 in
theorem k_X6_become_0 (l : Launch) (D : va_G) (cI cS : ClassId) (sz : Nat) (a : Nat → Nat) (na nc N : Nat) (tw : SU) (l_s l_t l_i l_kp l_iz l_z l_tp l_o0 l_o1 l_o2 l_o3 l_n0 l_n1 l_n2 l_n3 : Int32) (u0 : SU) (hL : TyX (mkL tw l_s l_t l_i l_kp l_iz l_z l_tp l_o0 l_o1 l_o2 l_o3 l_n0 l_n1 l_n2 l_n3)) (hN : N = 0 ∨ N = 24576) (x0 x1 : Int32) : Met l yX6_become wsX6_become ({ frames := 1, cells := 0, slots := 0, locals := 40 }) (PQ D cI cS (wX cI cS a na nc N (mkL tw l_s l_t l_i l_kp l_iz l_z l_tp l_o0 l_o1 l_o2 l_o3 l_n0 l_n1 l_n2 l_n3) u0) sz [.ref (a 26), .int x0, .int x1]) (QE (S := Int32 × Int32 × SU) D (wX cI cS a na nc N (mkL tw l_s l_t l_i l_kp l_iz l_z l_tp l_o0 l_o1 l_o2 l_o3 l_n0 l_n1 l_n2 l_n3) u0) (fun q => wX cI cS a na nc N (mkL tw l_s l_t l_i l_kp l_iz l_z l_tp q.1 l_o1 l_o2 l_o3 q.2.1 l_n1 l_n2 l_n3) q.2.2) sz (fun q => Rg 0 40 q.2.1 ∧ (q.1.toInt = x0.toInt ∧ (0 ≤ x1.toInt → x1.toInt ≤ 40 → q.2.1.toInt = x1.toInt)))) 0 0 (va_A (wX cI cS a na nc N (mkL tw l_s l_t l_i l_kp l_iz l_z l_tp l_o0 l_o1 l_o2 l_o3 l_n0 l_n1 l_n2 l_n3) u0) sz) := by
  refine Met.ofW (cc := cX6_become) (maxL := 4) (ret := none) (by decide) rfl ?_
  intro p e s m args below meth c s₁ B hml hv
  obtain ⟨rfl, hsz, hP, hKK, hD0⟩ := hv
  have hx := B.exec
  have hb := B.bytes
  have hr := B.returns
  have hts := atoms_spec (ws := wsX6_become) B.pre
  have hown : s.vm.findClass RX6 = some m.cls := findClass_of_methodNamed B.named
  have hlocks := B.notSynchronized
  have hK := hKK.1
  have hin6 : ∀ w ∈ wsX60, w ∈ wsX6_become := by decide +kernel
  subst hsz
  have hD := hD0.self (sz := s.heap.size)
  obtain ⟨A, hAe⟩ : ∃ A, A = va_A (wX cI cS a na nc N (mkL tw l_s l_t l_i l_kp l_iz l_z l_tp l_o0 l_o1 l_o2 l_o3 l_n0 l_n1 l_n2 l_n3) u0) s.heap.size := ⟨_, rfl⟩
  rw [← hAe] at hD
  have hA : ∀ q : Nat, s.heap.size ≤ q → A q := fun q h => by rw [hAe]; exact Or.inr h
  have hS : va_S A s.heap s.heap [] := va_S.rf
  have hl := lv_entry ([.ref (a 26), .int x0, .int x1]) (n := 4) (Nat.le_of_ble_eq_true rfl)
  rw [lg_entry_eq]
  generalize (lg_sl ([.ref (a 26), .int x0, .int x1]) ++ List.replicate (4 - (lg_sl ([.ref (a 26), .int x0, .int x1])).length) Slot.unset).toArray = ls at hl ⊢
  have hl : lv_has ls 4 [(0, .ref (a 26)), (1, .int x0), (2, .int x1)] := hl
  obtain ⟨u, hu9⟩ : ∃ u : SU, u = u0 := ⟨_, rfl⟩
  rw [← hu9] at hP hD
  have p_s : Rg 0 12 l_s := hL.1
  have p_t : Rg 0 12 l_t := hL.2.1
  have p_i : Rg 0 12 l_i := hL.2.2.1
  have p_tp : Rg 0 120 l_tp := hL.2.2.2.1
  have p_n0 : Rg 0 40 l_n0 := hL.2.2.2.2.1
  have p_n1 : Rg 0 40 l_n1 := hL.2.2.2.2.2.1
  have p_n2 : Rg 0 40 l_n2 := hL.2.2.2.2.2.2.1
  have p_n3 : Rg 0 40 l_n3 := hL.2.2.2.2.2.2.2
  have lp21 : ∀ (n21 : Nat) (y21_l3 : Int32) (y21_kn0 : Int32) (u : SU) (H : Heap) (locs : List Loc) (ls : Array Slot), Rg 0 40 y21_l3 → Rg 0 40 y21_kn0 → (0 ≤ x1.toInt → x1.toInt ≤ 40 → y21_kn0.toInt = x1.toInt) → va_P D cls (wX cI cS a na nc N (mkL tw l_s l_t l_i l_kp l_iz l_z l_tp x0 l_o1 l_o2 l_o3 y21_kn0 l_n1 l_n2 l_n3) u) H → va_D A (wX cI cS a na nc N (mkL tw l_s l_t l_i l_kp l_iz l_z l_tp x0 l_o1 l_o2 l_o3 y21_kn0 l_n1 l_n2 l_n3) u) → va_S A s.heap H locs → lv_has ls 4 [(0, .ref (a 26)), (3, .int y21_l3)] → 40 - y21_l3.toInt < (n21 : Int) → W p l e (headSpec wsX6_become ({ frames := 1, cells := 0, slots := 0, locals := 40 })).room s m ([.ref (a 26), .int x0, .int x1]).toArray below meth c H locs 0 0 (MQ below (QE (S := Int32 × Int32 × SU) D (wX cI cS a na nc N (mkL tw l_s l_t l_i l_kp l_iz l_z l_tp l_o0 l_o1 l_o2 l_o3 l_n0 l_n1 l_n2 l_n3) u0) (fun q => wX cI cS a na nc N (mkL tw l_s l_t l_i l_kp l_iz l_z l_tp q.1 l_o1 l_o2 l_o3 q.2.1 l_n1 l_n2 l_n3) q.2.2) s.heap.size (fun q => Rg 0 40 q.2.1 ∧ (q.1.toInt = x0.toInt ∧ (0 ≤ x1.toInt → x1.toInt ≤ 40 → q.2.1.toInt = x1.toInt)))) ([.ref (a 26), .int x0, .int x1]).toArray s 0 0 (va_A (wX cI cS a na nc N (mkL tw l_s l_t l_i l_kp l_iz l_z l_tp l_o0 l_o1 l_o2 l_o3 l_n0 l_n1 l_n2 l_n3) u0) s.heap.size)) (F0 m 21 ls []) := by
    intro n21
    induction n21 with
    | zero =>
      intro y21_l3 y21_kn0 u H locs ls g21_l3 g21_kn0 x21_0 hP hD hS hl hm21
      exact absurd rfl (me_z g21_l3 hm21)
    | succ n21 ih21 =>
      intro y21_l3 y21_kn0 u H locs ls g21_l3 g21_kn0 x21_0 hP hD hS hl hm21
      refine lv_iload_n hx hb dX6_become_21 rfl (lv_at hl 1 rfl) ?_
      refine lv_bipush (v := 40) hx hb dX6_become_22 (by decide) ?_
      refine lv_icmp_ge (tgt := 40) hx hb dX6_become_24 (by decide) (fun c48344 => ?_) (fun c48344 => ?_)
      · have g48345 : Rg 40 40 y21_l3 := rg_ler (by decide : Rg 40 40 (40 : Int32)) g21_l3 c48344 (by decide)
        subst hAe
        exact W.vret hx hb hr (fun t ht hW => ⟨⟨(x0, y21_kn0, u), rfl, ⟨g21_kn0, (show x0.toInt = x0.toInt ∧ (0 ≤ x1.toInt → x1.toInt ≤ 40 → y21_kn0.toInt = x1.toInt) from by have y90 : (40 : Int32).toInt ≤ y21_l3.toInt := (lz_le _ _).mp c48344; have y91 : Rg 40 40 y21_l3 := g48345; have y92 : Rg 40 40 y21_l3 := g48345; have y93 : Rg 0 12 l_s := p_s; have y94 : Rg 0 12 l_t := p_t; have y95 : Rg 0 12 l_i := p_i; have y96 : Rg 0 120 l_tp := p_tp; have y97 : Rg 0 40 y21_kn0 := g21_kn0; have y98 : Rg 0 40 l_n1 := p_n1; have y99 : Rg 0 40 l_n2 := p_n2; have y910 : Rg 0 40 l_n3 := p_n3; have y9c11 : (0 : Int32).toInt = 0 := (by decide); have y9c12 : (1 : Int32).toInt = 1 := (by decide); have y9c13 : (40 : Int32).toInt = 40 := (by decide); omega)⟩, by rw [ht]; exact hP, hD⟩, hS.F ht⟩) hS.2.2 dX6_become_40
      · have g48346 : Rg 0 39 y21_l3 := rg_ltl g21_l3 (by decide : Rg 40 40 (40 : Int32)) (rg_nle c48344) (by decide)
        refine lv_aload_n hx hb dX6_become_27 rfl (lv_at hl 0 rfl) ?_
        refine va_get (D := D) (ci := 6) (v := .ref (a 27)) (C := RX6) (T := TX6) (N := 3) hx hb hts hin6 hown hK hP 26 rfl rfl 0 (by decide) (hts (.fieldLink RX6 9 "MissedPoints$Sheet" "numbers" "[I") (by decide +kernel)) (fun _ h9 => h9) rfl dX6_become_28 ?_
        refine lv_iload_n hx hb dX6_become_31 rfl (lv_at hl 1 rfl) ?_
        refine lv_iconst (v := 0) hx hb dX6_become_32 (by decide) ?_
        refine ks_ast hx hb hK hP hD hS rfl (k := 27) rfl sx_27 (rg_in g48346 (by decide) (by decide)) dX6_become_33 (fun u H locs hP hD hS => ?_)
        refine wk_iinc (lv' := fun r => [(3, .int r), (0, .ref (a 26))]) (e1 := 1) (f := 40) hx hb dX6_become_34 hl (k := 1) rfl (by decide) g48346 (by decide) (fun _ => rfl) (fun r48347 ls hr48347 er48347 hl => ?_)
        refine lv_goto (tgt := 21) hx hb dX6_become_37 (by decide) ?_
        exact ih21 r48347 y21_kn0 u _ _ ls (show Rg 0 40 r48347 from rg_w hr48347 (by decide) (by decide)) g21_kn0 (show (0 ≤ x1.toInt → x1.toInt ≤ 40 → y21_kn0.toInt = x1.toInt) from by have y90 : y21_l3.toInt < (40 : Int32).toInt := (lz_lt _ _).mp (rg_nle c48344); have y91 : Rg 0 39 y21_l3 := g48346; have y92 : Rg 1 40 r48347 := hr48347; have y93 : Rg 0 12 l_s := p_s; have y94 : Rg 0 12 l_t := p_t; have y95 : Rg 0 12 l_i := p_i; have y96 : Rg 0 120 l_tp := p_tp; have y97 : Rg 0 40 y21_kn0 := g21_kn0; have y98 : Rg 0 40 l_n1 := p_n1; have y99 : Rg 0 40 l_n2 := p_n2; have y910 : Rg 0 40 l_n3 := p_n3; have y9c11 : (0 : Int32).toInt = 0 := (by decide); have y9c12 : (1 : Int32).toInt = 1 := (by decide); have y9c13 : (40 : Int32).toInt = 40 := (by decide); omega) hP hD hS (lv_sub (l' := [(0, .ref (a 26)), (3, .int r48347)]) hl [1, 0] rfl) (me_up hm21 er48347 (by decide))
  refine lv_aload_n hx hb dX6_become_0 rfl (lv_at hl 0 rfl) ?_
  refine lv_iload_n hx hb dX6_become_1 rfl (lv_at hl 1 rfl) ?_
  refine va_put (D := D) (ci := 6) (v := .int x0) (ty := .int) (C := RX6) (T := TX6) (N := 3) hx hb hts hin6 tyX6 tyX6_ok nmX6 hown hK hP hD hS 26 rfl rfl 1 (by decide) (hts (.fieldLink RX6 15 "MissedPoints$Sheet" "sort" "I") (by decide +kernel)) (fun _ h9 => h9) rfl (by decide +kernel) rfl rfl (Nat.le_of_ble_eq_true rfl) dX6_become_2 (fun H locs hP hD hS => ?_)
  have hP : va_P D cls (wX cI cS a na nc N (mkL tw l_s l_t l_i l_kp l_iz l_z l_tp x0 l_o1 l_o2 l_o3 l_n0 l_n1 l_n2 l_n3) u) H := hP
  have hD : va_D A (wX cI cS a na nc N (mkL tw l_s l_t l_i l_kp l_iz l_z l_tp x0 l_o1 l_o2 l_o3 l_n0 l_n1 l_n2 l_n3) u) := hD
  refine lv_aload_n hx hb dX6_become_5 rfl (lv_at hl 0 rfl) ?_
  refine lv_iconst (v := 0) hx hb dX6_become_6 (by decide) ?_
  refine lv_iload_n hx hb dX6_become_7 rfl (lv_at hl 2 rfl) ?_
  refine lv_bipush (v := 40) hx hb dX6_become_8 (by decide) ?_
  refine va_mmin hx hb (by rw [hml]; exact hl.1.symm) hown (hts (.methodLink RX6 19 Lib.Math.min.name) (by decide +kernel)) (hts (.static Lib.Math.min.name) (by decide +kernel)) (hts (.initialized "java/lang/Math") (by decide +kernel)) (hts (.code Lib.Math.min.name Lib.Math.min.code 2 (some .int)) (by decide +kernel)) (Nat.le_of_ble_eq_true rfl) (Nat.le_of_ble_eq_true rfl) (Nat.le_of_ble_eq_true rfl) (Nat.le_of_ble_eq_true rfl) dX6_become_10 ?_
  refine wk_topP (P := fun r => Rg (-2147483648) 40 r ∧ (r.toInt ≤ x1.toInt ∧ r.toInt ≤ (40 : Int32).toInt) ∧ (r.toInt = x1.toInt ∨ r.toInt = (40 : Int32).toInt)) ⟨wk_min (rg_any x1) (by decide : Rg 40 40 (40 : Int32)) (by decide), ⟨⟨wk_minE.1, wk_minE.2.1⟩, wk_minE.2.2⟩⟩ (fun r48348 hr48348 => ?_)
  refine va_mmax hx hb (by rw [hml]; exact hl.1.symm) hown (hts (.methodLink RX6 25 Lib.Math.max.name) (by decide +kernel)) (hts (.static Lib.Math.max.name) (by decide +kernel)) (hts (.initialized "java/lang/Math") (by decide +kernel)) (hts (.code Lib.Math.max.name Lib.Math.max.code 2 (some .int)) (by decide +kernel)) (Nat.le_of_ble_eq_true rfl) (Nat.le_of_ble_eq_true rfl) (Nat.le_of_ble_eq_true rfl) (Nat.le_of_ble_eq_true rfl) dX6_become_13 ?_
  refine wk_topP (P := fun r => Rg 0 40 r ∧ ((0 : Int32).toInt ≤ r.toInt ∧ r48348.toInt ≤ r.toInt) ∧ (r.toInt = (0 : Int32).toInt ∨ r.toInt = r48348.toInt)) ⟨wk_max (by decide : Rg 0 0 (0 : Int32)) hr48348.1 (by decide), ⟨⟨wk_maxE.1, wk_maxE.2.1⟩, wk_maxE.2.2⟩⟩ (fun r48349 hr48349 => ?_)
  refine va_put (D := D) (ci := 6) (v := .int r48349) (ty := .int) (C := RX6) (T := TX6) (N := 3) hx hb hts hin6 tyX6 tyX6_ok nmX6 hown hK hP hD hS 26 rfl rfl 2 (by decide) (hts (.fieldLink RX6 28 "MissedPoints$Sheet" "size" "I") (by decide +kernel)) (fun _ h9 => h9) rfl (by decide +kernel) rfl rfl (Nat.le_of_ble_eq_true rfl) dX6_become_16 (fun H locs hP hD hS => ?_)
  have hP : va_P D cls (wX cI cS a na nc N (mkL tw l_s l_t l_i l_kp l_iz l_z l_tp x0 l_o1 l_o2 l_o3 r48349 l_n1 l_n2 l_n3) u) H := hP
  have hD : va_D A (wX cI cS a na nc N (mkL tw l_s l_t l_i l_kp l_iz l_z l_tp x0 l_o1 l_o2 l_o3 r48349 l_n1 l_n2 l_n3) u) := hD
  refine lv_iconst (v := 0) hx hb dX6_become_19 (by decide) ?_
  refine lv_istore_n (lv' := [(3, .int 0), (0, .ref (a 26)), (1, .int x0), (2, .int x1)]) hx hb dX6_become_20 rfl hl (by decide) rfl (fun ls hl => ?_)
  exact lp21 41 (0 : Int32) r48349 u _ _ ls (by decide : Rg 0 40 (0 : Int32)) hr48349.1 (show (0 ≤ x1.toInt → x1.toInt ≤ 40 → r48349.toInt = x1.toInt) from by have y90 : Rg 0 12 l_s := p_s; have y91 : Rg 0 12 l_t := p_t; have y92 : Rg 0 12 l_i := p_i; have y93 : Rg 0 120 l_tp := p_tp; have y94 : Rg 0 40 r48349 := hr48349.1; have y95 : Rg 0 40 l_n1 := p_n1; have y96 : Rg 0 40 l_n2 := p_n2; have y97 : Rg 0 40 l_n3 := p_n3; have y9c8 : (0 : Int32).toInt = 0 := (by decide); have y9c9 : (1 : Int32).toInt = 1 := (by decide); have y9c10 : (40 : Int32).toInt = 40 := (by decide); omega) hP hD hS (lv_sub (l' := [(0, .ref (a 26)), (3, .int 0)]) hl [1, 0] rfl) (me_i (by decide : Rg 0 40 (0 : Int32)) (by decide))
set_option maxRecDepth 20000 in
theorem ggX9_writeTo_X6_become : GoodIn wsX9_writeTo wsX6_become := goodIn_r _ [7, 8, 9, 10, 11, 12, 13, 14, 15, 16, 17, 35, 36, 37] rfl (by decide +kernel)
set_option maxRecDepth 20000 in
theorem gX9_writeTo_X6_become : GoodIn wsX9_writeTo (wsV RX9 52 RX6 yX6_become wsX6_become) := goodIn_app (goodIn_of _ (by decide +kernel)) ggX9_writeTo_X6_become
set_option maxRecDepth 20000 in
theorem ggX9_writeTo_X6_store : GoodIn wsX9_writeTo wsX6_store := goodIn_r _ [21, 17, 8, 22, 23, 24, 6, 25, 16, 35, 36, 37] rfl (by decide +kernel)
set_option maxRecDepth 20000 in
theorem gX9_writeTo_X6_store : GoodIn wsX9_writeTo (wsV RX9 56 RX6 yX6_store wsX6_store) := goodIn_app (goodIn_of _ (by decide +kernel)) ggX9_writeTo_X6_store
theorem dX9_writeTo_0 : decode cX9_writeTo 0 = .ok (.aload_n 1, 1) := by decide +kernel
theorem dX9_writeTo_1 : decode cX9_writeTo 1 = .ok (.iload_n 2, 1) := by decide +kernel
theorem dX9_writeTo_12 : decode cX9_writeTo 12 = .ok (.iconst 0, 1) := by decide +kernel
theorem dX9_writeTo_13 : decode cX9_writeTo 13 = .ok (.istore_n 3, 1) := by decide +kernel
theorem dX9_writeTo_14 : decode cX9_writeTo 14 = .ok (.iload_n 3, 1) := by decide +kernel
theorem dX9_writeTo_15 : decode cX9_writeTo 15 = .ok (.aload_n 0, 1) := by decide +kernel
theorem dX9_writeTo_16 : decode cX9_writeTo 16 = .ok (.getfield 21, 3) := by decide +kernel
theorem dX9_writeTo_19 : decode cX9_writeTo 19 = .ok (.getfield 41, 3) := by decide +kernel
theorem dX9_writeTo_2 : decode cX9_writeTo 2 = .ok (.aload_n 0, 1) := by decide +kernel
theorem dX9_writeTo_22 : decode cX9_writeTo 22 = .ok (.if_icmp .ge 20, 3) := by decide +kernel
theorem dX9_writeTo_25 : decode cX9_writeTo 25 = .ok (.aload_n 1, 1) := by decide +kernel
theorem dX9_writeTo_26 : decode cX9_writeTo 26 = .ok (.iload_n 3, 1) := by decide +kernel
theorem dX9_writeTo_27 : decode cX9_writeTo 27 = .ok (.aload_n 0, 1) := by decide +kernel
theorem dX9_writeTo_28 : decode cX9_writeTo 28 = .ok (.getfield 9, 3) := by decide +kernel
theorem dX9_writeTo_3 : decode cX9_writeTo 3 = .ok (.getfield 21, 3) := by decide +kernel
theorem dX9_writeTo_31 : decode cX9_writeTo 31 = .ok (.iload_n 3, 1) := by decide +kernel
theorem dX9_writeTo_32 : decode cX9_writeTo 32 = .ok (.iaload, 1) := by decide +kernel
theorem dX9_writeTo_33 : decode cX9_writeTo 33 = .ok (.invokevirtual 56, 3) := by decide +kernel
theorem dX9_writeTo_36 : decode cX9_writeTo 36 = .ok (.iinc 3 1, 3) := by decide +kernel
theorem dX9_writeTo_39 : decode cX9_writeTo 39 = .ok (.goto (-25), 3) := by decide +kernel
theorem dX9_writeTo_42 : decode cX9_writeTo 42 = .ok (.return_, 1) := by decide +kernel
theorem dX9_writeTo_6 : decode cX9_writeTo 6 = .ok (.getfield 41, 3) := by decide +kernel
theorem dX9_writeTo_9 : decode cX9_writeTo 9 = .ok (.invokevirtual 52, 3) := by decide +kernel
set_option maxHeartbeats 4000000 in
set_option maxRecDepth 100000 in
theorem k_X9_writeTo_0 (l : Launch) (D : va_G) (cI cS : ClassId) (sz : Nat) (a : Nat → Nat) (na nc N : Nat) (tw : SU) (l_s l_t l_i l_kp l_iz l_z l_tp l_o0 l_o1 l_o2 l_o3 l_n0 l_n1 l_n2 l_n3 : Int32) (u0 : SU) (hL : TyX (mkL tw l_s l_t l_i l_kp l_iz l_z l_tp l_o0 l_o1 l_o2 l_o3 l_n0 l_n1 l_n2 l_n3)) (hN : N = 0 ∨ N = 24576) (x0 : Int32) : Met l yX9_writeTo wsX9_writeTo ({ frames := 2, cells := 0, slots := 0, locals := 80 }) (PQ D cI cS (wX cI cS a na nc N (mkL tw l_s l_t l_i l_kp l_iz l_z l_tp l_o0 l_o1 l_o2 l_o3 l_n0 l_n1 l_n2 l_n3) u0) sz [.ref (a 34), .ref (a 26), .int x0]) (QE (S := Int32 × Int32 × SU) D (wX cI cS a na nc N (mkL tw l_s l_t l_i l_kp l_iz l_z l_tp l_o0 l_o1 l_o2 l_o3 l_n0 l_n1 l_n2 l_n3) u0) (fun q => wX cI cS a na nc N (mkL tw l_s l_t l_i l_kp l_iz l_z l_tp q.1 l_o1 l_o2 l_o3 q.2.1 l_n1 l_n2 l_n3) q.2.2) sz (fun q => Rg 0 40 q.2.1 ∧ (q.1.toInt = x0.toInt ∧ q.2.1.toInt = l_s.toInt))) 0 0 (va_A (wX cI cS a na nc N (mkL tw l_s l_t l_i l_kp l_iz l_z l_tp l_o0 l_o1 l_o2 l_o3 l_n0 l_n1 l_n2 l_n3) u0) sz) := by
  refine Met.ofW (cc := cX9_writeTo) (maxL := 4) (ret := none) (by decide) rfl ?_
  intro p e s m args below meth c s₁ B hml hv
  obtain ⟨rfl, hsz, hP, hKK, hD0⟩ := hv
  have hx := B.exec
  have hb := B.bytes
  have hr := B.returns
  have hts := atoms_spec (ws := wsX9_writeTo) B.pre
  have hown : s.vm.findClass RX9 = some m.cls := findClass_of_methodNamed B.named
  have hlocks := B.notSynchronized
  have hK := hKK.1
  have hin2 : ∀ w ∈ wsX20, w ∈ wsX9_writeTo := by decide +kernel
  have hin9 : ∀ w ∈ wsX90, w ∈ wsX9_writeTo := by decide +kernel
  subst hsz
  have hD := hD0.self (sz := s.heap.size)
  obtain ⟨A, hAe⟩ : ∃ A, A = va_A (wX cI cS a na nc N (mkL tw l_s l_t l_i l_kp l_iz l_z l_tp l_o0 l_o1 l_o2 l_o3 l_n0 l_n1 l_n2 l_n3) u0) s.heap.size := ⟨_, rfl⟩
  rw [← hAe] at hD
  have hA : ∀ q : Nat, s.heap.size ≤ q → A q := fun q h => by rw [hAe]; exact Or.inr h
  have hS : va_S A s.heap s.heap [] := va_S.rf
  have hl := lv_entry ([.ref (a 34), .ref (a 26), .int x0]) (n := 4) (Nat.le_of_ble_eq_true rfl)
  rw [lg_entry_eq]
  generalize (lg_sl ([.ref (a 34), .ref (a 26), .int x0]) ++ List.replicate (4 - (lg_sl ([.ref (a 34), .ref (a 26), .int x0])).length) Slot.unset).toArray = ls at hl ⊢
  have hl : lv_has ls 4 [(0, .ref (a 34)), (1, .ref (a 26)), (2, .int x0)] := hl
  obtain ⟨u, hu9⟩ : ∃ u : SU, u = u0 := ⟨_, rfl⟩
  rw [← hu9] at hP hD
  have p_s : Rg 0 12 l_s := hL.1
  have p_t : Rg 0 12 l_t := hL.2.1
  have p_i : Rg 0 12 l_i := hL.2.2.1
  have p_tp : Rg 0 120 l_tp := hL.2.2.2.1
  have p_n0 : Rg 0 40 l_n0 := hL.2.2.2.2.1
  have p_n1 : Rg 0 40 l_n1 := hL.2.2.2.2.2.1
  have p_n2 : Rg 0 40 l_n2 := hL.2.2.2.2.2.2.1
  have p_n3 : Rg 0 40 l_n3 := hL.2.2.2.2.2.2.2
  have lp14 : ∀ (n14 : Nat) (y14_l3 : Int32) (y14_ko0 : Int32) (y14_kn0 : Int32) (u : SU) (H : Heap) (locs : List Loc) (ls : Array Slot), Rg 0 12 y14_l3 → Rg 0 40 y14_kn0 → (y14_ko0.toInt = x0.toInt ∧ y14_kn0.toInt = l_s.toInt) → va_P D cls (wX cI cS a na nc N (mkL tw l_s l_t l_i l_kp l_iz l_z l_tp y14_ko0 l_o1 l_o2 l_o3 y14_kn0 l_n1 l_n2 l_n3) u) H → va_D A (wX cI cS a na nc N (mkL tw l_s l_t l_i l_kp l_iz l_z l_tp y14_ko0 l_o1 l_o2 l_o3 y14_kn0 l_n1 l_n2 l_n3) u) → va_S A s.heap H locs → lv_has ls 4 [(0, .ref (a 34)), (1, .ref (a 26)), (3, .int y14_l3)] → 12 - y14_l3.toInt < (n14 : Int) → W p l e (headSpec wsX9_writeTo ({ frames := 2, cells := 0, slots := 0, locals := 80 })).room s m ([.ref (a 34), .ref (a 26), .int x0]).toArray below meth c H locs 0 0 (MQ below (QE (S := Int32 × Int32 × SU) D (wX cI cS a na nc N (mkL tw l_s l_t l_i l_kp l_iz l_z l_tp l_o0 l_o1 l_o2 l_o3 l_n0 l_n1 l_n2 l_n3) u0) (fun q => wX cI cS a na nc N (mkL tw l_s l_t l_i l_kp l_iz l_z l_tp q.1 l_o1 l_o2 l_o3 q.2.1 l_n1 l_n2 l_n3) q.2.2) s.heap.size (fun q => Rg 0 40 q.2.1 ∧ (q.1.toInt = x0.toInt ∧ q.2.1.toInt = l_s.toInt))) ([.ref (a 34), .ref (a 26), .int x0]).toArray s 0 0 (va_A (wX cI cS a na nc N (mkL tw l_s l_t l_i l_kp l_iz l_z l_tp l_o0 l_o1 l_o2 l_o3 l_n0 l_n1 l_n2 l_n3) u0) s.heap.size)) (F0 m 14 ls []) := by
    intro n14
    induction n14 with
    | zero =>
      intro y14_l3 y14_ko0 y14_kn0 u H locs ls g14_l3 g14_kn0 x14_0 hP hD hS hl hm14
      exact absurd rfl (me_z g14_l3 hm14)
    | succ n14 ih14 =>
      intro y14_l3 y14_ko0 y14_kn0 u H locs ls g14_l3 g14_kn0 x14_0 hP hD hS hl hm14
      refine lv_iload_n hx hb dX9_writeTo_14 rfl (lv_at hl 2 rfl) ?_
      refine lv_aload_n hx hb dX9_writeTo_15 rfl (lv_at hl 0 rfl) ?_
      refine va_get (D := D) (ci := 9) (v := .ref (a 1)) (C := RX9) (T := TX9) (N := 6) hx hb hts hin9 hown hK hP 34 rfl rfl 0 (by decide) (hts (.fieldLink RX9 21 "MissedPoints$Told" "net" "LMissedPoints$Net;") (by decide +kernel)) (fun _ h9 => h9) rfl dX9_writeTo_16 ?_
      refine va_getN (D := D) (ci := 2) (v := .int l_s) (C := RX2) (T := TX2) (N := 3) hx hb hts hin2 hown hK hP 1 rfl rfl 1 (by decide) (va_Nw.use rfl hKK.2.2.2.2.2.2.2.2.2.2.2.2.2.2.2.2.1) (fun _ h9 => h9) rfl dX9_writeTo_19 ?_
      refine lv_icmp_ge (tgt := 42) hx hb dX9_writeTo_22 (by decide) (fun c48431 => ?_) (fun c48431 => ?_)
      · subst hAe
        exact W.vret hx hb hr (fun t ht hW => ⟨⟨(y14_ko0, y14_kn0, u), rfl, ⟨g14_kn0, (show y14_ko0.toInt = x0.toInt ∧ y14_kn0.toInt = l_s.toInt from by have y90 : l_s.toInt ≤ y14_l3.toInt := (lz_le _ _).mp c48431; have y91 : Rg 0 12 y14_l3 := g14_l3; have y92 : Rg 0 12 l_s := p_s; have y93 : Rg 0 12 l_t := p_t; have y94 : Rg 0 12 l_i := p_i; have y95 : Rg 0 120 l_tp := p_tp; have y96 : Rg 0 40 y14_kn0 := g14_kn0; have y97 : Rg 0 40 l_n1 := p_n1; have y98 : Rg 0 40 l_n2 := p_n2; have y99 : Rg 0 40 l_n3 := p_n3; have y9c10 : (0 : Int32).toInt = 0 := (by decide); have y9c11 : (1 : Int32).toInt = 1 := (by decide); omega)⟩, by rw [ht]; exact hP, hD⟩, hS.F ht⟩) hS.2.2 dX9_writeTo_42
      · have g48432 : Rg 1 12 l_s := rg_ltr g14_l3 p_s (rg_nle c48431) (by decide)
        have g48433 : Rg 0 11 y14_l3 := rg_ltl g14_l3 p_s (rg_nle c48431) (by decide)
        refine lv_aload_n hx hb dX9_writeTo_25 rfl (lv_at hl 1 rfl) ?_
        refine lv_iload_n hx hb dX9_writeTo_26 rfl (lv_at hl 2 rfl) ?_
        refine lv_aload_n hx hb dX9_writeTo_27 rfl (lv_at hl 0 rfl) ?_
        refine va_get (D := D) (ci := 9) (v := .ref (a 35)) (C := RX9) (T := TX9) (N := 6) hx hb hts hin9 hown hK hP 34 rfl rfl 2 (by decide) (hts (.fieldLink RX9 9 "MissedPoints$Told" "mates" "[I") (by decide +kernel)) (fun _ h9 => h9) rfl dX9_writeTo_28 ?_
        refine lv_iload_n hx hb dX9_writeTo_31 rfl (lv_at hl 2 rfl) ?_
        refine wk_aldA hx hb hK hP 35 0 rfl rfl (rg_in g48433 (by decide) (by decide)) dX9_writeTo_32 (fun r48434 => ?_)
        refine wk_qv (wX cI cS a na nc N (mkL tw l_s l_t l_i l_kp l_iz l_z l_tp y14_ko0 l_o1 l_o2 l_o3 y14_kn0 l_n1 l_n2 l_n3)) u (As := [.int y14_l3, .int r48434]) (rest := []) ⟨hx, hb, hml, hown, hts⟩ (k_X6_store l D cI cS _ a na nc N (mkL tw l_s l_t l_i l_kp l_iz l_z l_tp y14_ko0 l_o1 l_o2 l_o3 y14_kn0 l_n1 l_n2 l_n3) u (show TyX (mkL tw l_s l_t l_i l_kp l_iz l_z l_tp y14_ko0 l_o1 l_o2 l_o3 y14_kn0 l_n1 l_n2 l_n3) from ⟨(show Rg 0 12 l_s from rg_w g48432 (by decide) (by decide)), p_t, p_i, p_tp, g14_kn0, p_n1, p_n2, p_n3⟩) hN 0 (by decide) y14_l3 r48434) hKK hP hD hS hA 26 (ci := 6) rfl rfl (cwV 2 hts gX9_writeTo_X6_store rfl rfl rfl (by decide +kernel) ⟨Nat.le_of_ble_eq_true rfl, Nat.le_of_ble_eq_true rfl⟩) rfl hl.1 rfl (Nat.le_of_ble_eq_true rfl) dX9_writeTo_33 ⟨Nat.le_of_ble_eq_true rfl, Nat.le_of_ble_eq_true rfl⟩ (fun u H locs hr48435 hP hD hS => ?_)
        refine wk_iinc (lv' := fun r => [(3, .int r), (0, .ref (a 34)), (1, .ref (a 26))]) (e1 := 1) (f := 12) hx hb dX9_writeTo_36 hl (k := 2) rfl (by decide) g48433 (by decide) (fun _ => rfl) (fun r48436 ls hr48436 er48436 hl => ?_)
        refine lv_goto (tgt := 14) hx hb dX9_writeTo_39 (by decide) ?_
        exact ih14 r48436 y14_ko0 y14_kn0 u _ _ ls (show Rg 0 12 r48436 from rg_w hr48436 (by decide) (by decide)) g14_kn0 (show (y14_ko0.toInt = x0.toInt ∧ y14_kn0.toInt = l_s.toInt) from by have y90 : y14_l3.toInt < l_s.toInt := (lz_lt _ _).mp (rg_nle c48431); have y91 : Rg 1 12 l_s := g48432; have y92 : Rg 0 11 y14_l3 := g48433; have y93 : Rg 1 12 r48436 := hr48436; have y94 : Rg 1 12 l_s := g48432; have y95 : Rg 0 12 l_t := p_t; have y96 : Rg 0 12 l_i := p_i; have y97 : Rg 0 120 l_tp := p_tp; have y98 : Rg 0 40 y14_kn0 := g14_kn0; have y99 : Rg 0 40 l_n1 := p_n1; have y910 : Rg 0 40 l_n2 := p_n2; have y911 : Rg 0 40 l_n3 := p_n3; have y9c12 : (0 : Int32).toInt = 0 := (by decide); have y9c13 : (1 : Int32).toInt = 1 := (by decide); omega) hP hD hS (lv_sub (l' := [(0, .ref (a 34)), (1, .ref (a 26)), (3, .int r48436)]) hl [1, 2, 0] rfl) (me_up hm14 er48436 (by decide))
  refine lv_aload_n hx hb dX9_writeTo_0 rfl (lv_at hl 1 rfl) ?_
  refine lv_iload_n hx hb dX9_writeTo_1 rfl (lv_at hl 2 rfl) ?_
  refine lv_aload_n hx hb dX9_writeTo_2 rfl (lv_at hl 0 rfl) ?_
  refine va_get (D := D) (ci := 9) (v := .ref (a 1)) (C := RX9) (T := TX9) (N := 6) hx hb hts hin9 hown hK hP 34 rfl rfl 0 (by decide) (hts (.fieldLink RX9 21 "MissedPoints$Told" "net" "LMissedPoints$Net;") (by decide +kernel)) (fun _ h9 => h9) rfl dX9_writeTo_3 ?_
  refine va_getN (D := D) (ci := 2) (v := .int l_s) (C := RX2) (T := TX2) (N := 3) hx hb hts hin2 hown hK hP 1 rfl rfl 1 (by decide) (va_Nw.use rfl hKK.2.2.2.2.2.2.2.2.2.2.2.2.2.2.2.2.1) (fun _ h9 => h9) rfl dX9_writeTo_6 ?_
  refine wk_qv (S := Int32 × Int32 × SU) (fun q => wX cI cS a na nc N (mkL tw l_s l_t l_i l_kp l_iz l_z l_tp q.1 l_o1 l_o2 l_o3 q.2.1 l_n1 l_n2 l_n3) q.2.2) (l_o0, l_n0, u) (As := [.int x0, .int l_s]) (rest := []) ⟨hx, hb, hml, hown, hts⟩ (k_X6_become_0 l D cI cS _ a na nc N tw l_s l_t l_i l_kp l_iz l_z l_tp l_o0 l_o1 l_o2 l_o3 l_n0 l_n1 l_n2 l_n3 u (show TyX (mkL tw l_s l_t l_i l_kp l_iz l_z l_tp l_o0 l_o1 l_o2 l_o3 l_n0 l_n1 l_n2 l_n3) from ⟨p_s, p_t, p_i, p_tp, p_n0, p_n1, p_n2, p_n3⟩) hN x0 l_s) hKK hP hD hS hA 26 (ci := 6) rfl rfl (cwV 2 hts gX9_writeTo_X6_become rfl rfl rfl (by decide +kernel) ⟨Nat.le_of_ble_eq_true rfl, Nat.le_of_ble_eq_true rfl⟩) rfl hl.1 rfl (Nat.le_of_ble_eq_true rfl) dX9_writeTo_9 ⟨Nat.le_of_ble_eq_true rfl, Nat.le_of_ble_eq_true rfl⟩ (fun q9 H locs hr48437 hP hD hS => ?_)
  obtain ⟨r48438, r48439, u⟩ := q9
  have hr48437 : Rg 0 40 r48439 ∧ (r48438.toInt = x0.toInt ∧ (0 ≤ l_s.toInt → l_s.toInt ≤ 40 → r48439.toInt = l_s.toInt)) := hr48437
  have hP : va_P D cls (wX cI cS a na nc N (mkL tw l_s l_t l_i l_kp l_iz l_z l_tp r48438 l_o1 l_o2 l_o3 r48439 l_n1 l_n2 l_n3) u) H := hP
  have hD : va_D A (wX cI cS a na nc N (mkL tw l_s l_t l_i l_kp l_iz l_z l_tp r48438 l_o1 l_o2 l_o3 r48439 l_n1 l_n2 l_n3) u) := hD
  have kr48437_0 := hr48437.2
  refine lv_iconst (v := 0) hx hb dX9_writeTo_12 (by decide) ?_
  refine lv_istore_n (lv' := [(3, .int 0), (0, .ref (a 34)), (1, .ref (a 26)), (2, .int x0)]) hx hb dX9_writeTo_13 rfl hl (by decide) rfl (fun ls hl => ?_)
  exact lp14 13 (0 : Int32) r48438 r48439 u _ _ ls (by decide : Rg 0 12 (0 : Int32)) hr48437.1 (show (r48438.toInt = x0.toInt ∧ r48439.toInt = l_s.toInt) from by have y90 : Rg 0 12 l_s := p_s; have y91 : Rg 0 12 l_t := p_t; have y92 : Rg 0 12 l_i := p_i; have y93 : Rg 0 120 l_tp := p_tp; have y94 : Rg 0 40 r48439 := hr48437.1; have y95 : Rg 0 40 l_n1 := p_n1; have y96 : Rg 0 40 l_n2 := p_n2; have y97 : Rg 0 40 l_n3 := p_n3; have y9c8 : (0 : Int32).toInt = 0 := (by decide); have y9c9 : (1 : Int32).toInt = 1 := (by decide); omega) hP hD hS (lv_sub (l' := [(0, .ref (a 34)), (1, .ref (a 26)), (3, .int 0)]) hl [1, 2, 0] rfl) (me_i (by decide : Rg 0 12 (0 : Int32)) (by decide))
set_option maxHeartbeats 4000000 in
set_option maxRecDepth 100000 in
theorem k_X6_become_1 (l : Launch) (D : va_G) (cI cS : ClassId) (sz : Nat) (a : Nat → Nat) (na nc N : Nat) (tw : SU) (l_s l_t l_i l_kp l_iz l_z l_tp l_o0 l_o1 l_o2 l_o3 l_n0 l_n1 l_n2 l_n3 : Int32) (u0 : SU) (hL : TyX (mkL tw l_s l_t l_i l_kp l_iz l_z l_tp l_o0 l_o1 l_o2 l_o3 l_n0 l_n1 l_n2 l_n3)) (hN : N = 0 ∨ N = 24576) (x0 x1 : Int32) : Met l yX6_become wsX6_become ({ frames := 1, cells := 0, slots := 0, locals := 40 }) (PQ D cI cS (wX cI cS a na nc N (mkL tw l_s l_t l_i l_kp l_iz l_z l_tp l_o0 l_o1 l_o2 l_o3 l_n0 l_n1 l_n2 l_n3) u0) sz [.ref (a 28), .int x0, .int x1]) (QE (S := Int32 × Int32 × SU) D (wX cI cS a na nc N (mkL tw l_s l_t l_i l_kp l_iz l_z l_tp l_o0 l_o1 l_o2 l_o3 l_n0 l_n1 l_n2 l_n3) u0) (fun q => wX cI cS a na nc N (mkL tw l_s l_t l_i l_kp l_iz l_z l_tp l_o0 q.1 l_o2 l_o3 l_n0 q.2.1 l_n2 l_n3) q.2.2) sz (fun q => Rg 0 40 q.2.1 ∧ (q.1.toInt = x0.toInt ∧ (0 ≤ x1.toInt → x1.toInt ≤ 40 → q.2.1.toInt = x1.toInt)))) 0 0 (va_A (wX cI cS a na nc N (mkL tw l_s l_t l_i l_kp l_iz l_z l_tp l_o0 l_o1 l_o2 l_o3 l_n0 l_n1 l_n2 l_n3) u0) sz) := by
  refine Met.ofW (cc := cX6_become) (maxL := 4) (ret := none) (by decide) rfl ?_
  intro p e s m args below meth c s₁ B hml hv
  obtain ⟨rfl, hsz, hP, hKK, hD0⟩ := hv
  have hx := B.exec
  have hb := B.bytes
  have hr := B.returns
  have hts := atoms_spec (ws := wsX6_become) B.pre
  have hown : s.vm.findClass RX6 = some m.cls := findClass_of_methodNamed B.named
  have hlocks := B.notSynchronized
  have hK := hKK.1
  have hin6 : ∀ w ∈ wsX60, w ∈ wsX6_become := by decide +kernel
  subst hsz
  have hD := hD0.self (sz := s.heap.size)
  obtain ⟨A, hAe⟩ : ∃ A, A = va_A (wX cI cS a na nc N (mkL tw l_s l_t l_i l_kp l_iz l_z l_tp l_o0 l_o1 l_o2 l_o3 l_n0 l_n1 l_n2 l_n3) u0) s.heap.size := ⟨_, rfl⟩
  rw [← hAe] at hD
  have hA : ∀ q : Nat, s.heap.size ≤ q → A q := fun q h => by rw [hAe]; exact Or.inr h
  have hS : va_S A s.heap s.heap [] := va_S.rf
  have hl := lv_entry ([.ref (a 28), .int x0, .int x1]) (n := 4) (Nat.le_of_ble_eq_true rfl)
  rw [lg_entry_eq]
  generalize (lg_sl ([.ref (a 28), .int x0, .int x1]) ++ List.replicate (4 - (lg_sl ([.ref (a 28), .int x0, .int x1])).length) Slot.unset).toArray = ls at hl ⊢
  have hl : lv_has ls 4 [(0, .ref (a 28)), (1, .int x0), (2, .int x1)] := hl
  obtain ⟨u, hu9⟩ : ∃ u : SU, u = u0 := ⟨_, rfl⟩
  rw [← hu9] at hP hD
  have p_s : Rg 0 12 l_s := hL.1
  have p_t : Rg 0 12 l_t := hL.2.1
  have p_i : Rg 0 12 l_i := hL.2.2.1
  have p_tp : Rg 0 120 l_tp := hL.2.2.2.1
  have p_n0 : Rg 0 40 l_n0 := hL.2.2.2.2.1
  have p_n1 : Rg 0 40 l_n1 := hL.2.2.2.2.2.1
  have p_n2 : Rg 0 40 l_n2 := hL.2.2.2.2.2.2.1
  have p_n3 : Rg 0 40 l_n3 := hL.2.2.2.2.2.2.2
  have lp21 : ∀ (n21 : Nat) (y21_l3 : Int32) (y21_kn1 : Int32) (u : SU) (H : Heap) (locs : List Loc) (ls : Array Slot), Rg 0 40 y21_l3 → Rg 0 40 y21_kn1 → (0 ≤ x1.toInt → x1.toInt ≤ 40 → y21_kn1.toInt = x1.toInt) → va_P D cls (wX cI cS a na nc N (mkL tw l_s l_t l_i l_kp l_iz l_z l_tp l_o0 x0 l_o2 l_o3 l_n0 y21_kn1 l_n2 l_n3) u) H → va_D A (wX cI cS a na nc N (mkL tw l_s l_t l_i l_kp l_iz l_z l_tp l_o0 x0 l_o2 l_o3 l_n0 y21_kn1 l_n2 l_n3) u) → va_S A s.heap H locs → lv_has ls 4 [(0, .ref (a 28)), (3, .int y21_l3)] → 40 - y21_l3.toInt < (n21 : Int) → W p l e (headSpec wsX6_become ({ frames := 1, cells := 0, slots := 0, locals := 40 })).room s m ([.ref (a 28), .int x0, .int x1]).toArray below meth c H locs 0 0 (MQ below (QE (S := Int32 × Int32 × SU) D (wX cI cS a na nc N (mkL tw l_s l_t l_i l_kp l_iz l_z l_tp l_o0 l_o1 l_o2 l_o3 l_n0 l_n1 l_n2 l_n3) u0) (fun q => wX cI cS a na nc N (mkL tw l_s l_t l_i l_kp l_iz l_z l_tp l_o0 q.1 l_o2 l_o3 l_n0 q.2.1 l_n2 l_n3) q.2.2) s.heap.size (fun q => Rg 0 40 q.2.1 ∧ (q.1.toInt = x0.toInt ∧ (0 ≤ x1.toInt → x1.toInt ≤ 40 → q.2.1.toInt = x1.toInt)))) ([.ref (a 28), .int x0, .int x1]).toArray s 0 0 (va_A (wX cI cS a na nc N (mkL tw l_s l_t l_i l_kp l_iz l_z l_tp l_o0 l_o1 l_o2 l_o3 l_n0 l_n1 l_n2 l_n3) u0) s.heap.size)) (F0 m 21 ls []) := by
    intro n21
    induction n21 with
    | zero =>
      intro y21_l3 y21_kn1 u H locs ls g21_l3 g21_kn1 x21_0 hP hD hS hl hm21
      exact absurd rfl (me_z g21_l3 hm21)
    | succ n21 ih21 =>
      intro y21_l3 y21_kn1 u H locs ls g21_l3 g21_kn1 x21_0 hP hD hS hl hm21
      refine lv_iload_n hx hb dX6_become_21 rfl (lv_at hl 1 rfl) ?_
      refine lv_bipush (v := 40) hx hb dX6_become_22 (by decide) ?_
      refine lv_icmp_ge (tgt := 40) hx hb dX6_become_24 (by decide) (fun c48498 => ?_) (fun c48498 => ?_)
      · have g48499 : Rg 40 40 y21_l3 := rg_ler (by decide : Rg 40 40 (40 : Int32)) g21_l3 c48498 (by decide)
        subst hAe
        exact W.vret hx hb hr (fun t ht hW => ⟨⟨(x0, y21_kn1, u), rfl, ⟨g21_kn1, (show x0.toInt = x0.toInt ∧ (0 ≤ x1.toInt → x1.toInt ≤ 40 → y21_kn1.toInt = x1.toInt) from by have y90 : (40 : Int32).toInt ≤ y21_l3.toInt := (lz_le _ _).mp c48498; have y91 : Rg 40 40 y21_l3 := g48499; have y92 : Rg 40 40 y21_l3 := g48499; have y93 : Rg 0 12 l_s := p_s; have y94 : Rg 0 12 l_t := p_t; have y95 : Rg 0 12 l_i := p_i; have y96 : Rg 0 120 l_tp := p_tp; have y97 : Rg 0 40 l_n0 := p_n0; have y98 : Rg 0 40 y21_kn1 := g21_kn1; have y99 : Rg 0 40 l_n2 := p_n2; have y910 : Rg 0 40 l_n3 := p_n3; have y9c11 : (0 : Int32).toInt = 0 := (by decide); have y9c12 : (1 : Int32).toInt = 1 := (by decide); have y9c13 : (40 : Int32).toInt = 40 := (by decide); omega)⟩, by rw [ht]; exact hP, hD⟩, hS.F ht⟩) hS.2.2 dX6_become_40
      · have g48500 : Rg 0 39 y21_l3 := rg_ltl g21_l3 (by decide : Rg 40 40 (40 : Int32)) (rg_nle c48498) (by decide)
        refine lv_aload_n hx hb dX6_become_27 rfl (lv_at hl 0 rfl) ?_
        refine va_get (D := D) (ci := 6) (v := .ref (a 29)) (C := RX6) (T := TX6) (N := 3) hx hb hts hin6 hown hK hP 28 rfl rfl 0 (by decide) (hts (.fieldLink RX6 9 "MissedPoints$Sheet" "numbers" "[I") (by decide +kernel)) (fun _ h9 => h9) rfl dX6_become_28 ?_
        refine lv_iload_n hx hb dX6_become_31 rfl (lv_at hl 1 rfl) ?_
        refine lv_iconst (v := 0) hx hb dX6_become_32 (by decide) ?_
        refine ks_ast hx hb hK hP hD hS rfl (k := 29) rfl sx_29 (rg_in g48500 (by decide) (by decide)) dX6_become_33 (fun u H locs hP hD hS => ?_)
        refine wk_iinc (lv' := fun r => [(3, .int r), (0, .ref (a 28))]) (e1 := 1) (f := 40) hx hb dX6_become_34 hl (k := 1) rfl (by decide) g48500 (by decide) (fun _ => rfl) (fun r48501 ls hr48501 er48501 hl => ?_)
        refine lv_goto (tgt := 21) hx hb dX6_become_37 (by decide) ?_
        exact ih21 r48501 y21_kn1 u _ _ ls (show Rg 0 40 r48501 from rg_w hr48501 (by decide) (by decide)) g21_kn1 (show (0 ≤ x1.toInt → x1.toInt ≤ 40 → y21_kn1.toInt = x1.toInt) from by have y90 : y21_l3.toInt < (40 : Int32).toInt := (lz_lt _ _).mp (rg_nle c48498); have y91 : Rg 0 39 y21_l3 := g48500; have y92 : Rg 1 40 r48501 := hr48501; have y93 : Rg 0 12 l_s := p_s; have y94 : Rg 0 12 l_t := p_t; have y95 : Rg 0 12 l_i := p_i; have y96 : Rg 0 120 l_tp := p_tp; have y97 : Rg 0 40 l_n0 := p_n0; have y98 : Rg 0 40 y21_kn1 := g21_kn1; have y99 : Rg 0 40 l_n2 := p_n2; have y910 : Rg 0 40 l_n3 := p_n3; have y9c11 : (0 : Int32).toInt = 0 := (by decide); have y9c12 : (1 : Int32).toInt = 1 := (by decide); have y9c13 : (40 : Int32).toInt = 40 := (by decide); omega) hP hD hS (lv_sub (l' := [(0, .ref (a 28)), (3, .int r48501)]) hl [1, 0] rfl) (me_up hm21 er48501 (by decide))
  refine lv_aload_n hx hb dX6_become_0 rfl (lv_at hl 0 rfl) ?_
  refine lv_iload_n hx hb dX6_become_1 rfl (lv_at hl 1 rfl) ?_
  refine va_put (D := D) (ci := 6) (v := .int x0) (ty := .int) (C := RX6) (T := TX6) (N := 3) hx hb hts hin6 tyX6 tyX6_ok nmX6 hown hK hP hD hS 28 rfl rfl 1 (by decide) (hts (.fieldLink RX6 15 "MissedPoints$Sheet" "sort" "I") (by decide +kernel)) (fun _ h9 => h9) rfl (by decide +kernel) rfl rfl (Nat.le_of_ble_eq_true rfl) dX6_become_2 (fun H locs hP hD hS => ?_)
  have hP : va_P D cls (wX cI cS a na nc N (mkL tw l_s l_t l_i l_kp l_iz l_z l_tp l_o0 x0 l_o2 l_o3 l_n0 l_n1 l_n2 l_n3) u) H := hP
  have hD : va_D A (wX cI cS a na nc N (mkL tw l_s l_t l_i l_kp l_iz l_z l_tp l_o0 x0 l_o2 l_o3 l_n0 l_n1 l_n2 l_n3) u) := hD
  refine lv_aload_n hx hb dX6_become_5 rfl (lv_at hl 0 rfl) ?_
  refine lv_iconst (v := 0) hx hb dX6_become_6 (by decide) ?_
  refine lv_iload_n hx hb dX6_become_7 rfl (lv_at hl 2 rfl) ?_
  refine lv_bipush (v := 40) hx hb dX6_become_8 (by decide) ?_
  refine va_mmin hx hb (by rw [hml]; exact hl.1.symm) hown (hts (.methodLink RX6 19 Lib.Math.min.name) (by decide +kernel)) (hts (.static Lib.Math.min.name) (by decide +kernel)) (hts (.initialized "java/lang/Math") (by decide +kernel)) (hts (.code Lib.Math.min.name Lib.Math.min.code 2 (some .int)) (by decide +kernel)) (Nat.le_of_ble_eq_true rfl) (Nat.le_of_ble_eq_true rfl) (Nat.le_of_ble_eq_true rfl) (Nat.le_of_ble_eq_true rfl) dX6_become_10 ?_
  refine wk_topP (P := fun r => Rg (-2147483648) 40 r ∧ (r.toInt ≤ x1.toInt ∧ r.toInt ≤ (40 : Int32).toInt) ∧ (r.toInt = x1.toInt ∨ r.toInt = (40 : Int32).toInt)) ⟨wk_min (rg_any x1) (by decide : Rg 40 40 (40 : Int32)) (by decide), ⟨⟨wk_minE.1, wk_minE.2.1⟩, wk_minE.2.2⟩⟩ (fun r48502 hr48502 => ?_)
  refine va_mmax hx hb (by rw [hml]; exact hl.1.symm) hown (hts (.methodLink RX6 25 Lib.Math.max.name) (by decide +kernel)) (hts (.static Lib.Math.max.name) (by decide +kernel)) (hts (.initialized "java/lang/Math") (by decide +kernel)) (hts (.code Lib.Math.max.name Lib.Math.max.code 2 (some .int)) (by decide +kernel)) (Nat.le_of_ble_eq_true rfl) (Nat.le_of_ble_eq_true rfl) (Nat.le_of_ble_eq_true rfl) (Nat.le_of_ble_eq_true rfl) dX6_become_13 ?_
  refine wk_topP (P := fun r => Rg 0 40 r ∧ ((0 : Int32).toInt ≤ r.toInt ∧ r48502.toInt ≤ r.toInt) ∧ (r.toInt = (0 : Int32).toInt ∨ r.toInt = r48502.toInt)) ⟨wk_max (by decide : Rg 0 0 (0 : Int32)) hr48502.1 (by decide), ⟨⟨wk_maxE.1, wk_maxE.2.1⟩, wk_maxE.2.2⟩⟩ (fun r48503 hr48503 => ?_)
  refine va_put (D := D) (ci := 6) (v := .int r48503) (ty := .int) (C := RX6) (T := TX6) (N := 3) hx hb hts hin6 tyX6 tyX6_ok nmX6 hown hK hP hD hS 28 rfl rfl 2 (by decide) (hts (.fieldLink RX6 28 "MissedPoints$Sheet" "size" "I") (by decide +kernel)) (fun _ h9 => h9) rfl (by decide +kernel) rfl rfl (Nat.le_of_ble_eq_true rfl) dX6_become_16 (fun H locs hP hD hS => ?_)
  have hP : va_P D cls (wX cI cS a na nc N (mkL tw l_s l_t l_i l_kp l_iz l_z l_tp l_o0 x0 l_o2 l_o3 l_n0 r48503 l_n2 l_n3) u) H := hP
  have hD : va_D A (wX cI cS a na nc N (mkL tw l_s l_t l_i l_kp l_iz l_z l_tp l_o0 x0 l_o2 l_o3 l_n0 r48503 l_n2 l_n3) u) := hD
  refine lv_iconst (v := 0) hx hb dX6_become_19 (by decide) ?_
  refine lv_istore_n (lv' := [(3, .int 0), (0, .ref (a 28)), (1, .int x0), (2, .int x1)]) hx hb dX6_become_20 rfl hl (by decide) rfl (fun ls hl => ?_)
  exact lp21 41 (0 : Int32) r48503 u _ _ ls (by decide : Rg 0 40 (0 : Int32)) hr48503.1 (show (0 ≤ x1.toInt → x1.toInt ≤ 40 → r48503.toInt = x1.toInt) from by have y90 : Rg 0 12 l_s := p_s; have y91 : Rg 0 12 l_t := p_t; have y92 : Rg 0 12 l_i := p_i; have y93 : Rg 0 120 l_tp := p_tp; have y94 : Rg 0 40 l_n0 := p_n0; have y95 : Rg 0 40 r48503 := hr48503.1; have y96 : Rg 0 40 l_n2 := p_n2; have y97 : Rg 0 40 l_n3 := p_n3; have y9c8 : (0 : Int32).toInt = 0 := (by decide); have y9c9 : (1 : Int32).toInt = 1 := (by decide); have y9c10 : (40 : Int32).toInt = 40 := (by decide); omega) hP hD hS (lv_sub (l' := [(0, .ref (a 28)), (3, .int 0)]) hl [1, 0] rfl) (me_i (by decide : Rg 0 40 (0 : Int32)) (by decide))
set_option maxHeartbeats 4000000 in
set_option maxRecDepth 100000 in
theorem k_X9_writeTo_1 (l : Launch) (D : va_G) (cI cS : ClassId) (sz : Nat) (a : Nat → Nat) (na nc N : Nat) (tw : SU) (l_s l_t l_i l_kp l_iz l_z l_tp l_o0 l_o1 l_o2 l_o3 l_n0 l_n1 l_n2 l_n3 : Int32) (u0 : SU) (hL : TyX (mkL tw l_s l_t l_i l_kp l_iz l_z l_tp l_o0 l_o1 l_o2 l_o3 l_n0 l_n1 l_n2 l_n3)) (hN : N = 0 ∨ N = 24576) (x0 : Int32) : Met l yX9_writeTo wsX9_writeTo ({ frames := 2, cells := 0, slots := 0, locals := 80 }) (PQ D cI cS (wX cI cS a na nc N (mkL tw l_s l_t l_i l_kp l_iz l_z l_tp l_o0 l_o1 l_o2 l_o3 l_n0 l_n1 l_n2 l_n3) u0) sz [.ref (a 34), .ref (a 28), .int x0]) (QE (S := Int32 × Int32 × SU) D (wX cI cS a na nc N (mkL tw l_s l_t l_i l_kp l_iz l_z l_tp l_o0 l_o1 l_o2 l_o3 l_n0 l_n1 l_n2 l_n3) u0) (fun q => wX cI cS a na nc N (mkL tw l_s l_t l_i l_kp l_iz l_z l_tp l_o0 q.1 l_o2 l_o3 l_n0 q.2.1 l_n2 l_n3) q.2.2) sz (fun q => Rg 0 40 q.2.1 ∧ (q.1.toInt = x0.toInt ∧ q.2.1.toInt = l_s.toInt))) 0 0 (va_A (wX cI cS a na nc N (mkL tw l_s l_t l_i l_kp l_iz l_z l_tp l_o0 l_o1 l_o2 l_o3 l_n0 l_n1 l_n2 l_n3) u0) sz) := by
  refine Met.ofW (cc := cX9_writeTo) (maxL := 4) (ret := none) (by decide) rfl ?_
  intro p e s m args below meth c s₁ B hml hv
  obtain ⟨rfl, hsz, hP, hKK, hD0⟩ := hv
  have hx := B.exec
  have hb := B.bytes
  have hr := B.returns
  have hts := atoms_spec (ws := wsX9_writeTo) B.pre
  have hown : s.vm.findClass RX9 = some m.cls := findClass_of_methodNamed B.named
  have hlocks := B.notSynchronized
  have hK := hKK.1
  have hin2 : ∀ w ∈ wsX20, w ∈ wsX9_writeTo := by decide +kernel
  have hin9 : ∀ w ∈ wsX90, w ∈ wsX9_writeTo := by decide +kernel
  subst hsz
  have hD := hD0.self (sz := s.heap.size)
  obtain ⟨A, hAe⟩ : ∃ A, A = va_A (wX cI cS a na nc N (mkL tw l_s l_t l_i l_kp l_iz l_z l_tp l_o0 l_o1 l_o2 l_o3 l_n0 l_n1 l_n2 l_n3) u0) s.heap.size := ⟨_, rfl⟩
  rw [← hAe] at hD
  have hA : ∀ q : Nat, s.heap.size ≤ q → A q := fun q h => by rw [hAe]; exact Or.inr h
  have hS : va_S A s.heap s.heap [] := va_S.rf
  have hl := lv_entry ([.ref (a 34), .ref (a 28), .int x0]) (n := 4) (Nat.le_of_ble_eq_true rfl)
  rw [lg_entry_eq]
  generalize (lg_sl ([.ref (a 34), .ref (a 28), .int x0]) ++ List.replicate (4 - (lg_sl ([.ref (a 34), .ref (a 28), .int x0])).length) Slot.unset).toArray = ls at hl ⊢
  have hl : lv_has ls 4 [(0, .ref (a 34)), (1, .ref (a 28)), (2, .int x0)] := hl
  obtain ⟨u, hu9⟩ : ∃ u : SU, u = u0 := ⟨_, rfl⟩
  rw [← hu9] at hP hD
  have p_s : Rg 0 12 l_s := hL.1
  have p_t : Rg 0 12 l_t := hL.2.1
  have p_i : Rg 0 12 l_i := hL.2.2.1
  have p_tp : Rg 0 120 l_tp := hL.2.2.2.1
  have p_n0 : Rg 0 40 l_n0 := hL.2.2.2.2.1
  have p_n1 : Rg 0 40 l_n1 := hL.2.2.2.2.2.1
  have p_n2 : Rg 0 40 l_n2 := hL.2.2.2.2.2.2.1
  have p_n3 : Rg 0 40 l_n3 := hL.2.2.2.2.2.2.2
  have lp14 : ∀ (n14 : Nat) (y14_l3 : Int32) (y14_ko1 : Int32) (y14_kn1 : Int32) (u : SU) (H : Heap) (locs : List Loc) (ls : Array Slot), Rg 0 12 y14_l3 → Rg 0 40 y14_kn1 → (y14_ko1.toInt = x0.toInt ∧ y14_kn1.toInt = l_s.toInt) → va_P D cls (wX cI cS a na nc N (mkL tw l_s l_t l_i l_kp l_iz l_z l_tp l_o0 y14_ko1 l_o2 l_o3 l_n0 y14_kn1 l_n2 l_n3) u) H → va_D A (wX cI cS a na nc N (mkL tw l_s l_t l_i l_kp l_iz l_z l_tp l_o0 y14_ko1 l_o2 l_o3 l_n0 y14_kn1 l_n2 l_n3) u) → va_S A s.heap H locs → lv_has ls 4 [(0, .ref (a 34)), (1, .ref (a 28)), (3, .int y14_l3)] → 12 - y14_l3.toInt < (n14 : Int) → W p l e (headSpec wsX9_writeTo ({ frames := 2, cells := 0, slots := 0, locals := 80 })).room s m ([.ref (a 34), .ref (a 28), .int x0]).toArray below meth c H locs 0 0 (MQ below (QE (S := Int32 × Int32 × SU) D (wX cI cS a na nc N (mkL tw l_s l_t l_i l_kp l_iz l_z l_tp l_o0 l_o1 l_o2 l_o3 l_n0 l_n1 l_n2 l_n3) u0) (fun q => wX cI cS a na nc N (mkL tw l_s l_t l_i l_kp l_iz l_z l_tp l_o0 q.1 l_o2 l_o3 l_n0 q.2.1 l_n2 l_n3) q.2.2) s.heap.size (fun q => Rg 0 40 q.2.1 ∧ (q.1.toInt = x0.toInt ∧ q.2.1.toInt = l_s.toInt))) ([.ref (a 34), .ref (a 28), .int x0]).toArray s 0 0 (va_A (wX cI cS a na nc N (mkL tw l_s l_t l_i l_kp l_iz l_z l_tp l_o0 l_o1 l_o2 l_o3 l_n0 l_n1 l_n2 l_n3) u0) s.heap.size)) (F0 m 14 ls []) := by
    intro n14
    induction n14 with
    | zero =>
      intro y14_l3 y14_ko1 y14_kn1 u H locs ls g14_l3 g14_kn1 x14_0 hP hD hS hl hm14
      exact absurd rfl (me_z g14_l3 hm14)
    | succ n14 ih14 =>
      intro y14_l3 y14_ko1 y14_kn1 u H locs ls g14_l3 g14_kn1 x14_0 hP hD hS hl hm14
      refine lv_iload_n hx hb dX9_writeTo_14 rfl (lv_at hl 2 rfl) ?_
      refine lv_aload_n hx hb dX9_writeTo_15 rfl (lv_at hl 0 rfl) ?_
      refine va_get (D := D) (ci := 9) (v := .ref (a 1)) (C := RX9) (T := TX9) (N := 6) hx hb hts hin9 hown hK hP 34 rfl rfl 0 (by decide) (hts (.fieldLink RX9 21 "MissedPoints$Told" "net" "LMissedPoints$Net;") (by decide +kernel)) (fun _ h9 => h9) rfl dX9_writeTo_16 ?_
      refine va_getN (D := D) (ci := 2) (v := .int l_s) (C := RX2) (T := TX2) (N := 3) hx hb hts hin2 hown hK hP 1 rfl rfl 1 (by decide) (va_Nw.use rfl hKK.2.2.2.2.2.2.2.2.2.2.2.2.2.2.2.2.1) (fun _ h9 => h9) rfl dX9_writeTo_19 ?_
      refine lv_icmp_ge (tgt := 42) hx hb dX9_writeTo_22 (by decide) (fun c48585 => ?_) (fun c48585 => ?_)
      · subst hAe
        exact W.vret hx hb hr (fun t ht hW => ⟨⟨(y14_ko1, y14_kn1, u), rfl, ⟨g14_kn1, (show y14_ko1.toInt = x0.toInt ∧ y14_kn1.toInt = l_s.toInt from by have y90 : l_s.toInt ≤ y14_l3.toInt := (lz_le _ _).mp c48585; have y91 : Rg 0 12 y14_l3 := g14_l3; have y92 : Rg 0 12 l_s := p_s; have y93 : Rg 0 12 l_t := p_t; have y94 : Rg 0 12 l_i := p_i; have y95 : Rg 0 120 l_tp := p_tp; have y96 : Rg 0 40 l_n0 := p_n0; have y97 : Rg 0 40 y14_kn1 := g14_kn1; have y98 : Rg 0 40 l_n2 := p_n2; have y99 : Rg 0 40 l_n3 := p_n3; have y9c10 : (0 : Int32).toInt = 0 := (by decide); have y9c11 : (1 : Int32).toInt = 1 := (by decide); omega)⟩, by rw [ht]; exact hP, hD⟩, hS.F ht⟩) hS.2.2 dX9_writeTo_42
      · have g48586 : Rg 1 12 l_s := rg_ltr g14_l3 p_s (rg_nle c48585) (by decide)
        have g48587 : Rg 0 11 y14_l3 := rg_ltl g14_l3 p_s (rg_nle c48585) (by decide)
        refine lv_aload_n hx hb dX9_writeTo_25 rfl (lv_at hl 1 rfl) ?_
        refine lv_iload_n hx hb dX9_writeTo_26 rfl (lv_at hl 2 rfl) ?_
        refine lv_aload_n hx hb dX9_writeTo_27 rfl (lv_at hl 0 rfl) ?_
        refine va_get (D := D) (ci := 9) (v := .ref (a 35)) (C := RX9) (T := TX9) (N := 6) hx hb hts hin9 hown hK hP 34 rfl rfl 2 (by decide) (hts (.fieldLink RX9 9 "MissedPoints$Told" "mates" "[I") (by decide +kernel)) (fun _ h9 => h9) rfl dX9_writeTo_28 ?_
        refine lv_iload_n hx hb dX9_writeTo_31 rfl (lv_at hl 2 rfl) ?_
        refine wk_aldA hx hb hK hP 35 0 rfl rfl (rg_in g48587 (by decide) (by decide)) dX9_writeTo_32 (fun r48588 => ?_)
        refine wk_qv (wX cI cS a na nc N (mkL tw l_s l_t l_i l_kp l_iz l_z l_tp l_o0 y14_ko1 l_o2 l_o3 l_n0 y14_kn1 l_n2 l_n3)) u (As := [.int y14_l3, .int r48588]) (rest := []) ⟨hx, hb, hml, hown, hts⟩ (k_X6_store l D cI cS _ a na nc N (mkL tw l_s l_t l_i l_kp l_iz l_z l_tp l_o0 y14_ko1 l_o2 l_o3 l_n0 y14_kn1 l_n2 l_n3) u (show TyX (mkL tw l_s l_t l_i l_kp l_iz l_z l_tp l_o0 y14_ko1 l_o2 l_o3 l_n0 y14_kn1 l_n2 l_n3) from ⟨(show Rg 0 12 l_s from rg_w g48586 (by decide) (by decide)), p_t, p_i, p_tp, p_n0, g14_kn1, p_n2, p_n3⟩) hN 1 (by decide) y14_l3 r48588) hKK hP hD hS hA 28 (ci := 6) rfl rfl (cwV 2 hts gX9_writeTo_X6_store rfl rfl rfl (by decide +kernel) ⟨Nat.le_of_ble_eq_true rfl, Nat.le_of_ble_eq_true rfl⟩) rfl hl.1 rfl (Nat.le_of_ble_eq_true rfl) dX9_writeTo_33 ⟨Nat.le_of_ble_eq_true rfl, Nat.le_of_ble_eq_true rfl⟩ (fun u H locs hr48589 hP hD hS => ?_)
        refine wk_iinc (lv' := fun r => [(3, .int r), (0, .ref (a 34)), (1, .ref (a 28))]) (e1 := 1) (f := 12) hx hb dX9_writeTo_36 hl (k := 2) rfl (by decide) g48587 (by decide) (fun _ => rfl) (fun r48590 ls hr48590 er48590 hl => ?_)
        refine lv_goto (tgt := 14) hx hb dX9_writeTo_39 (by decide) ?_
        exact ih14 r48590 y14_ko1 y14_kn1 u _ _ ls (show Rg 0 12 r48590 from rg_w hr48590 (by decide) (by decide)) g14_kn1 (show (y14_ko1.toInt = x0.toInt ∧ y14_kn1.toInt = l_s.toInt) from by have y90 : y14_l3.toInt < l_s.toInt := (lz_lt _ _).mp (rg_nle c48585); have y91 : Rg 1 12 l_s := g48586; have y92 : Rg 0 11 y14_l3 := g48587; have y93 : Rg 1 12 r48590 := hr48590; have y94 : Rg 1 12 l_s := g48586; have y95 : Rg 0 12 l_t := p_t; have y96 : Rg 0 12 l_i := p_i; have y97 : Rg 0 120 l_tp := p_tp; have y98 : Rg 0 40 l_n0 := p_n0; have y99 : Rg 0 40 y14_kn1 := g14_kn1; have y910 : Rg 0 40 l_n2 := p_n2; have y911 : Rg 0 40 l_n3 := p_n3; have y9c12 : (0 : Int32).toInt = 0 := (by decide); have y9c13 : (1 : Int32).toInt = 1 := (by decide); omega) hP hD hS (lv_sub (l' := [(0, .ref (a 34)), (1, .ref (a 28)), (3, .int r48590)]) hl [1, 2, 0] rfl) (me_up hm14 er48590 (by decide))
  refine lv_aload_n hx hb dX9_writeTo_0 rfl (lv_at hl 1 rfl) ?_
  refine lv_iload_n hx hb dX9_writeTo_1 rfl (lv_at hl 2 rfl) ?_
  refine lv_aload_n hx hb dX9_writeTo_2 rfl (lv_at hl 0 rfl) ?_
  refine va_get (D := D) (ci := 9) (v := .ref (a 1)) (C := RX9) (T := TX9) (N := 6) hx hb hts hin9 hown hK hP 34 rfl rfl 0 (by decide) (hts (.fieldLink RX9 21 "MissedPoints$Told" "net" "LMissedPoints$Net;") (by decide +kernel)) (fun _ h9 => h9) rfl dX9_writeTo_3 ?_
  refine va_getN (D := D) (ci := 2) (v := .int l_s) (C := RX2) (T := TX2) (N := 3) hx hb hts hin2 hown hK hP 1 rfl rfl 1 (by decide) (va_Nw.use rfl hKK.2.2.2.2.2.2.2.2.2.2.2.2.2.2.2.2.1) (fun _ h9 => h9) rfl dX9_writeTo_6 ?_
  refine wk_qv (S := Int32 × Int32 × SU) (fun q => wX cI cS a na nc N (mkL tw l_s l_t l_i l_kp l_iz l_z l_tp l_o0 q.1 l_o2 l_o3 l_n0 q.2.1 l_n2 l_n3) q.2.2) (l_o1, l_n1, u) (As := [.int x0, .int l_s]) (rest := []) ⟨hx, hb, hml, hown, hts⟩ (k_X6_become_1 l D cI cS _ a na nc N tw l_s l_t l_i l_kp l_iz l_z l_tp l_o0 l_o1 l_o2 l_o3 l_n0 l_n1 l_n2 l_n3 u (show TyX (mkL tw l_s l_t l_i l_kp l_iz l_z l_tp l_o0 l_o1 l_o2 l_o3 l_n0 l_n1 l_n2 l_n3) from ⟨p_s, p_t, p_i, p_tp, p_n0, p_n1, p_n2, p_n3⟩) hN x0 l_s) hKK hP hD hS hA 28 (ci := 6) rfl rfl (cwV 2 hts gX9_writeTo_X6_become rfl rfl rfl (by decide +kernel) ⟨Nat.le_of_ble_eq_true rfl, Nat.le_of_ble_eq_true rfl⟩) rfl hl.1 rfl (Nat.le_of_ble_eq_true rfl) dX9_writeTo_9 ⟨Nat.le_of_ble_eq_true rfl, Nat.le_of_ble_eq_true rfl⟩ (fun q9 H locs hr48591 hP hD hS => ?_)
  obtain ⟨r48592, r48593, u⟩ := q9
  have hr48591 : Rg 0 40 r48593 ∧ (r48592.toInt = x0.toInt ∧ (0 ≤ l_s.toInt → l_s.toInt ≤ 40 → r48593.toInt = l_s.toInt)) := hr48591
  have hP : va_P D cls (wX cI cS a na nc N (mkL tw l_s l_t l_i l_kp l_iz l_z l_tp l_o0 r48592 l_o2 l_o3 l_n0 r48593 l_n2 l_n3) u) H := hP
  have hD : va_D A (wX cI cS a na nc N (mkL tw l_s l_t l_i l_kp l_iz l_z l_tp l_o0 r48592 l_o2 l_o3 l_n0 r48593 l_n2 l_n3) u) := hD
  have kr48591_0 := hr48591.2
  refine lv_iconst (v := 0) hx hb dX9_writeTo_12 (by decide) ?_
  refine lv_istore_n (lv' := [(3, .int 0), (0, .ref (a 34)), (1, .ref (a 28)), (2, .int x0)]) hx hb dX9_writeTo_13 rfl hl (by decide) rfl (fun ls hl => ?_)
  exact lp14 13 (0 : Int32) r48592 r48593 u _ _ ls (by decide : Rg 0 12 (0 : Int32)) hr48591.1 (show (r48592.toInt = x0.toInt ∧ r48593.toInt = l_s.toInt) from by have y90 : Rg 0 12 l_s := p_s; have y91 : Rg 0 12 l_t := p_t; have y92 : Rg 0 12 l_i := p_i; have y93 : Rg 0 120 l_tp := p_tp; have y94 : Rg 0 40 l_n0 := p_n0; have y95 : Rg 0 40 r48593 := hr48591.1; have y96 : Rg 0 40 l_n2 := p_n2; have y97 : Rg 0 40 l_n3 := p_n3; have y9c8 : (0 : Int32).toInt = 0 := (by decide); have y9c9 : (1 : Int32).toInt = 1 := (by decide); omega) hP hD hS (lv_sub (l' := [(0, .ref (a 34)), (1, .ref (a 28)), (3, .int 0)]) hl [1, 2, 0] rfl) (me_i (by decide : Rg 0 12 (0 : Int32)) (by decide))
set_option maxHeartbeats 4000000 in
set_option maxRecDepth 100000 in
theorem k_X6_become_2 (l : Launch) (D : va_G) (cI cS : ClassId) (sz : Nat) (a : Nat → Nat) (na nc N : Nat) (tw : SU) (l_s l_t l_i l_kp l_iz l_z l_tp l_o0 l_o1 l_o2 l_o3 l_n0 l_n1 l_n2 l_n3 : Int32) (u0 : SU) (hL : TyX (mkL tw l_s l_t l_i l_kp l_iz l_z l_tp l_o0 l_o1 l_o2 l_o3 l_n0 l_n1 l_n2 l_n3)) (hN : N = 0 ∨ N = 24576) (x0 x1 : Int32) : Met l yX6_become wsX6_become ({ frames := 1, cells := 0, slots := 0, locals := 40 }) (PQ D cI cS (wX cI cS a na nc N (mkL tw l_s l_t l_i l_kp l_iz l_z l_tp l_o0 l_o1 l_o2 l_o3 l_n0 l_n1 l_n2 l_n3) u0) sz [.ref (a 30), .int x0, .int x1]) (QE (S := Int32 × Int32 × SU) D (wX cI cS a na nc N (mkL tw l_s l_t l_i l_kp l_iz l_z l_tp l_o0 l_o1 l_o2 l_o3 l_n0 l_n1 l_n2 l_n3) u0) (fun q => wX cI cS a na nc N (mkL tw l_s l_t l_i l_kp l_iz l_z l_tp l_o0 l_o1 q.1 l_o3 l_n0 l_n1 q.2.1 l_n3) q.2.2) sz (fun q => Rg 0 40 q.2.1 ∧ (q.1.toInt = x0.toInt ∧ (0 ≤ x1.toInt → x1.toInt ≤ 40 → q.2.1.toInt = x1.toInt)))) 0 0 (va_A (wX cI cS a na nc N (mkL tw l_s l_t l_i l_kp l_iz l_z l_tp l_o0 l_o1 l_o2 l_o3 l_n0 l_n1 l_n2 l_n3) u0) sz) := by
  refine Met.ofW (cc := cX6_become) (maxL := 4) (ret := none) (by decide) rfl ?_
  intro p e s m args below meth c s₁ B hml hv
  obtain ⟨rfl, hsz, hP, hKK, hD0⟩ := hv
  have hx := B.exec
  have hb := B.bytes
  have hr := B.returns
  have hts := atoms_spec (ws := wsX6_become) B.pre
  have hown : s.vm.findClass RX6 = some m.cls := findClass_of_methodNamed B.named
  have hlocks := B.notSynchronized
  have hK := hKK.1
  have hin6 : ∀ w ∈ wsX60, w ∈ wsX6_become := by decide +kernel
  subst hsz
  have hD := hD0.self (sz := s.heap.size)
  obtain ⟨A, hAe⟩ : ∃ A, A = va_A (wX cI cS a na nc N (mkL tw l_s l_t l_i l_kp l_iz l_z l_tp l_o0 l_o1 l_o2 l_o3 l_n0 l_n1 l_n2 l_n3) u0) s.heap.size := ⟨_, rfl⟩
  rw [← hAe] at hD
  have hA : ∀ q : Nat, s.heap.size ≤ q → A q := fun q h => by rw [hAe]; exact Or.inr h
  have hS : va_S A s.heap s.heap [] := va_S.rf
  have hl := lv_entry ([.ref (a 30), .int x0, .int x1]) (n := 4) (Nat.le_of_ble_eq_true rfl)
  rw [lg_entry_eq]
  generalize (lg_sl ([.ref (a 30), .int x0, .int x1]) ++ List.replicate (4 - (lg_sl ([.ref (a 30), .int x0, .int x1])).length) Slot.unset).toArray = ls at hl ⊢
  have hl : lv_has ls 4 [(0, .ref (a 30)), (1, .int x0), (2, .int x1)] := hl
  obtain ⟨u, hu9⟩ : ∃ u : SU, u = u0 := ⟨_, rfl⟩
  rw [← hu9] at hP hD
  have p_s : Rg 0 12 l_s := hL.1
  have p_t : Rg 0 12 l_t := hL.2.1
  have p_i : Rg 0 12 l_i := hL.2.2.1
  have p_tp : Rg 0 120 l_tp := hL.2.2.2.1
  have p_n0 : Rg 0 40 l_n0 := hL.2.2.2.2.1
  have p_n1 : Rg 0 40 l_n1 := hL.2.2.2.2.2.1
  have p_n2 : Rg 0 40 l_n2 := hL.2.2.2.2.2.2.1
  have p_n3 : Rg 0 40 l_n3 := hL.2.2.2.2.2.2.2
  have lp21 : ∀ (n21 : Nat) (y21_l3 : Int32) (y21_kn2 : Int32) (u : SU) (H : Heap) (locs : List Loc) (ls : Array Slot), Rg 0 40 y21_l3 → Rg 0 40 y21_kn2 → (0 ≤ x1.toInt → x1.toInt ≤ 40 → y21_kn2.toInt = x1.toInt) → va_P D cls (wX cI cS a na nc N (mkL tw l_s l_t l_i l_kp l_iz l_z l_tp l_o0 l_o1 x0 l_o3 l_n0 l_n1 y21_kn2 l_n3) u) H → va_D A (wX cI cS a na nc N (mkL tw l_s l_t l_i l_kp l_iz l_z l_tp l_o0 l_o1 x0 l_o3 l_n0 l_n1 y21_kn2 l_n3) u) → va_S A s.heap H locs → lv_has ls 4 [(0, .ref (a 30)), (3, .int y21_l3)] → 40 - y21_l3.toInt < (n21 : Int) → W p l e (headSpec wsX6_become ({ frames := 1, cells := 0, slots := 0, locals := 40 })).room s m ([.ref (a 30), .int x0, .int x1]).toArray below meth c H locs 0 0 (MQ below (QE (S := Int32 × Int32 × SU) D (wX cI cS a na nc N (mkL tw l_s l_t l_i l_kp l_iz l_z l_tp l_o0 l_o1 l_o2 l_o3 l_n0 l_n1 l_n2 l_n3) u0) (fun q => wX cI cS a na nc N (mkL tw l_s l_t l_i l_kp l_iz l_z l_tp l_o0 l_o1 q.1 l_o3 l_n0 l_n1 q.2.1 l_n3) q.2.2) s.heap.size (fun q => Rg 0 40 q.2.1 ∧ (q.1.toInt = x0.toInt ∧ (0 ≤ x1.toInt → x1.toInt ≤ 40 → q.2.1.toInt = x1.toInt)))) ([.ref (a 30), .int x0, .int x1]).toArray s 0 0 (va_A (wX cI cS a na nc N (mkL tw l_s l_t l_i l_kp l_iz l_z l_tp l_o0 l_o1 l_o2 l_o3 l_n0 l_n1 l_n2 l_n3) u0) s.heap.size)) (F0 m 21 ls []) := by
    intro n21
    induction n21 with
    | zero =>
      intro y21_l3 y21_kn2 u H locs ls g21_l3 g21_kn2 x21_0 hP hD hS hl hm21
      exact absurd rfl (me_z g21_l3 hm21)
    | succ n21 ih21 =>
      intro y21_l3 y21_kn2 u H locs ls g21_l3 g21_kn2 x21_0 hP hD hS hl hm21
      refine lv_iload_n hx hb dX6_become_21 rfl (lv_at hl 1 rfl) ?_
      refine lv_bipush (v := 40) hx hb dX6_become_22 (by decide) ?_
      refine lv_icmp_ge (tgt := 40) hx hb dX6_become_24 (by decide) (fun c48652 => ?_) (fun c48652 => ?_)
      · have g48653 : Rg 40 40 y21_l3 := rg_ler (by decide : Rg 40 40 (40 : Int32)) g21_l3 c48652 (by decide)
        subst hAe
        exact W.vret hx hb hr (fun t ht hW => ⟨⟨(x0, y21_kn2, u), rfl, ⟨g21_kn2, (show x0.toInt = x0.toInt ∧ (0 ≤ x1.toInt → x1.toInt ≤ 40 → y21_kn2.toInt = x1.toInt) from by have y90 : (40 : Int32).toInt ≤ y21_l3.toInt := (lz_le _ _).mp c48652; have y91 : Rg 40 40 y21_l3 := g48653; have y92 : Rg 40 40 y21_l3 := g48653; have y93 : Rg 0 12 l_s := p_s; have y94 : Rg 0 12 l_t := p_t; have y95 : Rg 0 12 l_i := p_i; have y96 : Rg 0 120 l_tp := p_tp; have y97 : Rg 0 40 l_n0 := p_n0; have y98 : Rg 0 40 l_n1 := p_n1; have y99 : Rg 0 40 y21_kn2 := g21_kn2; have y910 : Rg 0 40 l_n3 := p_n3; have y9c11 : (0 : Int32).toInt = 0 := (by decide); have y9c12 : (1 : Int32).toInt = 1 := (by decide); have y9c13 : (40 : Int32).toInt = 40 := (by decide); omega)⟩, by rw [ht]; exact hP, hD⟩, hS.F ht⟩) hS.2.2 dX6_become_40
      · have g48654 : Rg 0 39 y21_l3 := rg_ltl g21_l3 (by decide : Rg 40 40 (40 : Int32)) (rg_nle c48652) (by decide)
        refine lv_aload_n hx hb dX6_become_27 rfl (lv_at hl 0 rfl) ?_
        refine va_get (D := D) (ci := 6) (v := .ref (a 31)) (C := RX6) (T := TX6) (N := 3) hx hb hts hin6 hown hK hP 30 rfl rfl 0 (by decide) (hts (.fieldLink RX6 9 "MissedPoints$Sheet" "numbers" "[I") (by decide +kernel)) (fun _ h9 => h9) rfl dX6_become_28 ?_
        refine lv_iload_n hx hb dX6_become_31 rfl (lv_at hl 1 rfl) ?_
        refine lv_iconst (v := 0) hx hb dX6_become_32 (by decide) ?_
        refine ks_ast hx hb hK hP hD hS rfl (k := 31) rfl sx_31 (rg_in g48654 (by decide) (by decide)) dX6_become_33 (fun u H locs hP hD hS => ?_)
        refine wk_iinc (lv' := fun r => [(3, .int r), (0, .ref (a 30))]) (e1 := 1) (f := 40) hx hb dX6_become_34 hl (k := 1) rfl (by decide) g48654 (by decide) (fun _ => rfl) (fun r48655 ls hr48655 er48655 hl => ?_)
        refine lv_goto (tgt := 21) hx hb dX6_become_37 (by decide) ?_
        exact ih21 r48655 y21_kn2 u _ _ ls (show Rg 0 40 r48655 from rg_w hr48655 (by decide) (by decide)) g21_kn2 (show (0 ≤ x1.toInt → x1.toInt ≤ 40 → y21_kn2.toInt = x1.toInt) from by have y90 : y21_l3.toInt < (40 : Int32).toInt := (lz_lt _ _).mp (rg_nle c48652); have y91 : Rg 0 39 y21_l3 := g48654; have y92 : Rg 1 40 r48655 := hr48655; have y93 : Rg 0 12 l_s := p_s; have y94 : Rg 0 12 l_t := p_t; have y95 : Rg 0 12 l_i := p_i; have y96 : Rg 0 120 l_tp := p_tp; have y97 : Rg 0 40 l_n0 := p_n0; have y98 : Rg 0 40 l_n1 := p_n1; have y99 : Rg 0 40 y21_kn2 := g21_kn2; have y910 : Rg 0 40 l_n3 := p_n3; have y9c11 : (0 : Int32).toInt = 0 := (by decide); have y9c12 : (1 : Int32).toInt = 1 := (by decide); have y9c13 : (40 : Int32).toInt = 40 := (by decide); omega) hP hD hS (lv_sub (l' := [(0, .ref (a 30)), (3, .int r48655)]) hl [1, 0] rfl) (me_up hm21 er48655 (by decide))
  refine lv_aload_n hx hb dX6_become_0 rfl (lv_at hl 0 rfl) ?_
  refine lv_iload_n hx hb dX6_become_1 rfl (lv_at hl 1 rfl) ?_
  refine va_put (D := D) (ci := 6) (v := .int x0) (ty := .int) (C := RX6) (T := TX6) (N := 3) hx hb hts hin6 tyX6 tyX6_ok nmX6 hown hK hP hD hS 30 rfl rfl 1 (by decide) (hts (.fieldLink RX6 15 "MissedPoints$Sheet" "sort" "I") (by decide +kernel)) (fun _ h9 => h9) rfl (by decide +kernel) rfl rfl (Nat.le_of_ble_eq_true rfl) dX6_become_2 (fun H locs hP hD hS => ?_)
  have hP : va_P D cls (wX cI cS a na nc N (mkL tw l_s l_t l_i l_kp l_iz l_z l_tp l_o0 l_o1 x0 l_o3 l_n0 l_n1 l_n2 l_n3) u) H := hP
  have hD : va_D A (wX cI cS a na nc N (mkL tw l_s l_t l_i l_kp l_iz l_z l_tp l_o0 l_o1 x0 l_o3 l_n0 l_n1 l_n2 l_n3) u) := hD
  refine lv_aload_n hx hb dX6_become_5 rfl (lv_at hl 0 rfl) ?_
  refine lv_iconst (v := 0) hx hb dX6_become_6 (by decide) ?_
  refine lv_iload_n hx hb dX6_become_7 rfl (lv_at hl 2 rfl) ?_
  refine lv_bipush (v := 40) hx hb dX6_become_8 (by decide) ?_
  refine va_mmin hx hb (by rw [hml]; exact hl.1.symm) hown (hts (.methodLink RX6 19 Lib.Math.min.name) (by decide +kernel)) (hts (.static Lib.Math.min.name) (by decide +kernel)) (hts (.initialized "java/lang/Math") (by decide +kernel)) (hts (.code Lib.Math.min.name Lib.Math.min.code 2 (some .int)) (by decide +kernel)) (Nat.le_of_ble_eq_true rfl) (Nat.le_of_ble_eq_true rfl) (Nat.le_of_ble_eq_true rfl) (Nat.le_of_ble_eq_true rfl) dX6_become_10 ?_
  refine wk_topP (P := fun r => Rg (-2147483648) 40 r ∧ (r.toInt ≤ x1.toInt ∧ r.toInt ≤ (40 : Int32).toInt) ∧ (r.toInt = x1.toInt ∨ r.toInt = (40 : Int32).toInt)) ⟨wk_min (rg_any x1) (by decide : Rg 40 40 (40 : Int32)) (by decide), ⟨⟨wk_minE.1, wk_minE.2.1⟩, wk_minE.2.2⟩⟩ (fun r48656 hr48656 => ?_)
  refine va_mmax hx hb (by rw [hml]; exact hl.1.symm) hown (hts (.methodLink RX6 25 Lib.Math.max.name) (by decide +kernel)) (hts (.static Lib.Math.max.name) (by decide +kernel)) (hts (.initialized "java/lang/Math") (by decide +kernel)) (hts (.code Lib.Math.max.name Lib.Math.max.code 2 (some .int)) (by decide +kernel)) (Nat.le_of_ble_eq_true rfl) (Nat.le_of_ble_eq_true rfl) (Nat.le_of_ble_eq_true rfl) (Nat.le_of_ble_eq_true rfl) dX6_become_13 ?_
  refine wk_topP (P := fun r => Rg 0 40 r ∧ ((0 : Int32).toInt ≤ r.toInt ∧ r48656.toInt ≤ r.toInt) ∧ (r.toInt = (0 : Int32).toInt ∨ r.toInt = r48656.toInt)) ⟨wk_max (by decide : Rg 0 0 (0 : Int32)) hr48656.1 (by decide), ⟨⟨wk_maxE.1, wk_maxE.2.1⟩, wk_maxE.2.2⟩⟩ (fun r48657 hr48657 => ?_)
  refine va_put (D := D) (ci := 6) (v := .int r48657) (ty := .int) (C := RX6) (T := TX6) (N := 3) hx hb hts hin6 tyX6 tyX6_ok nmX6 hown hK hP hD hS 30 rfl rfl 2 (by decide) (hts (.fieldLink RX6 28 "MissedPoints$Sheet" "size" "I") (by decide +kernel)) (fun _ h9 => h9) rfl (by decide +kernel) rfl rfl (Nat.le_of_ble_eq_true rfl) dX6_become_16 (fun H locs hP hD hS => ?_)
  have hP : va_P D cls (wX cI cS a na nc N (mkL tw l_s l_t l_i l_kp l_iz l_z l_tp l_o0 l_o1 x0 l_o3 l_n0 l_n1 r48657 l_n3) u) H := hP
  have hD : va_D A (wX cI cS a na nc N (mkL tw l_s l_t l_i l_kp l_iz l_z l_tp l_o0 l_o1 x0 l_o3 l_n0 l_n1 r48657 l_n3) u) := hD
  refine lv_iconst (v := 0) hx hb dX6_become_19 (by decide) ?_
  refine lv_istore_n (lv' := [(3, .int 0), (0, .ref (a 30)), (1, .int x0), (2, .int x1)]) hx hb dX6_become_20 rfl hl (by decide) rfl (fun ls hl => ?_)
  exact lp21 41 (0 : Int32) r48657 u _ _ ls (by decide : Rg 0 40 (0 : Int32)) hr48657.1 (show (0 ≤ x1.toInt → x1.toInt ≤ 40 → r48657.toInt = x1.toInt) from by have y90 : Rg 0 12 l_s := p_s; have y91 : Rg 0 12 l_t := p_t; have y92 : Rg 0 12 l_i := p_i; have y93 : Rg 0 120 l_tp := p_tp; have y94 : Rg 0 40 l_n0 := p_n0; have y95 : Rg 0 40 l_n1 := p_n1; have y96 : Rg 0 40 r48657 := hr48657.1; have y97 : Rg 0 40 l_n3 := p_n3; have y9c8 : (0 : Int32).toInt = 0 := (by decide); have y9c9 : (1 : Int32).toInt = 1 := (by decide); have y9c10 : (40 : Int32).toInt = 40 := (by decide); omega) hP hD hS (lv_sub (l' := [(0, .ref (a 30)), (3, .int 0)]) hl [1, 0] rfl) (me_i (by decide : Rg 0 40 (0 : Int32)) (by decide))
set_option maxHeartbeats 4000000 in
set_option maxRecDepth 100000 in
theorem k_X9_writeTo_2 (l : Launch) (D : va_G) (cI cS : ClassId) (sz : Nat) (a : Nat → Nat) (na nc N : Nat) (tw : SU) (l_s l_t l_i l_kp l_iz l_z l_tp l_o0 l_o1 l_o2 l_o3 l_n0 l_n1 l_n2 l_n3 : Int32) (u0 : SU) (hL : TyX (mkL tw l_s l_t l_i l_kp l_iz l_z l_tp l_o0 l_o1 l_o2 l_o3 l_n0 l_n1 l_n2 l_n3)) (hN : N = 0 ∨ N = 24576) (x0 : Int32) : Met l yX9_writeTo wsX9_writeTo ({ frames := 2, cells := 0, slots := 0, locals := 80 }) (PQ D cI cS (wX cI cS a na nc N (mkL tw l_s l_t l_i l_kp l_iz l_z l_tp l_o0 l_o1 l_o2 l_o3 l_n0 l_n1 l_n2 l_n3) u0) sz [.ref (a 34), .ref (a 30), .int x0]) (QE (S := Int32 × Int32 × SU) D (wX cI cS a na nc N (mkL tw l_s l_t l_i l_kp l_iz l_z l_tp l_o0 l_o1 l_o2 l_o3 l_n0 l_n1 l_n2 l_n3) u0) (fun q => wX cI cS a na nc N (mkL tw l_s l_t l_i l_kp l_iz l_z l_tp l_o0 l_o1 q.1 l_o3 l_n0 l_n1 q.2.1 l_n3) q.2.2) sz (fun q => Rg 0 40 q.2.1 ∧ (q.1.toInt = x0.toInt ∧ q.2.1.toInt = l_s.toInt))) 0 0 (va_A (wX cI cS a na nc N (mkL tw l_s l_t l_i l_kp l_iz l_z l_tp l_o0 l_o1 l_o2 l_o3 l_n0 l_n1 l_n2 l_n3) u0) sz) := by
  refine Met.ofW (cc := cX9_writeTo) (maxL := 4) (ret := none) (by decide) rfl ?_
  intro p e s m args below meth c s₁ B hml hv
  obtain ⟨rfl, hsz, hP, hKK, hD0⟩ := hv
  have hx := B.exec
  have hb := B.bytes
  have hr := B.returns
  have hts := atoms_spec (ws := wsX9_writeTo) B.pre
  have hown : s.vm.findClass RX9 = some m.cls := findClass_of_methodNamed B.named
  have hlocks := B.notSynchronized
  have hK := hKK.1
  have hin2 : ∀ w ∈ wsX20, w ∈ wsX9_writeTo := by decide +kernel
  have hin9 : ∀ w ∈ wsX90, w ∈ wsX9_writeTo := by decide +kernel
  subst hsz
  have hD := hD0.self (sz := s.heap.size)
  obtain ⟨A, hAe⟩ : ∃ A, A = va_A (wX cI cS a na nc N (mkL tw l_s l_t l_i l_kp l_iz l_z l_tp l_o0 l_o1 l_o2 l_o3 l_n0 l_n1 l_n2 l_n3) u0) s.heap.size := ⟨_, rfl⟩
  rw [← hAe] at hD
  have hA : ∀ q : Nat, s.heap.size ≤ q → A q := fun q h => by rw [hAe]; exact Or.inr h
  have hS : va_S A s.heap s.heap [] := va_S.rf
  have hl := lv_entry ([.ref (a 34), .ref (a 30), .int x0]) (n := 4) (Nat.le_of_ble_eq_true rfl)
  rw [lg_entry_eq]
  generalize (lg_sl ([.ref (a 34), .ref (a 30), .int x0]) ++ List.replicate (4 - (lg_sl ([.ref (a 34), .ref (a 30), .int x0])).length) Slot.unset).toArray = ls at hl ⊢
  have hl : lv_has ls 4 [(0, .ref (a 34)), (1, .ref (a 30)), (2, .int x0)] := hl
  obtain ⟨u, hu9⟩ : ∃ u : SU, u = u0 := ⟨_, rfl⟩
  rw [← hu9] at hP hD
  have p_s : Rg 0 12 l_s := hL.1
  have p_t : Rg 0 12 l_t := hL.2.1
  have p_i : Rg 0 12 l_i := hL.2.2.1
  have p_tp : Rg 0 120 l_tp := hL.2.2.2.1
  have p_n0 : Rg 0 40 l_n0 := hL.2.2.2.2.1
  have p_n1 : Rg 0 40 l_n1 := hL.2.2.2.2.2.1
  have p_n2 : Rg 0 40 l_n2 := hL.2.2.2.2.2.2.1
  have p_n3 : Rg 0 40 l_n3 := hL.2.2.2.2.2.2.2
  have lp14 : ∀ (n14 : Nat) (y14_l3 : Int32) (y14_ko2 : Int32) (y14_kn2 : Int32) (u : SU) (H : Heap) (locs : List Loc) (ls : Array Slot), Rg 0 12 y14_l3 → Rg 0 40 y14_kn2 → (y14_ko2.toInt = x0.toInt ∧ y14_kn2.toInt = l_s.toInt) → va_P D cls (wX cI cS a na nc N (mkL tw l_s l_t l_i l_kp l_iz l_z l_tp l_o0 l_o1 y14_ko2 l_o3 l_n0 l_n1 y14_kn2 l_n3) u) H → va_D A (wX cI cS a na nc N (mkL tw l_s l_t l_i l_kp l_iz l_z l_tp l_o0 l_o1 y14_ko2 l_o3 l_n0 l_n1 y14_kn2 l_n3) u) → va_S A s.heap H locs → lv_has ls 4 [(0, .ref (a 34)), (1, .ref (a 30)), (3, .int y14_l3)] → 12 - y14_l3.toInt < (n14 : Int) → W p l e (headSpec wsX9_writeTo ({ frames := 2, cells := 0, slots := 0, locals := 80 })).room s m ([.ref (a 34), .ref (a 30), .int x0]).toArray below meth c H locs 0 0 (MQ below (QE (S := Int32 × Int32 × SU) D (wX cI cS a na nc N (mkL tw l_s l_t l_i l_kp l_iz l_z l_tp l_o0 l_o1 l_o2 l_o3 l_n0 l_n1 l_n2 l_n3) u0) (fun q => wX cI cS a na nc N (mkL tw l_s l_t l_i l_kp l_iz l_z l_tp l_o0 l_o1 q.1 l_o3 l_n0 l_n1 q.2.1 l_n3) q.2.2) s.heap.size (fun q => Rg 0 40 q.2.1 ∧ (q.1.toInt = x0.toInt ∧ q.2.1.toInt = l_s.toInt))) ([.ref (a 34), .ref (a 30), .int x0]).toArray s 0 0 (va_A (wX cI cS a na nc N (mkL tw l_s l_t l_i l_kp l_iz l_z l_tp l_o0 l_o1 l_o2 l_o3 l_n0 l_n1 l_n2 l_n3) u0) s.heap.size)) (F0 m 14 ls []) := by
    intro n14
    induction n14 with
    | zero =>
      intro y14_l3 y14_ko2 y14_kn2 u H locs ls g14_l3 g14_kn2 x14_0 hP hD hS hl hm14
      exact absurd rfl (me_z g14_l3 hm14)
    | succ n14 ih14 =>
      intro y14_l3 y14_ko2 y14_kn2 u H locs ls g14_l3 g14_kn2 x14_0 hP hD hS hl hm14
      refine lv_iload_n hx hb dX9_writeTo_14 rfl (lv_at hl 2 rfl) ?_
      refine lv_aload_n hx hb dX9_writeTo_15 rfl (lv_at hl 0 rfl) ?_
      refine va_get (D := D) (ci := 9) (v := .ref (a 1)) (C := RX9) (T := TX9) (N := 6) hx hb hts hin9 hown hK hP 34 rfl rfl 0 (by decide) (hts (.fieldLink RX9 21 "MissedPoints$Told" "net" "LMissedPoints$Net;") (by decide +kernel)) (fun _ h9 => h9) rfl dX9_writeTo_16 ?_
      refine va_getN (D := D) (ci := 2) (v := .int l_s) (C := RX2) (T := TX2) (N := 3) hx hb hts hin2 hown hK hP 1 rfl rfl 1 (by decide) (va_Nw.use rfl hKK.2.2.2.2.2.2.2.2.2.2.2.2.2.2.2.2.1) (fun _ h9 => h9) rfl dX9_writeTo_19 ?_
      refine lv_icmp_ge (tgt := 42) hx hb dX9_writeTo_22 (by decide) (fun c48739 => ?_) (fun c48739 => ?_)
      · subst hAe
        exact W.vret hx hb hr (fun t ht hW => ⟨⟨(y14_ko2, y14_kn2, u), rfl, ⟨g14_kn2, (show y14_ko2.toInt = x0.toInt ∧ y14_kn2.toInt = l_s.toInt from by have y90 : l_s.toInt ≤ y14_l3.toInt := (lz_le _ _).mp c48739; have y91 : Rg 0 12 y14_l3 := g14_l3; have y92 : Rg 0 12 l_s := p_s; have y93 : Rg 0 12 l_t := p_t; have y94 : Rg 0 12 l_i := p_i; have y95 : Rg 0 120 l_tp := p_tp; have y96 : Rg 0 40 l_n0 := p_n0; have y97 : Rg 0 40 l_n1 := p_n1; have y98 : Rg 0 40 y14_kn2 := g14_kn2; have y99 : Rg 0 40 l_n3 := p_n3; have y9c10 : (0 : Int32).toInt = 0 := (by decide); have y9c11 : (1 : Int32).toInt = 1 := (by decide); omega)⟩, by rw [ht]; exact hP, hD⟩, hS.F ht⟩) hS.2.2 dX9_writeTo_42
      · have g48740 : Rg 1 12 l_s := rg_ltr g14_l3 p_s (rg_nle c48739) (by decide)
        have g48741 : Rg 0 11 y14_l3 := rg_ltl g14_l3 p_s (rg_nle c48739) (by decide)
        refine lv_aload_n hx hb dX9_writeTo_25 rfl (lv_at hl 1 rfl) ?_
        refine lv_iload_n hx hb dX9_writeTo_26 rfl (lv_at hl 2 rfl) ?_
        refine lv_aload_n hx hb dX9_writeTo_27 rfl (lv_at hl 0 rfl) ?_
        refine va_get (D := D) (ci := 9) (v := .ref (a 35)) (C := RX9) (T := TX9) (N := 6) hx hb hts hin9 hown hK hP 34 rfl rfl 2 (by decide) (hts (.fieldLink RX9 9 "MissedPoints$Told" "mates" "[I") (by decide +kernel)) (fun _ h9 => h9) rfl dX9_writeTo_28 ?_
        refine lv_iload_n hx hb dX9_writeTo_31 rfl (lv_at hl 2 rfl) ?_
        refine wk_aldA hx hb hK hP 35 0 rfl rfl (rg_in g48741 (by decide) (by decide)) dX9_writeTo_32 (fun r48742 => ?_)
        refine wk_qv (wX cI cS a na nc N (mkL tw l_s l_t l_i l_kp l_iz l_z l_tp l_o0 l_o1 y14_ko2 l_o3 l_n0 l_n1 y14_kn2 l_n3)) u (As := [.int y14_l3, .int r48742]) (rest := []) ⟨hx, hb, hml, hown, hts⟩ (k_X6_store l D cI cS _ a na nc N (mkL tw l_s l_t l_i l_kp l_iz l_z l_tp l_o0 l_o1 y14_ko2 l_o3 l_n0 l_n1 y14_kn2 l_n3) u (show TyX (mkL tw l_s l_t l_i l_kp l_iz l_z l_tp l_o0 l_o1 y14_ko2 l_o3 l_n0 l_n1 y14_kn2 l_n3) from ⟨(show Rg 0 12 l_s from rg_w g48740 (by decide) (by decide)), p_t, p_i, p_tp, p_n0, p_n1, g14_kn2, p_n3⟩) hN 2 (by decide) y14_l3 r48742) hKK hP hD hS hA 30 (ci := 6) rfl rfl (cwV 2 hts gX9_writeTo_X6_store rfl rfl rfl (by decide +kernel) ⟨Nat.le_of_ble_eq_true rfl, Nat.le_of_ble_eq_true rfl⟩) rfl hl.1 rfl (Nat.le_of_ble_eq_true rfl) dX9_writeTo_33 ⟨Nat.le_of_ble_eq_true rfl, Nat.le_of_ble_eq_true rfl⟩ (fun u H locs hr48743 hP hD hS => ?_)
        refine wk_iinc (lv' := fun r => [(3, .int r), (0, .ref (a 34)), (1, .ref (a 30))]) (e1 := 1) (f := 12) hx hb dX9_writeTo_36 hl (k := 2) rfl (by decide) g48741 (by decide) (fun _ => rfl) (fun r48744 ls hr48744 er48744 hl => ?_)
        refine lv_goto (tgt := 14) hx hb dX9_writeTo_39 (by decide) ?_
        exact ih14 r48744 y14_ko2 y14_kn2 u _ _ ls (show Rg 0 12 r48744 from rg_w hr48744 (by decide) (by decide)) g14_kn2 (show (y14_ko2.toInt = x0.toInt ∧ y14_kn2.toInt = l_s.toInt) from by have y90 : y14_l3.toInt < l_s.toInt := (lz_lt _ _).mp (rg_nle c48739); have y91 : Rg 1 12 l_s := g48740; have y92 : Rg 0 11 y14_l3 := g48741; have y93 : Rg 1 12 r48744 := hr48744; have y94 : Rg 1 12 l_s := g48740; have y95 : Rg 0 12 l_t := p_t; have y96 : Rg 0 12 l_i := p_i; have y97 : Rg 0 120 l_tp := p_tp; have y98 : Rg 0 40 l_n0 := p_n0; have y99 : Rg 0 40 l_n1 := p_n1; have y910 : Rg 0 40 y14_kn2 := g14_kn2; have y911 : Rg 0 40 l_n3 := p_n3; have y9c12 : (0 : Int32).toInt = 0 := (by decide); have y9c13 : (1 : Int32).toInt = 1 := (by decide); omega) hP hD hS (lv_sub (l' := [(0, .ref (a 34)), (1, .ref (a 30)), (3, .int r48744)]) hl [1, 2, 0] rfl) (me_up hm14 er48744 (by decide))
  refine lv_aload_n hx hb dX9_writeTo_0 rfl (lv_at hl 1 rfl) ?_
  refine lv_iload_n hx hb dX9_writeTo_1 rfl (lv_at hl 2 rfl) ?_
  refine lv_aload_n hx hb dX9_writeTo_2 rfl (lv_at hl 0 rfl) ?_
  refine va_get (D := D) (ci := 9) (v := .ref (a 1)) (C := RX9) (T := TX9) (N := 6) hx hb hts hin9 hown hK hP 34 rfl rfl 0 (by decide) (hts (.fieldLink RX9 21 "MissedPoints$Told" "net" "LMissedPoints$Net;") (by decide +kernel)) (fun _ h9 => h9) rfl dX9_writeTo_3 ?_
  refine va_getN (D := D) (ci := 2) (v := .int l_s) (C := RX2) (T := TX2) (N := 3) hx hb hts hin2 hown hK hP 1 rfl rfl 1 (by decide) (va_Nw.use rfl hKK.2.2.2.2.2.2.2.2.2.2.2.2.2.2.2.2.1) (fun _ h9 => h9) rfl dX9_writeTo_6 ?_
  refine wk_qv (S := Int32 × Int32 × SU) (fun q => wX cI cS a na nc N (mkL tw l_s l_t l_i l_kp l_iz l_z l_tp l_o0 l_o1 q.1 l_o3 l_n0 l_n1 q.2.1 l_n3) q.2.2) (l_o2, l_n2, u) (As := [.int x0, .int l_s]) (rest := []) ⟨hx, hb, hml, hown, hts⟩ (k_X6_become_2 l D cI cS _ a na nc N tw l_s l_t l_i l_kp l_iz l_z l_tp l_o0 l_o1 l_o2 l_o3 l_n0 l_n1 l_n2 l_n3 u (show TyX (mkL tw l_s l_t l_i l_kp l_iz l_z l_tp l_o0 l_o1 l_o2 l_o3 l_n0 l_n1 l_n2 l_n3) from ⟨p_s, p_t, p_i, p_tp, p_n0, p_n1, p_n2, p_n3⟩) hN x0 l_s) hKK hP hD hS hA 30 (ci := 6) rfl rfl (cwV 2 hts gX9_writeTo_X6_become rfl rfl rfl (by decide +kernel) ⟨Nat.le_of_ble_eq_true rfl, Nat.le_of_ble_eq_true rfl⟩) rfl hl.1 rfl (Nat.le_of_ble_eq_true rfl) dX9_writeTo_9 ⟨Nat.le_of_ble_eq_true rfl, Nat.le_of_ble_eq_true rfl⟩ (fun q9 H locs hr48745 hP hD hS => ?_)
  obtain ⟨r48746, r48747, u⟩ := q9
  have hr48745 : Rg 0 40 r48747 ∧ (r48746.toInt = x0.toInt ∧ (0 ≤ l_s.toInt → l_s.toInt ≤ 40 → r48747.toInt = l_s.toInt)) := hr48745
  have hP : va_P D cls (wX cI cS a na nc N (mkL tw l_s l_t l_i l_kp l_iz l_z l_tp l_o0 l_o1 r48746 l_o3 l_n0 l_n1 r48747 l_n3) u) H := hP
  have hD : va_D A (wX cI cS a na nc N (mkL tw l_s l_t l_i l_kp l_iz l_z l_tp l_o0 l_o1 r48746 l_o3 l_n0 l_n1 r48747 l_n3) u) := hD
  have kr48745_0 := hr48745.2
  refine lv_iconst (v := 0) hx hb dX9_writeTo_12 (by decide) ?_
  refine lv_istore_n (lv' := [(3, .int 0), (0, .ref (a 34)), (1, .ref (a 30)), (2, .int x0)]) hx hb dX9_writeTo_13 rfl hl (by decide) rfl (fun ls hl => ?_)
  exact lp14 13 (0 : Int32) r48746 r48747 u _ _ ls (by decide : Rg 0 12 (0 : Int32)) hr48745.1 (show (r48746.toInt = x0.toInt ∧ r48747.toInt = l_s.toInt) from by have y90 : Rg 0 12 l_s := p_s; have y91 : Rg 0 12 l_t := p_t; have y92 : Rg 0 12 l_i := p_i; have y93 : Rg 0 120 l_tp := p_tp; have y94 : Rg 0 40 l_n0 := p_n0; have y95 : Rg 0 40 l_n1 := p_n1; have y96 : Rg 0 40 r48747 := hr48745.1; have y97 : Rg 0 40 l_n3 := p_n3; have y9c8 : (0 : Int32).toInt = 0 := (by decide); have y9c9 : (1 : Int32).toInt = 1 := (by decide); omega) hP hD hS (lv_sub (l' := [(0, .ref (a 34)), (1, .ref (a 30)), (3, .int 0)]) hl [1, 2, 0] rfl) (me_i (by decide : Rg 0 12 (0 : Int32)) (by decide))
