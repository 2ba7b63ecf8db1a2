theorem dX7_holdsThing_16 : decode cX7_holdsThing 16 = .ok (.iconst (-1), 1) := by decide +kernel
theorem dX7_holdsThing_34 : decode cX7_holdsThing 34 = .ok (.iload_n 3, 1) := by decide +kernel
theorem dX7_holdsThing_35 : decode cX7_holdsThing 35 = .ok (.iload_n 2, 1) := by decide +kernel
theorem dX7_holdsThing_36 : decode cX7_holdsThing 36 = .ok (.if_icmp .ne 5, 3) := by decide +kernel
theorem dX7_holdsThing_39 : decode cX7_holdsThing 39 = .ok (.iconst 1, 1) := by decide +kernel
theorem dX7_holdsThing_40 : decode cX7_holdsThing 40 = .ok (.ireturn, 1) := by decide +kernel
theorem dX7_holdsThing_41 : decode cX7_holdsThing 41 = .ok (.getstatic 25, 3) := by decide +kernel
theorem dX7_holdsThing_44 : decode cX7_holdsThing 44 = .ok (.iload_n 3, 1) := by decide +kernel
theorem dX7_holdsThing_45 : decode cX7_holdsThing 45 = .ok (.iaload, 1) := by decide +kernel
theorem dX7_holdsThing_46 : decode cX7_holdsThing 46 = .ok (.istore_n 3, 1) := by decide +kernel
theorem dX7_holdsThing_47 : decode cX7_holdsThing 47 = .ok (.iinc 4 1, 3) := by decide +kernel
theorem dX7_holdsThing_50 : decode cX7_holdsThing 50 = .ok (.goto (-29), 3) := by decide +kernel
set_option maxHeartbeats 4000000 in
set_option maxRecDepth 100000 in
theorem k_X7_holdsThing (l : Launch) (D : va_G) (cI cS : ClassId) (a : Nat → Nat) (na nc N : Nat) (L u : SU) (hL : TyX L) (hN : N = 0 ∨ N = 24576) (x0 x1 : Int32) : Met l yX7_holdsThing wsX7_holdsThing ({ frames := 1, cells := 0, slots := 0, locals := 40 }) (PT D cI cS (wX cI cS a na nc N L u) [.ref (a 42), .int x0, .int x1]) (vp_Si (fun r => Rg 0 1 r ∧ (r ≠ 0 → Rg 0 5 x1))) 0 0 (fun _ => False) := by
  refine Met.ofW (cc := cX7_holdsThing) (maxL := 5) (ret := (some .boolean)) (by decide) rfl ?_
  intro p e s m args below meth c s₁ B hml hv
  obtain ⟨rfl, hP, hKK, hAB⟩ := hv
  obtain ⟨t9, f9, hZ, hT⟩ := id hAB
  have hx := B.exec
  have hb := B.bytes
  have hr := B.returns
  have hts := atoms_spec (ws := wsX7_holdsThing) B.pre
  have hown : s.vm.findClass RX7 = some m.cls := findClass_of_methodNamed B.named
  have hlocks := B.notSynchronized
  have hK := hKK.1
  have hin7 : ∀ w ∈ wsX70, w ∈ wsX7_holdsThing := by decide +kernel
  have hl := lv_entry ([.ref (a 42), .int x0, .int x1]) (n := 5) (Nat.le_of_ble_eq_true rfl)
  rw [lg_entry_eq]
  generalize (lg_sl ([.ref (a 42), .int x0, .int x1]) ++ List.replicate (5 - (lg_sl ([.ref (a 42), .int x0, .int x1])).length) Slot.unset).toArray = ls at hl ⊢
  have hl : lv_has ls 5 [(0, .ref (a 42)), (1, .int x0), (2, .int x1)] := hl
  have lp21 : ∀ (n21 : Nat) (y21_l3 : Int32) (y21_l4 : Int32) (ls : Array Slot), Rg 0 3 y21_l4 → lv_has ls 5 [(2, .int x1), (3, .int y21_l3), (4, .int y21_l4)] → 3 - y21_l4.toInt < (n21 : Int) → W p l e (headSpec wsX7_holdsThing ({ frames := 1, cells := 0, slots := 0, locals := 40 })).room s m ([.ref (a 42), .int x0, .int x1]).toArray below meth c s.heap [] 0 0 (MQ below (vp_Si (fun r => Rg 0 1 r ∧ (r ≠ 0 → Rg 0 5 x1))) ([.ref (a 42), .int x0, .int x1]).toArray s 0 0 (fun _ => False)) (F0 m 21 ls []) := by
    intro n21
    induction n21 with
    | zero =>
      intro y21_l3 y21_l4 ls g21_l4 hl hm21
      exact absurd rfl (me_z g21_l4 hm21)
    | succ n21 ih21 =>
      intro y21_l3 y21_l4 ls g21_l4 hl hm21
      refine lv_iload hx hb dX7_holdsThing_21 (lv_at hl 2 rfl) ?_
      refine lv_iconst (v := 3) hx hb dX7_holdsThing_23 (by decide) ?_
      refine lv_icmp_ge (tgt := 53) hx hb dX7_holdsThing_24 (by decide) (fun c47364 => ?_) (fun c47364 => ?_)
      · have g47365 : Rg 3 3 y21_l4 := rg_ler (by decide : Rg 3 3 (3 : Int32)) g21_l4 c47364 (by decide)
        refine lv_iconst (v := 0) hx hb dX7_holdsThing_53 (by decide) ?_
        exact W.zret (v := 0) hx hb hr (by decide) (fun t ht hW => ⟨_, rfl, ⟨(by decide : Rg 0 1 (0 : Int32)), fun h9 => absurd rfl h9⟩, ht⟩) (fun q hq => absurd hq List.not_mem_nil) dX7_holdsThing_54
      · have g47366 : Rg 0 2 y21_l4 := rg_ltl g21_l4 (by decide : Rg 3 3 (3 : Int32)) (rg_nle c47364) (by decide)
        refine lv_iload_n hx hb dX7_holdsThing_27 rfl (lv_at hl 1 rfl) ?_
        refine lz_sn (As := [.int y21_l3]) (rest := []) ⟨hx, hb, hml, hown, hts⟩ (k_X11_isKind l D cI cS y21_l3) hKK (hP.sub (ws' := []) [] rfl) ⟨va_cnB 1 hts gX7_holdsThing_X11_isKind_n22 rfl rfl rfl hKK.2.2.2.2.2.2.2.2.2.2.2.2.2.2.2.2.2.2.2.2.2.2.2.2.2 (hts (.initialized RX11) (by decide +kernel)) (by decide +kernel) ⟨Nat.le_of_ble_eq_true rfl, Nat.le_of_ble_eq_true rfl⟩, (hts (.static yX11_isKind) (by decide +kernel)), trivial⟩ rfl hl.1 rfl (Nat.le_of_ble_eq_true rfl) dX7_holdsThing_28 ⟨Nat.le_of_ble_eq_true rfl, Nat.le_of_ble_eq_true rfl⟩ (fun r47367 hr47367 => ?_)
        refine lv_if_eq (tgt := 53) hx hb dX7_holdsThing_31 (by decide) (fun c47368 => ?_) (fun c47368 => ?_)
        · have g47369 : Rg 0 0 r47367 := wk_eql hr47367.1 (by decide : Rg 0 0 (0 : Int32)) c47368 (by decide)
          refine lv_iconst (v := 0) hx hb dX7_holdsThing_53 (by decide) ?_
          exact W.zret (v := 0) hx hb hr (by decide) (fun t ht hW => ⟨_, rfl, ⟨(by decide : Rg 0 1 (0 : Int32)), fun h9 => absurd rfl h9⟩, ht⟩) (fun q hq => absurd hq List.not_mem_nil) dX7_holdsThing_54
        · have g47370 : Rg 0 5 y21_l3 := (hr47367.2 c47368)
          have g47371 : Rg 1 1 r47367 := rg_ne_lo (k := 0) hr47367.1 (by decide) c47368 (by decide)
          refine lv_iload_n hx hb dX7_holdsThing_34 rfl (lv_at hl 1 rfl) ?_
          refine lv_iload_n hx hb dX7_holdsThing_35 rfl (lv_at hl 0 rfl) ?_
          refine lv_icmp_ne (tgt := 41) hx hb dX7_holdsThing_36 (by decide) (fun c47372 => ?_) (fun c47372 => ?_)
          · refine va_gets (A := fun _ => False) hx hb hZ va_S.rf hown (hts (.fieldLink RX7 25 "MissedPoints$Shelves" "ABOVE" "[I") (by decide +kernel)) (fun _ z => z) dX7_holdsThing_41 ?_
            refine lv_iload_n hx hb dX7_holdsThing_44 rfl (lv_at hl 1 rfl) ?_
            refine va_ti (A := fun _ => False) hx hb hT va_S.rf (rg_in g47370 (by decide) (by decide)) rfl dX7_holdsThing_45 ?_
            refine wk_any (fun r47373 => ?_)
            refine lv_istore_n (lv' := [(3, .int r47373), (2, .int x1), (4, .int y21_l4)]) hx hb dX7_holdsThing_46 rfl hl (by decide) rfl (fun ls hl => ?_)
            refine wk_iinc (lv' := fun r => [(4, .int r), (3, .int r47373), (2, .int x1)]) (e1 := 1) (f := 3) hx hb dX7_holdsThing_47 hl (k := 2) rfl (by decide) g47366 (by decide) (fun _ => rfl) (fun r47374 ls hr47374 er47374 hl => ?_)
            refine lv_goto (tgt := 21) hx hb dX7_holdsThing_50 (by decide) ?_
            exact ih21 r47373 r47374 ls (show Rg 0 3 r47374 from rg_w hr47374 (by decide) (by decide)) (lv_sub (l' := [(2, .int x1), (3, .int r47373), (4, .int r47374)]) hl [2, 1, 0] rfl) (me_up hm21 er47374 (by decide))
          · have g47375 : Rg 0 5 x1 := wk_eqr g47370 (rg_any x1) c47372 (by decide)
            refine lv_iconst (v := 1) hx hb dX7_holdsThing_39 (by decide) ?_
            exact W.zret (v := 1) hx hb hr (by decide) (fun t ht hW => ⟨_, rfl, ⟨(by decide : Rg 0 1 (1 : Int32)), fun _ => g47375⟩, ht⟩) (fun q hq => absurd hq List.not_mem_nil) dX7_holdsThing_40
  refine lv_iload_n hx hb dX7_holdsThing_0 rfl (lv_at hl 1 rfl) ?_
  refine lz_sn (As := [.int x0]) (rest := []) ⟨hx, hb, hml, hown, hts⟩ (k_X11_isShelf l D cI cS x0) hKK (hP.sub (ws' := []) [] rfl) ⟨va_cnB 1 hts gX7_holdsThing_X11_isShelf_n18 rfl rfl rfl hKK.2.2.2.2.2.2.2.2.2.2.2.2.2.2.2.2.2.2.2.2.2.2.2.2.1 (hts (.initialized RX11) (by decide +kernel)) (by decide +kernel) ⟨Nat.le_of_ble_eq_true rfl, Nat.le_of_ble_eq_true rfl⟩, (hts (.static yX11_isShelf) (by decide +kernel)), trivial⟩ rfl hl.1 rfl (Nat.le_of_ble_eq_true rfl) dX7_holdsThing_1 ⟨Nat.le_of_ble_eq_true rfl, Nat.le_of_ble_eq_true rfl⟩ (fun r47376 hr47376 => ?_)
  refine lv_if_eq (tgt := 16) hx hb dX7_holdsThing_4 (by decide) (fun c47377 => ?_) (fun c47377 => ?_)
  · have g47378 : Rg 0 0 r47376 := wk_eql hr47376.1 (by decide : Rg 0 0 (0 : Int32)) c47377 (by decide)
    refine lv_iconst (v := (-1)) hx hb dX7_holdsThing_16 (by decide) ?_
    refine lv_istore_n (lv' := [(3, .int (-1)), (0, .ref (a 42)), (1, .int x0), (2, .int x1)]) hx hb dX7_holdsThing_17 rfl hl (by decide) rfl (fun ls hl => ?_)
    refine lv_iconst (v := 0) hx hb dX7_holdsThing_18 (by decide) ?_
    refine lv_istore (lv' := [(4, .int 0), (3, .int (-1)), (0, .ref (a 42)), (1, .int x0), (2, .int x1)]) hx hb dX7_holdsThing_19 hl (by decide) rfl (fun ls hl => ?_)
    exact lp21 4 (((-1) : Int32)) (0 : Int32) ls (by decide : Rg 0 3 (0 : Int32)) (lv_sub (l' := [(2, .int x1), (3, .int (-1)), (4, .int 0)]) hl [4, 1, 0] rfl) (me_i (by decide : Rg 0 3 (0 : Int32)) (by decide))
  · have g47379 : Rg 0 3 x0 := (hr47376.2 c47377)
    have g47380 : Rg 1 1 r47376 := rg_ne_lo (k := 0) hr47376.1 (by decide) c47377 (by decide)
    refine lv_aload_n hx hb dX7_holdsThing_7 rfl (lv_at hl 0 rfl) ?_
    refine va_get (D := D) (ci := 7) (v := .ref (a 43)) (C := RX7) (T := TX7) (N := 2) hx hb hts hin7 hown hK hP 42 rfl rfl 0 (by decide) (hts (.fieldLink RX7 11 "MissedPoints$Shelves" "kinds" "[I") (by decide +kernel)) (fun _ h9 => h9) rfl dX7_holdsThing_8 ?_
    refine lv_iload_n hx hb dX7_holdsThing_11 rfl (lv_at hl 1 rfl) ?_
    refine wk_aldA hx hb hK hP 43 0 rfl rfl (rg_in g47379 (by decide) (by decide)) dX7_holdsThing_12 (fun r47381 => ?_)
    refine lv_goto (tgt := 17) hx hb dX7_holdsThing_13 (by decide) ?_
    refine lv_istore_n (lv' := [(3, .int r47381), (0, .ref (a 42)), (1, .int x0), (2, .int x1)]) hx hb dX7_holdsThing_17 rfl hl (by decide) rfl (fun ls hl => ?_)
    refine lv_iconst (v := 0) hx hb dX7_holdsThing_18 (by decide) ?_
    refine lv_istore (lv' := [(4, .int 0), (3, .int r47381), (0, .ref (a 42)), (1, .int x0), (2, .int x1)]) hx hb dX7_holdsThing_19 hl (by decide) rfl (fun ls hl => ?_)
    exact lp21 4 r47381 (0 : Int32) ls (by decide : Rg 0 3 (0 : Int32)) (lv_sub (l' := [(2, .int x1), (3, .int r47381), (4, .int 0)]) hl [4, 1, 0] rfl) (me_i (by decide : Rg 0 3 (0 : Int32)) (by decide))
theorem dX7_countOf_18 : decode cX7_countOf 18 = .ok (.iinc 2 1, 3) := by decide +kernel
set_option maxHeartbeats 4000000 in
set_option maxRecDepth 100000 in
theorem k_X7_countOf (l : Launch) (D : va_G) (cI cS : ClassId) (a : Nat → Nat) (na nc N : Nat) (L u : SU) (hL : TyX L) (hN : N = 0 ∨ N = 24576) (x0 : Int32) : Met l yX7_countOf wsX7_countOf ({ frames := 2, cells := 0, slots := 0, locals := 80 }) (PT D cI cS (wX cI cS a na nc N L u) [.ref (a 42), .int x0]) (vp_Si (fun r => Rg (-2147483648) 2147483647 r ∧ True)) 0 0 (fun _ => False) := by
  refine Met.ofW (cc := cX7_countOf) (maxL := 4) (ret := (some .int)) (by decide) rfl ?_
  intro p e s m args below meth c s₁ B hml hv
  obtain ⟨rfl, hP, hKK, hAB⟩ := hv
  obtain ⟨t9, f9, hZ, hT⟩ := id hAB
  have hx := B.exec
  have hb := B.bytes
  have hr := B.returns
  have hts := atoms_spec (ws := wsX7_countOf) B.pre
  have hown : s.vm.findClass RX7 = some m.cls := findClass_of_methodNamed B.named
  have hlocks := B.notSynchronized
  have hK := hKK.1
  have hl := lv_entry ([.ref (a 42), .int x0]) (n := 4) (Nat.le_of_ble_eq_true rfl)
  rw [lg_entry_eq]
  generalize (lg_sl ([.ref (a 42), .int x0]) ++ List.replicate (4 - (lg_sl ([.ref (a 42), .int x0])).length) Slot.unset).toArray = ls at hl ⊢
  have hl : lv_has ls 4 [(0, .ref (a 42)), (1, .int x0)] := hl
  have lp4 : ∀ (n4 : Nat) (y4_l2 : Int32) (y4_l3 : Int32) (ls : Array Slot), Rg 0 4 y4_l3 → lv_has ls 4 [(0, .ref (a 42)), (1, .int x0), (2, .int y4_l2), (3, .int y4_l3)] → 4 - y4_l3.toInt < (n4 : Int) → W p l e (headSpec wsX7_countOf ({ frames := 2, cells := 0, slots := 0, locals := 80 })).room s m ([.ref (a 42), .int x0]).toArray below meth c s.heap [] 0 0 (MQ below (vp_Si (fun r => Rg (-2147483648) 2147483647 r ∧ True)) ([.ref (a 42), .int x0]).toArray s 0 0 (fun _ => False)) (F0 m 4 ls []) := by
    intro n4
    induction n4 with
    | zero =>
      intro y4_l2 y4_l3 ls g4_l3 hl hm4
      exact absurd rfl (me_z g4_l3 hm4)
    | succ n4 ih4 =>
      intro y4_l2 y4_l3 ls g4_l3 hl hm4
      refine lv_iload_n hx hb dX7_countOf_4 rfl (lv_at hl 3 rfl) ?_
      refine lv_iconst (v := 4) hx hb dX7_countOf_5 (by decide) ?_
      refine lv_icmp_ge (tgt := 27) hx hb dX7_countOf_6 (by decide) (fun c47700 => ?_) (fun c47700 => ?_)
      · have g47701 : Rg 4 4 y4_l3 := rg_ler (by decide : Rg 4 4 (4 : Int32)) g4_l3 c47700 (by decide)
        refine lv_iload_n hx hb dX7_countOf_27 rfl (lv_at hl 2 rfl) ?_
        exact W.iret (v := y4_l2) hx hb hr (fun t ht hW => ⟨_, rfl, ⟨(rg_any y4_l2), trivial⟩, ht⟩) (fun q hq => absurd hq List.not_mem_nil) dX7_countOf_28
      · have g47702 : Rg 0 3 y4_l3 := rg_ltl g4_l3 (by decide : Rg 4 4 (4 : Int32)) (rg_nle c47700) (by decide)
        refine lv_aload_n hx hb dX7_countOf_9 rfl (lv_at hl 0 rfl) ?_
        refine lv_iload_n hx hb dX7_countOf_10 rfl (lv_at hl 3 rfl) ?_
        refine lv_iload_n hx hb dX7_countOf_11 rfl (lv_at hl 1 rfl) ?_
        refine wk_svT 42 (As := [.int y4_l3, .int x0]) (rest := []) ⟨hx, hb, hml, hown, hts⟩ (k_X7_holdsThing l D cI cS a na nc N L u hL hN y4_l3 x0) hKK hAB hP (ci := 7) rfl rfl (cwV 2 hts gX7_countOf_X7_holdsThing rfl rfl rfl (by decide +kernel) ⟨Nat.le_of_ble_eq_true rfl, Nat.le_of_ble_eq_true rfl⟩) rfl hl.1 rfl (Nat.le_of_ble_eq_true rfl) dX7_countOf_12 ⟨Nat.le_of_ble_eq_true rfl, Nat.le_of_ble_eq_true rfl⟩ (fun r47703 hr47703 => ?_)
        refine lv_if_eq (tgt := 21) hx hb dX7_countOf_15 (by decide) (fun c47704 => ?_) (fun c47704 => ?_)
        · have g47705 : Rg 0 0 r47703 := wk_eql hr47703.1 (by decide : Rg 0 0 (0 : Int32)) c47704 (by decide)
          refine wk_iinc (lv' := fun r => [(3, .int r), (0, .ref (a 42)), (1, .int x0), (2, .int y4_l2)]) (e1 := 1) (f := 4) hx hb dX7_countOf_21 hl (k := 3) rfl (by decide) g47702 (by decide) (fun _ => rfl) (fun r47706 ls hr47706 er47706 hl => ?_)
          refine lv_goto (tgt := 4) hx hb dX7_countOf_24 (by decide) ?_
          exact ih4 y4_l2 r47706 ls (show Rg 0 4 r47706 from rg_w hr47706 (by decide) (by decide)) (lv_sub (l' := [(0, .ref (a 42)), (1, .int x0), (2, .int y4_l2), (3, .int r47706)]) hl [1, 2, 3, 0] rfl) (me_up hm4 er47706 (by decide))
        · have g47707 : Rg 0 5 x0 := (hr47703.2 c47704)
          have g47708 : Rg 1 1 r47703 := rg_ne_lo (k := 0) hr47703.1 (by decide) c47704 (by decide)
          refine wk_iincA (lv' := fun r => [(2, .int r), (0, .ref (a 42)), (1, .int x0), (3, .int y4_l3)]) hx hb dX7_countOf_18 hl (k := 2) rfl (by decide) (fun _ => rfl) (fun r47709 ls hl => ?_)
          refine wk_iinc (lv' := fun r => [(3, .int r), (2, .int r47709), (0, .ref (a 42)), (1, .int x0)]) (e1 := 1) (f := 4) hx hb dX7_countOf_21 hl (k := 3) rfl (by decide) g47702 (by decide) (fun _ => rfl) (fun r47710 ls hr47710 er47710 hl => ?_)
          refine lv_goto (tgt := 4) hx hb dX7_countOf_24 (by decide) ?_
          exact ih4 r47709 r47710 ls (show Rg 0 4 r47710 from rg_w hr47710 (by decide) (by decide)) (lv_sub (l' := [(0, .ref (a 42)), (1, .int x0), (2, .int r47709), (3, .int r47710)]) hl [2, 3, 1, 0] rfl) (me_up hm4 er47710 (by decide))
  refine lv_iconst (v := 0) hx hb dX7_countOf_0 (by decide) ?_
  refine lv_istore_n (lv' := [(2, .int 0), (0, .ref (a 42)), (1, .int x0)]) hx hb dX7_countOf_1 rfl hl (by decide) rfl (fun ls hl => ?_)
  refine lv_iconst (v := 0) hx hb dX7_countOf_2 (by decide) ?_
  refine lv_istore_n (lv' := [(3, .int 0), (2, .int 0), (0, .ref (a 42)), (1, .int x0)]) hx hb dX7_countOf_3 rfl hl (by decide) rfl (fun ls hl => ?_)
  exact lp4 5 (0 : Int32) (0 : Int32) ls (by decide : Rg 0 4 (0 : Int32)) (lv_sub (l' := [(0, .ref (a 42)), (1, .int x0), (2, .int 0), (3, .int 0)]) hl [2, 3, 1, 0] rfl) (me_i (by decide : Rg 0 4 (0 : Int32)) (by decide))
theorem dX7_pointsOf_18 : decode cX7_pointsOf 18 = .ok (.iload_n 2, 1) := by decide +kernel
theorem dX7_pointsOf_19 : decode cX7_pointsOf 19 = .ok (.aload_n 0, 1) := by decide +kernel
theorem dX7_pointsOf_20 : decode cX7_pointsOf 20 = .ok (.getfield 15, 3) := by decide +kernel
theorem dX7_pointsOf_23 : decode cX7_pointsOf 23 = .ok (.iload_n 3, 1) := by decide +kernel
theorem dX7_pointsOf_24 : decode cX7_pointsOf 24 = .ok (.iaload, 1) := by decide +kernel
theorem dX7_pointsOf_25 : decode cX7_pointsOf 25 = .ok (.ior, 1) := by decide +kernel
theorem dX7_pointsOf_26 : decode cX7_pointsOf 26 = .ok (.istore_n 2, 1) := by decide +kernel
set_option maxHeartbeats 4000000 in
set_option maxRecDepth 100000 in
theorem k_X7_pointsOf (l : Launch) (D : va_G) (cI cS : ClassId) (a : Nat → Nat) (na nc N : Nat) (L u : SU) (hL : TyX L) (hN : N = 0 ∨ N = 24576) (x0 : Int32) : Met l yX7_pointsOf wsX7_pointsOf ({ frames := 2, cells := 0, slots := 0, locals := 80 }) (PT D cI cS (wX cI cS a na nc N L u) [.ref (a 42), .int x0]) (vp_Si (fun r => Rg (-2147483648) 2147483647 r ∧ True)) 0 0 (fun _ => False) := by
  refine Met.ofW (cc := cX7_pointsOf) (maxL := 4) (ret := (some .int)) (by decide) rfl ?_
  intro p e s m args below meth c s₁ B hml hv
  obtain ⟨rfl, hP, hKK, hAB⟩ := hv
  obtain ⟨t9, f9, hZ, hT⟩ := id hAB
  have hx := B.exec
  have hb := B.bytes
  have hr := B.returns
  have hts := atoms_spec (ws := wsX7_pointsOf) B.pre
  have hown : s.vm.findClass RX7 = some m.cls := findClass_of_methodNamed B.named
  have hlocks := B.notSynchronized
  have hK := hKK.1
  have hin7 : ∀ w ∈ wsX70, w ∈ wsX7_pointsOf := by decide +kernel
  have hl := lv_entry ([.ref (a 42), .int x0]) (n := 4) (Nat.le_of_ble_eq_true rfl)
  rw [lg_entry_eq]
  generalize (lg_sl ([.ref (a 42), .int x0]) ++ List.replicate (4 - (lg_sl ([.ref (a 42), .int x0])).length) Slot.unset).toArray = ls at hl ⊢
  have hl : lv_has ls 4 [(0, .ref (a 42)), (1, .int x0)] := hl
  have lp4 : ∀ (n4 : Nat) (y4_l2 : Int32) (y4_l3 : Int32) (ls : Array Slot), Rg 0 4 y4_l3 → lv_has ls 4 [(0, .ref (a 42)), (1, .int x0), (2, .int y4_l2), (3, .int y4_l3)] → 4 - y4_l3.toInt < (n4 : Int) → W p l e (headSpec wsX7_pointsOf ({ frames := 2, cells := 0, slots := 0, locals := 80 })).room s m ([.ref (a 42), .int x0]).toArray below meth c s.heap [] 0 0 (MQ below (vp_Si (fun r => Rg (-2147483648) 2147483647 r ∧ True)) ([.ref (a 42), .int x0]).toArray s 0 0 (fun _ => False)) (F0 m 4 ls []) := by
    intro n4
    induction n4 with
    | zero =>
      intro y4_l2 y4_l3 ls g4_l3 hl hm4
      exact absurd rfl (me_z g4_l3 hm4)
    | succ n4 ih4 =>
      intro y4_l2 y4_l3 ls g4_l3 hl hm4
      refine lv_iload_n hx hb dX7_pointsOf_4 rfl (lv_at hl 3 rfl) ?_
      refine lv_iconst (v := 4) hx hb dX7_pointsOf_5 (by decide) ?_
      refine lv_icmp_ge (tgt := 33) hx hb dX7_pointsOf_6 (by decide) (fun c47758 => ?_) (fun c47758 => ?_)
      · have g47759 : Rg 4 4 y4_l3 := rg_ler (by decide : Rg 4 4 (4 : Int32)) g4_l3 c47758 (by decide)
        refine lv_iload_n hx hb dX7_pointsOf_33 rfl (lv_at hl 2 rfl) ?_
        exact W.iret (v := y4_l2) hx hb hr (fun t ht hW => ⟨_, rfl, ⟨(rg_any y4_l2), trivial⟩, ht⟩) (fun q hq => absurd hq List.not_mem_nil) dX7_pointsOf_34
      · have g47760 : Rg 0 3 y4_l3 := rg_ltl g4_l3 (by decide : Rg 4 4 (4 : Int32)) (rg_nle c47758) (by decide)
        refine lv_aload_n hx hb dX7_pointsOf_9 rfl (lv_at hl 0 rfl) ?_
        refine lv_iload_n hx hb dX7_pointsOf_10 rfl (lv_at hl 3 rfl) ?_
        refine lv_iload_n hx hb dX7_pointsOf_11 rfl (lv_at hl 1 rfl) ?_
        refine wk_svT 42 (As := [.int y4_l3, .int x0]) (rest := []) ⟨hx, hb, hml, hown, hts⟩ (k_X7_holdsThing l D cI cS a na nc N L u hL hN y4_l3 x0) hKK hAB hP (ci := 7) rfl rfl (cwV 2 hts gX7_pointsOf_X7_holdsThing rfl rfl rfl (by decide +kernel) ⟨Nat.le_of_ble_eq_true rfl, Nat.le_of_ble_eq_true rfl⟩) rfl hl.1 rfl (Nat.le_of_ble_eq_true rfl) dX7_pointsOf_12 ⟨Nat.le_of_ble_eq_true rfl, Nat.le_of_ble_eq_true rfl⟩ (fun r47761 hr47761 => ?_)
        refine lv_if_eq (tgt := 27) hx hb dX7_pointsOf_15 (by decide) (fun c47762 => ?_) (fun c47762 => ?_)
        · have g47763 : Rg 0 0 r47761 := wk_eql hr47761.1 (by decide : Rg 0 0 (0 : Int32)) c47762 (by decide)
          refine wk_iinc (lv' := fun r => [(3, .int r), (0, .ref (a 42)), (1, .int x0), (2, .int y4_l2)]) (e1 := 1) (f := 4) hx hb dX7_pointsOf_27 hl (k := 3) rfl (by decide) g47760 (by decide) (fun _ => rfl) (fun r47764 ls hr47764 er47764 hl => ?_)
          refine lv_goto (tgt := 4) hx hb dX7_pointsOf_30 (by decide) ?_
          exact ih4 y4_l2 r47764 ls (show Rg 0 4 r47764 from rg_w hr47764 (by decide) (by decide)) (lv_sub (l' := [(0, .ref (a 42)), (1, .int x0), (2, .int y4_l2), (3, .int r47764)]) hl [1, 2, 3, 0] rfl) (me_up hm4 er47764 (by decide))
        · have g47765 : Rg 0 5 x0 := (hr47761.2 c47762)
          have g47766 : Rg 1 1 r47761 := rg_ne_lo (k := 0) hr47761.1 (by decide) c47762 (by decide)
          refine lv_iload_n hx hb dX7_pointsOf_18 rfl (lv_at hl 2 rfl) ?_
          refine lv_aload_n hx hb dX7_pointsOf_19 rfl (lv_at hl 0 rfl) ?_
          refine va_get (D := D) (ci := 7) (v := .ref (a 44)) (C := RX7) (T := TX7) (N := 2) hx hb hts hin7 hown hK hP 42 rfl rfl 1 (by decide) (hts (.fieldLink RX7 15 "MissedPoints$Shelves" "worths" "[I") (by decide +kernel)) (fun _ h9 => h9) rfl dX7_pointsOf_20 ?_
          refine lv_iload_n hx hb dX7_pointsOf_23 rfl (lv_at hl 3 rfl) ?_
          refine wk_aldA hx hb hK hP 44 0 rfl rfl (rg_in g47760 (by decide) (by decide)) dX7_pointsOf_24 (fun r47767 => ?_)
          refine lv_ior hx hb dX7_pointsOf_25 ?_
          refine wk_topP (P := fun r => r = y4_l2 ||| r47767) rfl (fun r47768 qr47768 => ?_)
          refine lv_istore_n (lv' := [(2, .int r47768), (0, .ref (a 42)), (1, .int x0), (3, .int y4_l3)]) hx hb dX7_pointsOf_26 rfl hl (by decide) rfl (fun ls hl => ?_)
          refine wk_iinc (lv' := fun r => [(3, .int r), (2, .int r47768), (0, .ref (a 42)), (1, .int x0)]) (e1 := 1) (f := 4) hx hb dX7_pointsOf_27 hl (k := 3) rfl (by decide) g47760 (by decide) (fun _ => rfl) (fun r47769 ls hr47769 er47769 hl => ?_)
          refine lv_goto (tgt := 4) hx hb dX7_pointsOf_30 (by decide) ?_
          exact ih4 r47768 r47769 ls (show Rg 0 4 r47769 from rg_w hr47769 (by decide) (by decide)) (lv_sub (l' := [(0, .ref (a 42)), (1, .int x0), (2, .int r47768), (3, .int r47769)]) hl [2, 3, 1, 0] rfl) (me_up hm4 er47769 (by decide))
  refine lv_iconst (v := 0) hx hb dX7_pointsOf_0 (by decide) ?_
  refine lv_istore_n (lv' := [(2, .int 0), (0, .ref (a 42)), (1, .int x0)]) hx hb dX7_pointsOf_1 rfl hl (by decide) rfl (fun ls hl => ?_)
  refine lv_iconst (v := 0) hx hb dX7_pointsOf_2 (by decide) ?_
  refine lv_istore_n (lv' := [(3, .int 0), (2, .int 0), (0, .ref (a 42)), (1, .int x0)]) hx hb dX7_pointsOf_3 rfl hl (by decide) rfl (fun ls hl => ?_)
  exact lp4 5 (0 : Int32) (0 : Int32) ls (by decide : Rg 0 4 (0 : Int32)) (lv_sub (l' := [(0, .ref (a 42)), (1, .int x0), (2, .int 0), (3, .int 0)]) hl [2, 3, 1, 0] rfl) (me_i (by decide : Rg 0 4 (0 : Int32)) (by decide))
set_option maxRecDepth 20000 in
theorem ggX7_fullestOf_J6_bitCount_0f7a4 : GoodIn wsX7_fullestOf wsJ6_bitCount_0f7a4 := goodIn_r _ [17, 18, 19, 20] rfl (by decide +kernel)
set_option maxRecDepth 20000 in
theorem gX7_fullestOf_J6_bitCount_0f7a4 : GoodIn wsX7_fullestOf (va_wsS RX7 32 yJ6_bitCount_0f7a4 wsJ6_bitCount_0f7a4) := goodIn_app (goodIn_of _ (by decide +kernel)) ggX7_fullestOf_J6_bitCount_0f7a4
theorem dX7_fullestOf_23 : decode cX7_fullestOf 23 = .ok (.aload_n 0, 1) := by decide +kernel
theorem dX7_fullestOf_24 : decode cX7_fullestOf 24 = .ok (.getfield 15, 3) := by decide +kernel
theorem dX7_fullestOf_27 : decode cX7_fullestOf 27 = .ok (.iload 4, 2) := by decide +kernel
theorem dX7_fullestOf_29 : decode cX7_fullestOf 29 = .ok (.iaload, 1) := by decide +kernel
theorem dX7_fullestOf_30 : decode cX7_fullestOf 30 = .ok (.invokestatic 32, 3) := by decide +kernel
theorem dX7_fullestOf_33 : decode cX7_fullestOf 33 = .ok (.iload_n 3, 1) := by decide +kernel
theorem dX7_fullestOf_34 : decode cX7_fullestOf 34 = .ok (.if_icmp .le 17, 3) := by decide +kernel
theorem dX7_fullestOf_37 : decode cX7_fullestOf 37 = .ok (.iload 4, 2) := by decide +kernel
theorem dX7_fullestOf_39 : decode cX7_fullestOf 39 = .ok (.istore_n 2, 1) := by decide +kernel
theorem dX7_fullestOf_40 : decode cX7_fullestOf 40 = .ok (.aload_n 0, 1) := by decide +kernel
theorem dX7_fullestOf_41 : decode cX7_fullestOf 41 = .ok (.getfield 15, 3) := by decide +kernel
theorem dX7_fullestOf_44 : decode cX7_fullestOf 44 = .ok (.iload 4, 2) := by decide +kernel
theorem dX7_fullestOf_46 : decode cX7_fullestOf 46 = .ok (.iaload, 1) := by decide +kernel
theorem dX7_fullestOf_47 : decode cX7_fullestOf 47 = .ok (.invokestatic 32, 3) := by decide +kernel
theorem dX7_fullestOf_50 : decode cX7_fullestOf 50 = .ok (.istore_n 3, 1) := by decide +kernel
set_option maxHeartbeats 4000000 in
set_option maxRecDepth 100000 in
theorem k_X7_fullestOf (l : Launch) (D : va_G) (cI cS : ClassId) (a : Nat → Nat) (na nc N : Nat) (L u : SU) (hL : TyX L) (hN : N = 0 ∨ N = 24576) (x0 : Int32) : Met l yX7_fullestOf wsX7_fullestOf ({ frames := 2, cells := 0, slots := 0, locals := 80 }) (PT D cI cS (wX cI cS a na nc N L u) [.ref (a 42), .int x0]) (vp_Si (fun r => Rg (-1) 3 r ∧ True)) 0 0 (fun _ => False) := by
  refine Met.ofW (cc := cX7_fullestOf) (maxL := 5) (ret := (some .int)) (by decide) rfl ?_
  intro p e s m args below meth c s₁ B hml hv
  obtain ⟨rfl, hP, hKK, hAB⟩ := hv
  obtain ⟨t9, f9, hZ, hT⟩ := id hAB
  have hx := B.exec
  have hb := B.bytes
  have hr := B.returns
  have hts := atoms_spec (ws := wsX7_fullestOf) B.pre
  have hown : s.vm.findClass RX7 = some m.cls := findClass_of_methodNamed B.named
  have hlocks := B.notSynchronized
  have hK := hKK.1
  have hin7 : ∀ w ∈ wsX70, w ∈ wsX7_fullestOf := by decide +kernel
  have hl := lv_entry ([.ref (a 42), .int x0]) (n := 5) (Nat.le_of_ble_eq_true rfl)
  rw [lg_entry_eq]
  generalize (lg_sl ([.ref (a 42), .int x0]) ++ List.replicate (5 - (lg_sl ([.ref (a 42), .int x0])).length) Slot.unset).toArray = ls at hl ⊢
  have hl : lv_has ls 5 [(0, .ref (a 42)), (1, .int x0)] := hl
  have lp7 : ∀ (n7 : Nat) (y7_l2 : Int32) (y7_l3 : Int32) (y7_l4 : Int32) (ls : Array Slot), Rg (-1) 3 y7_l2 → Rg 0 4 y7_l4 → lv_has ls 5 [(0, .ref (a 42)), (1, .int x0), (2, .int y7_l2), (3, .int y7_l3), (4, .int y7_l4)] → 4 - y7_l4.toInt < (n7 : Int) → W p l e (headSpec wsX7_fullestOf ({ frames := 2, cells := 0, slots := 0, locals := 80 })).room s m ([.ref (a 42), .int x0]).toArray below meth c s.heap [] 0 0 (MQ below (vp_Si (fun r => Rg (-1) 3 r ∧ True)) ([.ref (a 42), .int x0]).toArray s 0 0 (fun _ => False)) (F0 m 7 ls []) := by
    intro n7
    induction n7 with
    | zero =>
      intro y7_l2 y7_l3 y7_l4 ls g7_l2 g7_l4 hl hm7
      exact absurd rfl (me_z g7_l4 hm7)
    | succ n7 ih7 =>
      intro y7_l2 y7_l3 y7_l4 ls g7_l2 g7_l4 hl hm7
      refine lv_iload hx hb dX7_fullestOf_7 (lv_at hl 4 rfl) ?_
      refine lv_iconst (v := 4) hx hb dX7_fullestOf_9 (by decide) ?_
      refine lv_icmp_ge (tgt := 57) hx hb dX7_fullestOf_10 (by decide) (fun c47837 => ?_) (fun c47837 => ?_)
      · have g47838 : Rg 4 4 y7_l4 := rg_ler (by decide : Rg 4 4 (4 : Int32)) g7_l4 c47837 (by decide)
        refine lv_iload_n hx hb dX7_fullestOf_57 rfl (lv_at hl 2 rfl) ?_
        exact W.iret (v := y7_l2) hx hb hr (fun t ht hW => ⟨_, rfl, ⟨g7_l2, trivial⟩, ht⟩) (fun q hq => absurd hq List.not_mem_nil) dX7_fullestOf_58
      · have g47839 : Rg 0 3 y7_l4 := rg_ltl g7_l4 (by decide : Rg 4 4 (4 : Int32)) (rg_nle c47837) (by decide)
        refine lv_aload_n hx hb dX7_fullestOf_13 rfl (lv_at hl 0 rfl) ?_
        refine lv_iload hx hb dX7_fullestOf_14 (lv_at hl 4 rfl) ?_
        refine lv_iload_n hx hb dX7_fullestOf_16 rfl (lv_at hl 1 rfl) ?_
        refine wk_svT 42 (As := [.int y7_l4, .int x0]) (rest := []) ⟨hx, hb, hml, hown, hts⟩ (k_X7_holdsThing l D cI cS a na nc N L u hL hN y7_l4 x0) hKK hAB hP (ci := 7) rfl rfl (cwV 2 hts gX7_fullestOf_X7_holdsThing rfl rfl rfl (by decide +kernel) ⟨Nat.le_of_ble_eq_true rfl, Nat.le_of_ble_eq_true rfl⟩) rfl hl.1 rfl (Nat.le_of_ble_eq_true rfl) dX7_fullestOf_17 ⟨Nat.le_of_ble_eq_true rfl, Nat.le_of_ble_eq_true rfl⟩ (fun r47840 hr47840 => ?_)
        refine lv_if_eq (tgt := 51) hx hb dX7_fullestOf_20 (by decide) (fun c47841 => ?_) (fun c47841 => ?_)
        · have g47842 : Rg 0 0 r47840 := wk_eql hr47840.1 (by decide : Rg 0 0 (0 : Int32)) c47841 (by decide)
          refine wk_iinc (lv' := fun r => [(4, .int r), (0, .ref (a 42)), (1, .int x0), (2, .int y7_l2), (3, .int y7_l3)]) (e1 := 1) (f := 4) hx hb dX7_fullestOf_51 hl (k := 4) rfl (by decide) g47839 (by decide) (fun _ => rfl) (fun r47843 ls hr47843 er47843 hl => ?_)
          refine lv_goto (tgt := 7) hx hb dX7_fullestOf_54 (by decide) ?_
          exact ih7 y7_l2 y7_l3 r47843 ls g7_l2 (show Rg 0 4 r47843 from rg_w hr47843 (by decide) (by decide)) (lv_sub (l' := [(0, .ref (a 42)), (1, .int x0), (2, .int y7_l2), (3, .int y7_l3), (4, .int r47843)]) hl [1, 2, 3, 4, 0] rfl) (me_up hm7 er47843 (by decide))
        · have g47844 : Rg 0 5 x0 := (hr47840.2 c47841)
          have g47845 : Rg 1 1 r47840 := rg_ne_lo (k := 0) hr47840.1 (by decide) c47841 (by decide)
          refine lv_aload_n hx hb dX7_fullestOf_23 rfl (lv_at hl 0 rfl) ?_
          refine va_get (D := D) (ci := 7) (v := .ref (a 44)) (C := RX7) (T := TX7) (N := 2) hx hb hts hin7 hown hK hP 42 rfl rfl 1 (by decide) (hts (.fieldLink RX7 15 "MissedPoints$Shelves" "worths" "[I") (by decide +kernel)) (fun _ h9 => h9) rfl dX7_fullestOf_24 ?_
          refine lv_iload hx hb dX7_fullestOf_27 (lv_at hl 4 rfl) ?_
          refine wk_aldA hx hb hK hP 44 0 rfl rfl (rg_in g47839 (by decide) (by decide)) dX7_fullestOf_29 (fun r47846 => ?_)
          refine lz_ss (As := [.int r47846]) (rest := []) ⟨hx, hb, hml, hown, hts⟩ (k_J6_bitCount_0f7a4 l D cI cS r47846) hKK (hP.sub (ws' := []) [] rfl) (va_cwS 1 hts gX7_fullestOf_J6_bitCount_0f7a4 rfl rfl rfl (by decide +kernel) ⟨Nat.le_of_ble_eq_true rfl, Nat.le_of_ble_eq_true rfl⟩) rfl hl.1 rfl (Nat.le_of_ble_eq_true rfl) dX7_fullestOf_30 ⟨Nat.le_of_ble_eq_true rfl, Nat.le_of_ble_eq_true rfl⟩ (fun r47847 hr47847 => ?_)
          refine lv_iload_n hx hb dX7_fullestOf_33 rfl (lv_at hl 3 rfl) ?_
          refine lv_icmp_le (tgt := 51) hx hb dX7_fullestOf_34 (by decide) (fun c47848 => ?_) (fun c47848 => ?_)
          · refine wk_iinc (lv' := fun r => [(4, .int r), (0, .ref (a 42)), (1, .int x0), (2, .int y7_l2), (3, .int y7_l3)]) (e1 := 1) (f := 4) hx hb dX7_fullestOf_51 hl (k := 4) rfl (by decide) g47839 (by decide) (fun _ => rfl) (fun r47849 ls hr47849 er47849 hl => ?_)
            refine lv_goto (tgt := 7) hx hb dX7_fullestOf_54 (by decide) ?_
            exact ih7 y7_l2 y7_l3 r47849 ls g7_l2 (show Rg 0 4 r47849 from rg_w hr47849 (by decide) (by decide)) (lv_sub (l' := [(0, .ref (a 42)), (1, .int x0), (2, .int y7_l2), (3, .int y7_l3), (4, .int r47849)]) hl [1, 2, 3, 4, 0] rfl) (me_up hm7 er47849 (by decide))
          · refine lv_iload hx hb dX7_fullestOf_37 (lv_at hl 4 rfl) ?_
            refine lv_istore_n (lv' := [(2, .int y7_l4), (0, .ref (a 42)), (1, .int x0), (3, .int y7_l3), (4, .int y7_l4)]) hx hb dX7_fullestOf_39 rfl hl (by decide) rfl (fun ls hl => ?_)
            refine lv_aload_n hx hb dX7_fullestOf_40 rfl (lv_at hl 1 rfl) ?_
            refine va_get (D := D) (ci := 7) (v := .ref (a 44)) (C := RX7) (T := TX7) (N := 2) hx hb hts hin7 hown hK hP 42 rfl rfl 1 (by decide) (hts (.fieldLink RX7 15 "MissedPoints$Shelves" "worths" "[I") (by decide +kernel)) (fun _ h9 => h9) rfl dX7_fullestOf_41 ?_
            refine lv_iload hx hb dX7_fullestOf_44 (lv_at hl 4 rfl) ?_
            refine wk_aldA hx hb hK hP 44 0 rfl rfl (rg_in g47839 (by decide) (by decide)) dX7_fullestOf_46 (fun r47850 => ?_)
            refine lz_ss (As := [.int r47850]) (rest := []) ⟨hx, hb, hml, hown, hts⟩ (k_J6_bitCount_0f7a4 l D cI cS r47850) hKK (hP.sub (ws' := []) [] rfl) (va_cwS 1 hts gX7_fullestOf_J6_bitCount_0f7a4 rfl rfl rfl (by decide +kernel) ⟨Nat.le_of_ble_eq_true rfl, Nat.le_of_ble_eq_true rfl⟩) rfl hl.1 rfl (Nat.le_of_ble_eq_true rfl) dX7_fullestOf_47 ⟨Nat.le_of_ble_eq_true rfl, Nat.le_of_ble_eq_true rfl⟩ (fun r47851 hr47851 => ?_)
            refine lv_istore_n (lv' := [(3, .int r47851), (2, .int y7_l4), (0, .ref (a 42)), (1, .int x0), (4, .int y7_l4)]) hx hb dX7_fullestOf_50 rfl hl (by decide) rfl (fun ls hl => ?_)
            refine wk_iinc (lv' := fun r => [(4, .int r), (3, .int r47851), (2, .int y7_l4), (0, .ref (a 42)), (1, .int x0)]) (e1 := 1) (f := 4) hx hb dX7_fullestOf_51 hl (k := 4) rfl (by decide) g47839 (by decide) (fun _ => rfl) (fun r47852 ls hr47852 er47852 hl => ?_)
            refine lv_goto (tgt := 7) hx hb dX7_fullestOf_54 (by decide) ?_
            exact ih7 y7_l4 r47851 r47852 ls (show Rg (-1) 3 y7_l4 from rg_w g47839 (by decide) (by decide)) (show Rg 0 4 r47852 from rg_w hr47852 (by decide) (by decide)) (lv_sub (l' := [(0, .ref (a 42)), (1, .int x0), (2, .int y7_l4), (3, .int r47851), (4, .int r47852)]) hl [3, 4, 2, 1, 0] rfl) (me_up hm7 er47852 (by decide))
  refine lv_iconst (v := (-1)) hx hb dX7_fullestOf_0 (by decide) ?_
  refine lv_istore_n (lv' := [(2, .int (-1)), (0, .ref (a 42)), (1, .int x0)]) hx hb dX7_fullestOf_1 rfl hl (by decide) rfl (fun ls hl => ?_)
  refine lv_iconst (v := (-1)) hx hb dX7_fullestOf_2 (by decide) ?_
  refine lv_istore_n (lv' := [(3, .int (-1)), (2, .int (-1)), (0, .ref (a 42)), (1, .int x0)]) hx hb dX7_fullestOf_3 rfl hl (by decide) rfl (fun ls hl => ?_)
  refine lv_iconst (v := 0) hx hb dX7_fullestOf_4 (by decide) ?_
  refine lv_istore (lv' := [(4, .int 0), (3, .int (-1)), (2, .int (-1)), (0, .ref (a 42)), (1, .int x0)]) hx hb dX7_fullestOf_5 hl (by decide) rfl (fun ls hl => ?_)
  exact lp7 5 (((-1) : Int32)) (((-1) : Int32)) (0 : Int32) ls (by decide : Rg (-1) 3 ((-1) : Int32)) (by decide : Rg 0 4 (0 : Int32)) (lv_sub (l' := [(0, .ref (a 42)), (1, .int x0), (2, .int (-1)), (3, .int (-1)), (4, .int 0)]) hl [3, 4, 2, 1, 0] rfl) (me_i (by decide : Rg 0 4 (0 : Int32)) (by decide))
set_option maxRecDepth 20000 in
theorem ggX11_taken_X7_holdsRow : GoodIn wsX11_taken wsX7_holdsRow := goodIn_r _ [26, 17, 7, 4, 8, 48, 49] rfl (by decide +kernel)
set_option maxRecDepth 20000 in
theorem gX11_taken_X7_holdsRow : GoodIn wsX11_taken (wsV RX11 316 RX7 yX7_holdsRow wsX7_holdsRow) := goodIn_app (goodIn_of _ (by decide +kernel)) ggX11_taken_X7_holdsRow
set_option maxRecDepth 20000 in
theorem ggX11_taken_X7_holdsThing : GoodIn wsX11_taken wsX7_holdsThing := goodIn_r _ [21, 17, 22, 7, 4, 8, 3, 5, 48, 49] rfl (by decide +kernel)
set_option maxRecDepth 20000 in
theorem gX11_taken_X7_holdsThing : GoodIn wsX11_taken (wsV RX11 313 RX7 yX7_holdsThing wsX7_holdsThing) := goodIn_app (goodIn_of _ (by decide +kernel)) ggX11_taken_X7_holdsThing
set_option maxRecDepth 20000 in
theorem ggX11_taken_X7_worthOf : GoodIn wsX11_taken wsX7_worthOf := goodIn_r _ [30, 31, 7, 4, 8, 48, 49] rfl (by decide +kernel)
set_option maxRecDepth 20000 in
theorem gX11_taken_X7_worthOf : GoodIn wsX11_taken (wsV RX11 319 RX7 yX7_worthOf wsX7_worthOf) := goodIn_app (goodIn_of _ (by decide +kernel)) ggX11_taken_X7_worthOf
theorem dX11_taken_43 : decode cX11_taken 43 = .ok (.iload_n 3, 1) := by decide +kernel
theorem dX11_taken_44 : decode cX11_taken 44 = .ok (.ifCond .eq 15, 3) := by decide +kernel
theorem dX11_taken_47 : decode cX11_taken 47 = .ok (.aload_n 0, 1) := by decide +kernel
theorem dX11_taken_48 : decode cX11_taken 48 = .ok (.getfield 92, 3) := by decide +kernel
theorem dX11_taken_51 : decode cX11_taken 51 = .ok (.iload_n 1, 1) := by decide +kernel
theorem dX11_taken_52 : decode cX11_taken 52 = .ok (.iload_n 2, 1) := by decide +kernel
theorem dX11_taken_53 : decode cX11_taken 53 = .ok (.invokevirtual 313, 3) := by decide +kernel
theorem dX11_taken_56 : decode cX11_taken 56 = .ok (.goto 12, 3) := by decide +kernel
theorem dX11_taken_59 : decode cX11_taken 59 = .ok (.aload_n 0, 1) := by decide +kernel
theorem dX11_taken_60 : decode cX11_taken 60 = .ok (.getfield 92, 3) := by decide +kernel
theorem dX11_taken_63 : decode cX11_taken 63 = .ok (.iload_n 1, 1) := by decide +kernel
theorem dX11_taken_64 : decode cX11_taken 64 = .ok (.iload_n 2, 1) := by decide +kernel
theorem dX11_taken_65 : decode cX11_taken 65 = .ok (.invokevirtual 316, 3) := by decide +kernel
theorem dX11_taken_68 : decode cX11_taken 68 = .ok (.istore 4, 2) := by decide +kernel
theorem dX11_taken_70 : decode cX11_taken 70 = .ok (.iload 4, 2) := by decide +kernel
theorem dX11_taken_72 : decode cX11_taken 72 = .ok (.ifCond .eq 14, 3) := by decide +kernel
theorem dX11_taken_75 : decode cX11_taken 75 = .ok (.aload_n 0, 1) := by decide +kernel
theorem dX11_taken_76 : decode cX11_taken 76 = .ok (.getfield 92, 3) := by decide +kernel
theorem dX11_taken_79 : decode cX11_taken 79 = .ok (.iload_n 1, 1) := by decide +kernel
theorem dX11_taken_80 : decode cX11_taken 80 = .ok (.invokevirtual 319, 3) := by decide +kernel
theorem dX11_taken_83 : decode cX11_taken 83 = .ok (.goto 5, 3) := by decide +kernel
theorem dX11_taken_86 : decode cX11_taken 86 = .ok (.bipush (-13), 2) := by decide +kernel
theorem dX11_taken_88 : decode cX11_taken 88 = .ok (.ireturn, 1) := by decide +kernel
set_option maxHeartbeats 4000000 in
set_option maxRecDepth 100000 in
theorem k_X11_taken (l : Launch) (D : va_G) (cI cS : ClassId) (a : Nat → Nat) (na nc N : Nat) (L u : SU) (hL : TyX L) (hN : N = 0 ∨ N = 24576) (x0 x1 : Int32) : Met l yX11_taken wsX11_taken ({ frames := 2, cells := 0, slots := 0, locals := 80 }) (PT D cI cS (wX cI cS a na nc N L u) [.ref (a 0), .int x0, .int x1]) (vp_Si (fun r => Rg (-2147483648) 2147483647 r ∧ True)) 0 0 (fun _ => False) := by
  refine Met.ofW (cc := cX11_taken) (maxL := 5) (ret := (some .int)) (by decide) rfl ?_
  intro p e s m args below meth c s₁ B hml hv
  obtain ⟨rfl, hP, hKK, hAB⟩ := hv
  obtain ⟨t9, f9, hZ, hT⟩ := id hAB
  have hx := B.exec
  have hb := B.bytes
  have hr := B.returns
  have hts := atoms_spec (ws := wsX11_taken) B.pre
  have hown : s.vm.findClass RX11 = some m.cls := findClass_of_methodNamed B.named
  have hlocks := B.notSynchronized
  have hK := hKK.1
  have hin11 : ∀ w ∈ wsX110, w ∈ wsX11_taken := by decide +kernel
  have hl := lv_entry ([.ref (a 0), .int x0, .int x1]) (n := 5) (Nat.le_of_ble_eq_true rfl)
  rw [lg_entry_eq]
  generalize (lg_sl ([.ref (a 0), .int x0, .int x1]) ++ List.replicate (5 - (lg_sl ([.ref (a 0), .int x0, .int x1])).length) Slot.unset).toArray = ls at hl ⊢
  have hl : lv_has ls 5 [(0, .ref (a 0)), (1, .int x0), (2, .int x1)] := hl
  have ct29 : ∀ (y29_l3 : Int32) (ls : Array Slot), Rg 0 3 x0 → Rg 0 1 y29_l3 → lv_has ls 5 [(0, .ref (a 0)), (1, .int x0), (2, .int x1), (3, .int y29_l3)] → W p l e (headSpec wsX11_taken ({ frames := 2, cells := 0, slots := 0, locals := 80 })).room s m ([.ref (a 0), .int x0, .int x1]).toArray below meth c s.heap [] 0 0 (MQ below (vp_Si (fun r => Rg (-2147483648) 2147483647 r ∧ True)) ([.ref (a 0), .int x0, .int x1]).toArray s 0 0 (fun _ => False)) (F0 m 29 ls []) := by
    intro y29_l3 ls g29_l1 g29_l3 hl
    refine lv_aload_n hx hb dX11_taken_29 rfl (lv_at hl 0 rfl) ?_
    refine va_get (D := D) (ci := 11) (v := .ref (a 42)) (C := RX11) (T := TX11) (N := 16) hx hb hts hin11 hown hK hP 0 rfl rfl 15 (by decide) (hts (.fieldLink RX11 92 "MissedPoints" "shelves" "LMissedPoints$Shelves;") (by decide +kernel)) (fun _ h9 => h9) rfl dX11_taken_30 ?_
    refine lv_iload_n hx hb dX11_taken_33 rfl (lv_at hl 1 rfl) ?_
    refine wk_sv 42 (As := [.int x0]) (rest := []) ⟨hx, hb, hml, hown, hts⟩ (k_X7_isEmpty l D cI cS a na nc N L u hL hN x0) hKK hP (ci := 7) rfl rfl (cwV 1 hts gX11_taken_X7_isEmpty rfl rfl rfl (by decide +kernel) ⟨Nat.le_of_ble_eq_true rfl, Nat.le_of_ble_eq_true rfl⟩) rfl hl.1 rfl (Nat.le_of_ble_eq_true rfl) dX11_taken_34 ⟨Nat.le_of_ble_eq_true rfl, Nat.le_of_ble_eq_true rfl⟩ (fun r47919 hr47919 => ?_)
    refine lv_if_eq (tgt := 43) hx hb dX11_taken_37 (by decide) (fun c47920 => ?_) (fun c47920 => ?_)
    · have g47921 : Rg 0 0 r47919 := wk_eql hr47919.1 (by decide : Rg 0 0 (0 : Int32)) c47920 (by decide)
      refine lv_iload_n hx hb dX11_taken_43 rfl (lv_at hl 3 rfl) ?_
      refine lv_if_eq (tgt := 59) hx hb dX11_taken_44 (by decide) (fun c47922 => ?_) (fun c47922 => ?_)
      · have g47923 : Rg 0 0 y29_l3 := wk_eql g29_l3 (by decide : Rg 0 0 (0 : Int32)) c47922 (by decide)
        refine lv_aload_n hx hb dX11_taken_59 rfl (lv_at hl 0 rfl) ?_
        refine va_get (D := D) (ci := 11) (v := .ref (a 42)) (C := RX11) (T := TX11) (N := 16) hx hb hts hin11 hown hK hP 0 rfl rfl 15 (by decide) (hts (.fieldLink RX11 92 "MissedPoints" "shelves" "LMissedPoints$Shelves;") (by decide +kernel)) (fun _ h9 => h9) rfl dX11_taken_60 ?_
        refine lv_iload_n hx hb dX11_taken_63 rfl (lv_at hl 1 rfl) ?_
        refine lv_iload_n hx hb dX11_taken_64 rfl (lv_at hl 2 rfl) ?_
        refine wk_sv 42 (As := [.int x0, .int x1]) (rest := []) ⟨hx, hb, hml, hown, hts⟩ (k_X7_holdsRow l D cI cS a na nc N L u hL hN x0 x1) hKK hP (ci := 7) rfl rfl (cwV 2 hts gX11_taken_X7_holdsRow rfl rfl rfl (by decide +kernel) ⟨Nat.le_of_ble_eq_true rfl, Nat.le_of_ble_eq_true rfl⟩) rfl hl.1 rfl (Nat.le_of_ble_eq_true rfl) dX11_taken_65 ⟨Nat.le_of_ble_eq_true rfl, Nat.le_of_ble_eq_true rfl⟩ (fun r47924 hr47924 => ?_)
        refine lv_istore (lv' := [(4, .int r47924), (0, .ref (a 0)), (1, .int x0), (2, .int x1), (3, .int y29_l3)]) hx hb dX11_taken_68 hl (by decide) rfl (fun ls hl => ?_)
        refine lv_iload hx hb dX11_taken_70 (lv_at hl 0 rfl) ?_
        refine lv_if_eq (tgt := 86) hx hb dX11_taken_72 (by decide) (fun c47925 => ?_) (fun c47925 => ?_)
        · have g47926 : Rg 0 0 r47924 := wk_eql hr47924.1 (by decide : Rg 0 0 (0 : Int32)) c47925 (by decide)
          refine lv_bipush (v := (-13)) hx hb dX11_taken_86 (by decide) ?_
          exact W.iret (v := (-13)) hx hb hr (fun t ht hW => ⟨_, rfl, ⟨(by decide : Rg (-2147483648) 2147483647 ((-13) : Int32)), trivial⟩, ht⟩) (fun q hq => absurd hq List.not_mem_nil) dX11_taken_88
        · have g47927 : Rg 1 1 r47924 := rg_ne_lo (k := 0) hr47924.1 (by decide) c47925 (by decide)
          refine lv_aload_n hx hb dX11_taken_75 rfl (lv_at hl 1 rfl) ?_
          refine va_get (D := D) (ci := 11) (v := .ref (a 42)) (C := RX11) (T := TX11) (N := 16) hx hb hts hin11 hown hK hP 0 rfl rfl 15 (by decide) (hts (.fieldLink RX11 92 "MissedPoints" "shelves" "LMissedPoints$Shelves;") (by decide +kernel)) (fun _ h9 => h9) rfl dX11_taken_76 ?_
          refine lv_iload_n hx hb dX11_taken_79 rfl (lv_at hl 2 rfl) ?_
          refine wk_sv 42 (As := [.int x0]) (rest := []) ⟨hx, hb, hml, hown, hts⟩ (k_X7_worthOf l D cI cS a na nc N L u hL hN x0) hKK hP (ci := 7) rfl rfl (cwV 1 hts gX11_taken_X7_worthOf rfl rfl rfl (by decide +kernel) ⟨Nat.le_of_ble_eq_true rfl, Nat.le_of_ble_eq_true rfl⟩) rfl hl.1 rfl (Nat.le_of_ble_eq_true rfl) dX11_taken_80 ⟨Nat.le_of_ble_eq_true rfl, Nat.le_of_ble_eq_true rfl⟩ (fun r47928 hr47928 => ?_)
          refine lv_goto (tgt := 88) hx hb dX11_taken_83 (by decide) ?_
          exact W.iret (v := r47928) hx hb hr (fun t ht hW => ⟨_, rfl, ⟨hr47928.1, trivial⟩, ht⟩) (fun q hq => absurd hq List.not_mem_nil) dX11_taken_88
      · have g47929 : Rg 1 1 y29_l3 := rg_ne_lo (k := 0) g29_l3 (by decide) c47922 (by decide)
        refine lv_aload_n hx hb dX11_taken_47 rfl (lv_at hl 0 rfl) ?_
        refine va_get (D := D) (ci := 11) (v := .ref (a 42)) (C := RX11) (T := TX11) (N := 16) hx hb hts hin11 hown hK hP 0 rfl rfl 15 (by decide) (hts (.fieldLink RX11 92 "MissedPoints" "shelves" "LMissedPoints$Shelves;") (by decide +kernel)) (fun _ h9 => h9) rfl dX11_taken_48 ?_
        refine lv_iload_n hx hb dX11_taken_51 rfl (lv_at hl 1 rfl) ?_
        refine lv_iload_n hx hb dX11_taken_52 rfl (lv_at hl 2 rfl) ?_
        refine wk_svT 42 (As := [.int x0, .int x1]) (rest := []) ⟨hx, hb, hml, hown, hts⟩ (k_X7_holdsThing l D cI cS a na nc N L u hL hN x0 x1) hKK hAB hP (ci := 7) rfl rfl (cwV 2 hts gX11_taken_X7_holdsThing rfl rfl rfl (by decide +kernel) ⟨Nat.le_of_ble_eq_true rfl, Nat.le_of_ble_eq_true rfl⟩) rfl hl.1 rfl (Nat.le_of_ble_eq_true rfl) dX11_taken_53 ⟨Nat.le_of_ble_eq_true rfl, Nat.le_of_ble_eq_true rfl⟩ (fun r47930 hr47930 => ?_)
        refine lv_goto (tgt := 68) hx hb dX11_taken_56 (by decide) ?_
        refine lv_istore (lv' := [(4, .int r47930), (0, .ref (a 0)), (1, .int x0), (2, .int x1), (3, .int y29_l3)]) hx hb dX11_taken_68 hl (by decide) rfl (fun ls hl => ?_)
        refine lv_iload hx hb dX11_taken_70 (lv_at hl 0 rfl) ?_
        refine lv_if_eq (tgt := 86) hx hb dX11_taken_72 (by decide) (fun c47931 => ?_) (fun c47931 => ?_)
        · have g47932 : Rg 0 0 r47930 := wk_eql hr47930.1 (by decide : Rg 0 0 (0 : Int32)) c47931 (by decide)
          refine lv_bipush (v := (-13)) hx hb dX11_taken_86 (by decide) ?_
          exact W.iret (v := (-13)) hx hb hr (fun t ht hW => ⟨_, rfl, ⟨(by decide : Rg (-2147483648) 2147483647 ((-13) : Int32)), trivial⟩, ht⟩) (fun q hq => absurd hq List.not_mem_nil) dX11_taken_88
        · have g47933 : Rg 0 5 x1 := (hr47930.2 c47931)
          have g47934 : Rg 1 1 r47930 := rg_ne_lo (k := 0) hr47930.1 (by decide) c47931 (by decide)
          refine lv_aload_n hx hb dX11_taken_75 rfl (lv_at hl 1 rfl) ?_
          refine va_get (D := D) (ci := 11) (v := .ref (a 42)) (C := RX11) (T := TX11) (N := 16) hx hb hts hin11 hown hK hP 0 rfl rfl 15 (by decide) (hts (.fieldLink RX11 92 "MissedPoints" "shelves" "LMissedPoints$Shelves;") (by decide +kernel)) (fun _ h9 => h9) rfl dX11_taken_76 ?_
          refine lv_iload_n hx hb dX11_taken_79 rfl (lv_at hl 2 rfl) ?_
          refine wk_sv 42 (As := [.int x0]) (rest := []) ⟨hx, hb, hml, hown, hts⟩ (k_X7_worthOf l D cI cS a na nc N L u hL hN x0) hKK hP (ci := 7) rfl rfl (cwV 1 hts gX11_taken_X7_worthOf rfl rfl rfl (by decide +kernel) ⟨Nat.le_of_ble_eq_true rfl, Nat.le_of_ble_eq_true rfl⟩) rfl hl.1 rfl (Nat.le_of_ble_eq_true rfl) dX11_taken_80 ⟨Nat.le_of_ble_eq_true rfl, Nat.le_of_ble_eq_true rfl⟩ (fun r47935 hr47935 => ?_)
          refine lv_goto (tgt := 88) hx hb dX11_taken_83 (by decide) ?_
          exact W.iret (v := r47935) hx hb hr (fun t ht hW => ⟨_, rfl, ⟨hr47935.1, trivial⟩, ht⟩) (fun q hq => absurd hq List.not_mem_nil) dX11_taken_88
    · have g47936 : Rg 1 1 r47919 := rg_ne_lo (k := 0) hr47919.1 (by decide) c47920 (by decide)
      refine lv_bipush (v := (-11)) hx hb dX11_taken_40 (by decide) ?_
      exact W.iret (v := (-11)) hx hb hr (fun t ht hW => ⟨_, rfl, ⟨(by decide : Rg (-2147483648) 2147483647 ((-11) : Int32)), trivial⟩, ht⟩) (fun q hq => absurd hq List.not_mem_nil) dX11_taken_42
  refine lv_iload_n hx hb dX11_taken_0 rfl (lv_at hl 2 rfl) ?_
  refine lz_ss (As := [.int x1]) (rest := []) ⟨hx, hb, hml, hown, hts⟩ (k_X11_isKind l D cI cS x1) hKK (hP.sub (ws' := []) [] rfl) (va_cwS 1 hts gX11_taken_X11_isKind rfl rfl rfl (by decide +kernel) ⟨Nat.le_of_ble_eq_true rfl, Nat.le_of_ble_eq_true rfl⟩) rfl hl.1 rfl (Nat.le_of_ble_eq_true rfl) dX11_taken_1 ⟨Nat.le_of_ble_eq_true rfl, Nat.le_of_ble_eq_true rfl⟩ (fun r47937 hr47937 => ?_)
  refine lv_istore_n (lv' := [(3, .int r47937), (0, .ref (a 0)), (1, .int x0), (2, .int x1)]) hx hb dX11_taken_4 rfl hl (by decide) rfl (fun ls hl => ?_)
  refine lv_iload_n hx hb dX11_taken_5 rfl (lv_at hl 2 rfl) ?_
  refine lz_ss (As := [.int x0]) (rest := []) ⟨hx, hb, hml, hown, hts⟩ (k_X11_isShelf l D cI cS x0) hKK (hP.sub (ws' := []) [] rfl) (va_cwS 1 hts gX11_taken_X11_isShelf rfl rfl rfl (by decide +kernel) ⟨Nat.le_of_ble_eq_true rfl, Nat.le_of_ble_eq_true rfl⟩) rfl hl.1 rfl (Nat.le_of_ble_eq_true rfl) dX11_taken_6 ⟨Nat.le_of_ble_eq_true rfl, Nat.le_of_ble_eq_true rfl⟩ (fun r47938 hr47938 => ?_)
  refine lv_if_eq (tgt := 26) hx hb dX11_taken_9 (by decide) (fun c47939 => ?_) (fun c47939 => ?_)
  · have g47940 : Rg 0 0 r47938 := wk_eql hr47938.1 (by decide : Rg 0 0 (0 : Int32)) c47939 (by decide)
    refine lv_bipush (v := (-2)) hx hb dX11_taken_26 (by decide) ?_
    exact W.iret (v := (-2)) hx hb hr (fun t ht hW => ⟨_, rfl, ⟨(by decide : Rg (-2147483648) 2147483647 ((-2) : Int32)), trivial⟩, ht⟩) (fun q hq => absurd hq List.not_mem_nil) dX11_taken_28
  · have g47941 : Rg 0 3 x0 := (hr47938.2 c47939)
    have g47942 : Rg 1 1 r47938 := rg_ne_lo (k := 0) hr47938.1 (by decide) c47939 (by decide)
    refine lv_iload_n hx hb dX11_taken_12 rfl (lv_at hl 0 rfl) ?_
    refine lv_if_ne (tgt := 29) hx hb dX11_taken_13 (by decide) (fun c47943 => ?_) (fun c47943 => ?_)
    · have g47944 : Rg 0 5 x1 := (hr47937.2 c47943)
      have g47945 : Rg 1 1 r47937 := rg_ne_lo (k := 0) hr47937.1 (by decide) c47943 (by decide)
      exact ct29 r47937 ls g47941 (show Rg 0 1 r47937 from rg_w g47945 (by decide) (by decide)) (lv_sub (l' := [(0, .ref (a 0)), (1, .int x0), (2, .int x1), (3, .int r47937)]) hl [1, 2, 3, 0] rfl)
    · have g47946 : Rg 0 0 r47937 := wk_eql hr47937.1 (by decide : Rg 0 0 (0 : Int32)) c47943 (by decide)
      refine lv_iload_n hx hb dX11_taken_16 rfl (lv_at hl 3 rfl) ?_
      refine lv_bipush (v := 10) hx hb dX11_taken_17 (by decide) ?_
      refine lv_isub hx hb dX11_taken_19 ?_
      refine wk_topP (P := fun r => r = x1 - (10 : Int32)) rfl (fun r47947 qr47947 => ?_)
      refine lz_ss (As := [.int r47947]) (rest := []) ⟨hx, hb, hml, hown, hts⟩ (k_X11_isSort l D cI cS r47947) hKK (hP.sub (ws' := []) [] rfl) (va_cwS 1 hts gX11_taken_X11_isSort rfl rfl rfl (by decide +kernel) ⟨Nat.le_of_ble_eq_true rfl, Nat.le_of_ble_eq_true rfl⟩) rfl hl.1 rfl (Nat.le_of_ble_eq_true rfl) dX11_taken_20 ⟨Nat.le_of_ble_eq_true rfl, Nat.le_of_ble_eq_true rfl⟩ (fun r47948 hr47948 => ?_)
      refine lv_if_ne (tgt := 29) hx hb dX11_taken_23 (by decide) (fun c47949 => ?_) (fun c47949 => ?_)
      · have g47950 : Rg 1 1 r47948 := rg_ne_lo (k := 0) hr47948.1 (by decide) c47949 (by decide)
        exact ct29 r47937 ls g47941 (show Rg 0 1 r47937 from rg_w g47946 (by decide) (by decide)) (lv_sub (l' := [(0, .ref (a 0)), (1, .int x0), (2, .int x1), (3, .int r47937)]) hl [1, 2, 3, 0] rfl)
      · have g47951 : Rg 0 0 r47948 := wk_eql hr47948.1 (by decide : Rg 0 0 (0 : Int32)) c47949 (by decide)
        refine lv_bipush (v := (-2)) hx hb dX11_taken_26 (by decide) ?_
        exact W.iret (v := (-2)) hx hb hr (fun t ht hW => ⟨_, rfl, ⟨(by decide : Rg (-2147483648) 2147483647 ((-2) : Int32)), trivial⟩, ht⟩) (fun q hq => absurd hq List.not_mem_nil) dX11_taken_28
set_option maxHeartbeats 4000000 in
set_option maxRecDepth 100000 in
theorem k_X11_held (l : Launch) (D : va_G) (cI cS : ClassId) (a : Nat → Nat) (na nc N : Nat) (L u : SU) (hL : TyX L) (hN : N = 0 ∨ N = 24576) (x0 x1 : Int32) : Met l yX11_held wsX11_held ({ frames := 3, cells := 0, slots := 0, locals := 120 }) (PT D cI cS (wX cI cS a na nc N L u) [.ref (a 0), .int x0, .int x1]) (vp_Si (fun r => Rg (-2147483648) 2147483647 r ∧ True)) 0 0 (fun _ => False) := by
  refine Met.ofW (cc := cX11_held) (maxL := 3) (ret := (some .int)) (by decide) rfl ?_
  intro p e s m args below meth c s₁ B hml hv
  obtain ⟨rfl, hP, hKK, hAB⟩ := hv
  obtain ⟨t9, f9, hZ, hT⟩ := id hAB
  have hx := B.exec
  have hb := B.bytes
  have hr := B.returns
  have hts := atoms_spec (ws := wsX11_held) B.pre
  have hown : s.vm.findClass RX11 = some m.cls := findClass_of_methodNamed B.named
  have hlocks := B.notSynchronized
  have hK := hKK.1
  have hin11 : ∀ w ∈ wsX110, w ∈ wsX11_held := by decide +kernel
  have hl := lv_entry ([.ref (a 0), .int x0, .int x1]) (n := 3) (Nat.le_of_ble_eq_true rfl)
  rw [lg_entry_eq]
  generalize (lg_sl ([.ref (a 0), .int x0, .int x1]) ++ List.replicate (3 - (lg_sl ([.ref (a 0), .int x0, .int x1])).length) Slot.unset).toArray = ls at hl ⊢
  have hl : lv_has ls 3 [(0, .ref (a 0)), (1, .int x0), (2, .int x1)] := hl
  refine lv_iload_n hx hb dX11_held_0 rfl (lv_at hl 1 rfl) ?_
  refine lz_ss (As := [.int x0]) (rest := []) ⟨hx, hb, hml, hown, hts⟩ (k_X11_isKind l D cI cS x0) hKK (hP.sub (ws' := []) [] rfl) (va_cwS 1 hts gX11_held_X11_isKind rfl rfl rfl (by decide +kernel) ⟨Nat.le_of_ble_eq_true rfl, Nat.le_of_ble_eq_true rfl⟩) rfl hl.1 rfl (Nat.le_of_ble_eq_true rfl) dX11_held_1 ⟨Nat.le_of_ble_eq_true rfl, Nat.le_of_ble_eq_true rfl⟩ (fun r47972 hr47972 => ?_)
  refine lv_if_eq (tgt := 16) hx hb dX11_held_4 (by decide) (fun c47973 => ?_) (fun c47973 => ?_)
  · have g47974 : Rg 0 0 r47972 := wk_eql hr47972.1 (by decide : Rg 0 0 (0 : Int32)) c47973 (by decide)
    refine lv_bipush (v := (-2)) hx hb dX11_held_16 (by decide) ?_
    exact W.iret (v := (-2)) hx hb hr (fun t ht hW => ⟨_, rfl, ⟨(by decide : Rg (-2147483648) 2147483647 ((-2) : Int32)), trivial⟩, ht⟩) (fun q hq => absurd hq List.not_mem_nil) dX11_held_18
  · have g47975 : Rg 0 5 x0 := (hr47972.2 c47973)
    have g47976 : Rg 1 1 r47972 := rg_ne_lo (k := 0) hr47972.1 (by decide) c47973 (by decide)
    refine lv_iload_n hx hb dX11_held_7 rfl (lv_at hl 2 rfl) ?_
    refine lv_if_lt (tgt := 16) hx hb dX11_held_8 (by decide) (fun c47977 => ?_) (fun c47977 => ?_)
    · have g47978 : Rg (-2147483648) (-1) x1 := rg_ltl (rg_any x1) (by decide : Rg 0 0 (0 : Int32)) c47977 (by decide)
      refine lv_bipush (v := (-2)) hx hb dX11_held_16 (by decide) ?_
      exact W.iret (v := (-2)) hx hb hr (fun t ht hW => ⟨_, rfl, ⟨(by decide : Rg (-2147483648) 2147483647 ((-2) : Int32)), trivial⟩, ht⟩) (fun q hq => absurd hq List.not_mem_nil) dX11_held_18
    · have g47979 : Rg 0 2147483647 x1 := rg_ler (by decide : Rg 0 0 (0 : Int32)) (rg_any x1) (rg_nlt c47977) (by decide)
      refine lv_iload_n hx hb dX11_held_11 rfl (lv_at hl 2 rfl) ?_
      refine lv_iconst (v := 2) hx hb dX11_held_12 (by decide) ?_
      refine lv_icmp_le (tgt := 19) hx hb dX11_held_13 (by decide) (fun c47980 => ?_) (fun c47980 => ?_)
      · have g47981 : Rg 0 2 x1 := rg_lel g47979 (by decide : Rg 2 2 (2 : Int32)) c47980 (by decide)
        refine lv_iload_n hx hb dX11_held_19 rfl (lv_at hl 2 rfl) ?_
        refine lv_if_ne (tgt := 32) hx hb dX11_held_20 (by decide) (fun c47982 => ?_) (fun c47982 => ?_)
        · have g47983 : Rg 1 2 x1 := rg_ne_lo (k := 0) g47981 (by decide) c47982 (by decide)
          refine lv_iload_n hx hb dX11_held_32 rfl (lv_at hl 2 rfl) ?_
          refine lv_iconst (v := 1) hx hb dX11_held_33 (by decide) ?_
          refine lv_icmp_ne (tgt := 48) hx hb dX11_held_34 (by decide) (fun c47984 => ?_) (fun c47984 => ?_)
          · have g47985 : Rg 2 2 x1 := rg_ne_lo (k := 1) g47983 (by decide) c47984 (by decide)
            refine lv_aload_n hx hb dX11_held_48 rfl (lv_at hl 0 rfl) ?_
            refine va_get (D := D) (ci := 11) (v := .ref (a 42)) (C := RX11) (T := TX11) (N := 16) hx hb hts hin11 hown hK hP 0 rfl rfl 15 (by decide) (hts (.fieldLink RX11 92 "MissedPoints" "shelves" "LMissedPoints$Shelves;") (by decide +kernel)) (fun _ h9 => h9) rfl dX11_held_49 ?_
            refine lv_iload_n hx hb dX11_held_52 rfl (lv_at hl 1 rfl) ?_
            refine wk_svT 42 (As := [.int x0]) (rest := []) ⟨hx, hb, hml, hown, hts⟩ (k_X7_fullestOf l D cI cS a na nc N L u hL hN x0) hKK hAB hP (ci := 7) rfl rfl (cwV 1 hts gX11_held_X7_fullestOf rfl rfl rfl (by decide +kernel) ⟨Nat.le_of_ble_eq_true rfl, Nat.le_of_ble_eq_true rfl⟩) rfl hl.1 rfl (Nat.le_of_ble_eq_true rfl) dX11_held_53 ⟨Nat.le_of_ble_eq_true rfl, Nat.le_of_ble_eq_true rfl⟩ (fun r47986 hr47986 => ?_)
            exact W.iret (v := r47986) hx hb hr (fun t ht hW => ⟨_, rfl, ⟨(rg_any r47986), trivial⟩, ht⟩) (fun q hq => absurd hq List.not_mem_nil) dX11_held_56
          · have g47987 : Rg 1 1 x1 := wk_eql g47983 (by decide : Rg 1 1 (1 : Int32)) c47984 (by decide)
            refine lv_aload_n hx hb dX11_held_37 rfl (lv_at hl 0 rfl) ?_
            refine va_get (D := D) (ci := 11) (v := .ref (a 42)) (C := RX11) (T := TX11) (N := 16) hx hb hts hin11 hown hK hP 0 rfl rfl 15 (by decide) (hts (.fieldLink RX11 92 "MissedPoints" "shelves" "LMissedPoints$Shelves;") (by decide +kernel)) (fun _ h9 => h9) rfl dX11_held_38 ?_
            refine lv_iload_n hx hb dX11_held_41 rfl (lv_at hl 1 rfl) ?_
            refine wk_svT 42 (As := [.int x0]) (rest := []) ⟨hx, hb, hml, hown, hts⟩ (k_X7_pointsOf l D cI cS a na nc N L u hL hN x0) hKK hAB hP (ci := 7) rfl rfl (cwV 1 hts gX11_held_X7_pointsOf rfl rfl rfl (by decide +kernel) ⟨Nat.le_of_ble_eq_true rfl, Nat.le_of_ble_eq_true rfl⟩) rfl hl.1 rfl (Nat.le_of_ble_eq_true rfl) dX11_held_42 ⟨Nat.le_of_ble_eq_true rfl, Nat.le_of_ble_eq_true rfl⟩ (fun r47988 hr47988 => ?_)
            refine lv_goto (tgt := 56) hx hb dX11_held_45 (by decide) ?_
            exact W.iret (v := r47988) hx hb hr (fun t ht hW => ⟨_, rfl, ⟨hr47988.1, trivial⟩, ht⟩) (fun q hq => absurd hq List.not_mem_nil) dX11_held_56
        · have g47989 : Rg 0 0 x1 := wk_eql g47981 (by decide : Rg 0 0 (0 : Int32)) c47982 (by decide)
          refine lv_aload_n hx hb dX11_held_23 rfl (lv_at hl 0 rfl) ?_
          refine va_get (D := D) (ci := 11) (v := .ref (a 42)) (C := RX11) (T := TX11) (N := 16) hx hb hts hin11 hown hK hP 0 rfl rfl 15 (by decide) (hts (.fieldLink RX11 92 "MissedPoints" "shelves" "LMissedPoints$Shelves;") (by decide +kernel)) (fun _ h9 => h9) rfl dX11_held_24 ?_
          refine lv_iload_n hx hb dX11_held_27 rfl (lv_at hl 1 rfl) ?_
          refine wk_svT 42 (As := [.int x0]) (rest := []) ⟨hx, hb, hml, hown, hts⟩ (k_X7_countOf l D cI cS a na nc N L u hL hN x0) hKK hAB hP (ci := 7) rfl rfl (cwV 1 hts gX11_held_X7_countOf rfl rfl rfl (by decide +kernel) ⟨Nat.le_of_ble_eq_true rfl, Nat.le_of_ble_eq_true rfl⟩) rfl hl.1 rfl (Nat.le_of_ble_eq_true rfl) dX11_held_28 ⟨Nat.le_of_ble_eq_true rfl, Nat.le_of_ble_eq_true rfl⟩ (fun r47990 hr47990 => ?_)
          exact W.iret (v := r47990) hx hb hr (fun t ht hW => ⟨_, rfl, ⟨hr47990.1, trivial⟩, ht⟩) (fun q hq => absurd hq List.not_mem_nil) dX11_held_31
      · have g47991 : Rg 3 2147483647 x1 := rg_ltr (by decide : Rg 2 2 (2 : Int32)) g47979 (rg_nle c47980) (by decide)
        refine lv_bipush (v := (-2)) hx hb dX11_held_16 (by decide) ?_
        exact W.iret (v := (-2)) hx hb hr (fun t ht hW => ⟨_, rfl, ⟨(by decide : Rg (-2147483648) 2147483647 ((-2) : Int32)), trivial⟩, ht⟩) (fun q hq => absurd hq List.not_mem_nil) dX11_held_18
set_option maxHeartbeats 4000000 in
set_option maxRecDepth 100000 in
theorem k_X2_all_3 (l : Launch) (D : va_G) (cI cS : ClassId) (a : Nat → Nat) (na nc N : Nat) (L u : SU) (hL : TyX L) (hN : N = 0 ∨ N = 24576) : Met l yX2_all wsX2_all ({ frames := 0, cells := 0, slots := 0, locals := 0 }) (PS D cI cS (wX cI cS a na nc N L u) [.ref (a 3)]) (vp_Si (fun r => Rg 0 4095 r ∧ True)) 0 0 (fun _ => False) := by
  refine Met.ofW (cc := cX2_all) (maxL := 1) (ret := (some .int)) (by decide) rfl ?_
  intro p e s m args below meth c s₁ B hml hv
  obtain ⟨rfl, hP, hKK⟩ := hv
  have hx := B.exec
  have hb := B.bytes
  have hr := B.returns
  have hts := atoms_spec (ws := wsX2_all) B.pre
  have hown : s.vm.findClass RX2 = some m.cls := findClass_of_methodNamed B.named
  have hlocks := B.notSynchronized
  have hK := hKK.1
  have hin2 : ∀ w ∈ wsX20, w ∈ wsX2_all := by decide +kernel
  have hl := lv_entry ([.ref (a 3)]) (n := 1) (Nat.le_of_ble_eq_true rfl)
  rw [lg_entry_eq]
  generalize (lg_sl ([.ref (a 3)]) ++ List.replicate (1 - (lg_sl ([.ref (a 3)])).length) Slot.unset).toArray = ls at hl ⊢
  have hl : lv_has ls 1 [(0, .ref (a 3))] := hl
  refine lv_iconst (v := 1) hx hb dX2_all_0 (by decide) ?_
  refine lv_aload_n hx hb dX2_all_1 rfl (lv_at hl 0 rfl) ?_
  refine va_get (D := D) (ci := 2) (v := .int (L 3 1)) (C := RX2) (T := TX2) (N := 3) hx hb hts hin2 hown hK hP 3 rfl rfl 1 (by decide) (hts (.fieldLink RX2 15 "MissedPoints$Net" "size" "I") (by decide +kernel)) (fun _ h9 => h9) rfl dX2_all_2 ?_
  refine wk_ishl1 (f := 4096) hx hb dX2_all_5 hL.2.1 (by decide) (fun r47994 hr47994 qr47994 => ?_)
  refine lv_iconst (v := 1) hx hb dX2_all_6 (by decide) ?_
  refine wk_isub (e1 := 0) (f := 4095) hx hb dX2_all_7 hr47994 (by decide : Rg 1 1 (1 : Int32)) (by decide) (fun r47995 hr47995 er47995 qr47995 => ?_)
  exact W.iret (v := r47995) hx hb hr (fun t ht hW => ⟨_, rfl, ⟨hr47995, trivial⟩, ht⟩) (fun q hq => absurd hq List.not_mem_nil) dX2_all_8
set_option maxHeartbeats 4000000 in
set_option maxRecDepth 100000 in
theorem k_X2_hasPoint_3 (l : Launch) (D : va_G) (cI cS : ClassId) (a : Nat → Nat) (na nc N : Nat) (L u : SU) (hL : TyX L) (hN : N = 0 ∨ N = 24576) (x0 : Int32) : Met l yX2_hasPoint wsX2_hasPoint ({ frames := 0, cells := 0, slots := 0, locals := 0 }) (PS D cI cS (wX cI cS a na nc N L u) [.ref (a 3), .int x0]) (vp_Si (fun r => Rg 0 1 r ∧ (r ≠ 0 → Rg 0 11 x0))) 0 0 (fun _ => False) := by
  refine Met.ofW (cc := cX2_hasPoint) (maxL := 2) (ret := (some .boolean)) (by decide) rfl ?_
  intro p e s m args below meth c s₁ B hml hv
  obtain ⟨rfl, hP, hKK⟩ := hv
  have hx := B.exec
  have hb := B.bytes
  have hr := B.returns
  have hts := atoms_spec (ws := wsX2_hasPoint) B.pre
  have hown : s.vm.findClass RX2 = some m.cls := findClass_of_methodNamed B.named
  have hlocks := B.notSynchronized
  have hK := hKK.1
  have hin2 : ∀ w ∈ wsX20, w ∈ wsX2_hasPoint := by decide +kernel
  have hl := lv_entry ([.ref (a 3), .int x0]) (n := 2) (Nat.le_of_ble_eq_true rfl)
  rw [lg_entry_eq]
  generalize (lg_sl ([.ref (a 3), .int x0]) ++ List.replicate (2 - (lg_sl ([.ref (a 3), .int x0])).length) Slot.unset).toArray = ls at hl ⊢
  have hl : lv_has ls 2 [(0, .ref (a 3)), (1, .int x0)] := hl
  refine lv_iload_n hx hb dX2_hasPoint_0 rfl (lv_at hl 1 rfl) ?_
  refine lv_if_lt (tgt := 16) hx hb dX2_hasPoint_1 (by decide) (fun c48002 => ?_) (fun c48002 => ?_)
  · have g48003 : Rg (-2147483648) (-1) x0 := rg_ltl (rg_any x0) (by decide : Rg 0 0 (0 : Int32)) c48002 (by decide)
    refine lv_iconst (v := 0) hx hb dX2_hasPoint_16 (by decide) ?_
    exact W.zret (v := 0) hx hb hr (by decide) (fun t ht hW => ⟨_, rfl, ⟨(by decide : Rg 0 1 (0 : Int32)), fun h9 => absurd rfl h9⟩, ht⟩) (fun q hq => absurd hq List.not_mem_nil) dX2_hasPoint_17
  · have g48004 : Rg 0 2147483647 x0 := rg_ler (by decide : Rg 0 0 (0 : Int32)) (rg_any x0) (rg_nlt c48002) (by decide)
    refine lv_iload_n hx hb dX2_hasPoint_4 rfl (lv_at hl 1 rfl) ?_
    refine lv_aload_n hx hb dX2_hasPoint_5 rfl (lv_at hl 0 rfl) ?_
    refine va_get (D := D) (ci := 2) (v := .int (L 3 1)) (C := RX2) (T := TX2) (N := 3) hx hb hts hin2 hown hK hP 3 rfl rfl 1 (by decide) (hts (.fieldLink RX2 15 "MissedPoints$Net" "size" "I") (by decide +kernel)) (fun _ h9 => h9) rfl dX2_hasPoint_6 ?_
    refine lv_icmp_ge (tgt := 16) hx hb dX2_hasPoint_9 (by decide) (fun c48005 => ?_) (fun c48005 => ?_)
    · refine lv_iconst (v := 0) hx hb dX2_hasPoint_16 (by decide) ?_
      exact W.zret (v := 0) hx hb hr (by decide) (fun t ht hW => ⟨_, rfl, ⟨(by decide : Rg 0 1 (0 : Int32)), fun h9 => absurd rfl h9⟩, ht⟩) (fun q hq => absurd hq List.not_mem_nil) dX2_hasPoint_17
    · have g48006 : Rg 1 12 (L 3 1) := rg_ltr g48004 hL.2.1 (rg_nle c48005) (by decide)
      have g48007 : Rg 0 11 x0 := rg_ltl g48004 hL.2.1 (rg_nle c48005) (by decide)
      refine lv_iconst (v := 1) hx hb dX2_hasPoint_12 (by decide) ?_
      refine lv_goto (tgt := 17) hx hb dX2_hasPoint_13 (by decide) ?_
      exact W.zret (v := 1) hx hb hr (by decide) (fun t ht hW => ⟨_, rfl, ⟨(by decide : Rg 0 1 (1 : Int32)), fun _ => g48007⟩, ht⟩) (fun q hq => absurd hq List.not_mem_nil) dX2_hasPoint_17
set_option maxHeartbeats 4000000 in
set_option maxRecDepth 100000 in
theorem k_X2_areTwo_3 (l : Launch) (D : va_G) (cI cS : ClassId) (a : Nat → Nat) (na nc N : Nat) (L u : SU) (hL : TyX L) (hN : N = 0 ∨ N = 24576) (x0 x1 : Int32) : Met l yX2_areTwo wsX2_areTwo ({ frames := 1, cells := 0, slots := 0, locals := 40 }) (PS D cI cS (wX cI cS a na nc N L u) [.ref (a 3), .int x0, .int x1]) (vp_Si (fun r => Rg 0 1 r ∧ (r ≠ 0 → Rg 0 11 x0 ∧ Rg 0 11 x1))) 0 0 (fun _ => False) := by
  refine Met.ofW (cc := cX2_areTwo) (maxL := 3) (ret := (some .boolean)) (by decide) rfl ?_
  intro p e s m args below meth c s₁ B hml hv
  obtain ⟨rfl, hP, hKK⟩ := hv
  have hx := B.exec
  have hb := B.bytes
  have hr := B.returns
  have hts := atoms_spec (ws := wsX2_areTwo) B.pre
  have hown : s.vm.findClass RX2 = some m.cls := findClass_of_methodNamed B.named
  have hlocks := B.notSynchronized
  have hK := hKK.1
  have hl := lv_entry ([.ref (a 3), .int x0, .int x1]) (n := 3) (Nat.le_of_ble_eq_true rfl)
  rw [lg_entry_eq]
  generalize (lg_sl ([.ref (a 3), .int x0, .int x1]) ++ List.replicate (3 - (lg_sl ([.ref (a 3), .int x0, .int x1])).length) Slot.unset).toArray = ls at hl ⊢
  have hl : lv_has ls 3 [(0, .ref (a 3)), (1, .int x0), (2, .int x1)] := hl
  refine lv_aload_n hx hb dX2_areTwo_0 rfl (lv_at hl 0 rfl) ?_
  refine lv_iload_n hx hb dX2_areTwo_1 rfl (lv_at hl 1 rfl) ?_
  refine wk_sv 3 (As := [.int x0]) (rest := []) ⟨hx, hb, hml, hown, hts⟩ (k_X2_hasPoint_3 l D cI cS a na nc N L u hL hN x0) hKK hP (ci := 2) rfl rfl (cwV 1 hts gX2_areTwo_X2_hasPoint rfl rfl rfl (by decide +kernel) ⟨Nat.le_of_ble_eq_true rfl, Nat.le_of_ble_eq_true rfl⟩) rfl hl.1 rfl (Nat.le_of_ble_eq_true rfl) dX2_areTwo_2 ⟨Nat.le_of_ble_eq_true rfl, Nat.le_of_ble_eq_true rfl⟩ (fun r48019 hr48019 => ?_)
  refine lv_if_eq (tgt := 25) hx hb dX2_areTwo_5 (by decide) (fun c48020 => ?_) (fun c48020 => ?_)
  · have g48021 : Rg 0 0 r48019 := wk_eql hr48019.1 (by decide : Rg 0 0 (0 : Int32)) c48020 (by decide)
    refine lv_iconst (v := 0) hx hb dX2_areTwo_25 (by decide) ?_
    exact W.zret (v := 0) hx hb hr (by decide) (fun t ht hW => ⟨_, rfl, ⟨(by decide : Rg 0 1 (0 : Int32)), fun h9 => absurd rfl h9⟩, ht⟩) (fun q hq => absurd hq List.not_mem_nil) dX2_areTwo_26
  · have g48022 : Rg 0 11 x0 := (hr48019.2 c48020)
    have g48023 : Rg 1 1 r48019 := rg_ne_lo (k := 0) hr48019.1 (by decide) c48020 (by decide)
    refine lv_aload_n hx hb dX2_areTwo_8 rfl (lv_at hl 0 rfl) ?_
    refine lv_iload_n hx hb dX2_areTwo_9 rfl (lv_at hl 2 rfl) ?_
    refine wk_sv 3 (As := [.int x1]) (rest := []) ⟨hx, hb, hml, hown, hts⟩ (k_X2_hasPoint_3 l D cI cS a na nc N L u hL hN x1) hKK hP (ci := 2) rfl rfl (cwV 1 hts gX2_areTwo_X2_hasPoint rfl rfl rfl (by decide +kernel) ⟨Nat.le_of_ble_eq_true rfl, Nat.le_of_ble_eq_true rfl⟩) rfl hl.1 rfl (Nat.le_of_ble_eq_true rfl) dX2_areTwo_10 ⟨Nat.le_of_ble_eq_true rfl, Nat.le_of_ble_eq_true rfl⟩ (fun r48024 hr48024 => ?_)
    refine lv_if_eq (tgt := 25) hx hb dX2_areTwo_13 (by decide) (fun c48025 => ?_) (fun c48025 => ?_)
    · have g48026 : Rg 0 0 r48024 := wk_eql hr48024.1 (by decide : Rg 0 0 (0 : Int32)) c48025 (by decide)
      refine lv_iconst (v := 0) hx hb dX2_areTwo_25 (by decide) ?_
      exact W.zret (v := 0) hx hb hr (by decide) (fun t ht hW => ⟨_, rfl, ⟨(by decide : Rg 0 1 (0 : Int32)), fun h9 => absurd rfl h9⟩, ht⟩) (fun q hq => absurd hq List.not_mem_nil) dX2_areTwo_26
    · have g48027 : Rg 0 11 x1 := (hr48024.2 c48025)
      have g48028 : Rg 1 1 r48024 := rg_ne_lo (k := 0) hr48024.1 (by decide) c48025 (by decide)
      refine lv_iload_n hx hb dX2_areTwo_16 rfl (lv_at hl 1 rfl) ?_
      refine lv_iload_n hx hb dX2_areTwo_17 rfl (lv_at hl 2 rfl) ?_
      refine lv_icmp_eq (tgt := 25) hx hb dX2_areTwo_18 (by decide) (fun c48029 => ?_) (fun c48029 => ?_)
      · refine lv_iconst (v := 0) hx hb dX2_areTwo_25 (by decide) ?_
        exact W.zret (v := 0) hx hb hr (by decide) (fun t ht hW => ⟨_, rfl, ⟨(by decide : Rg 0 1 (0 : Int32)), fun h9 => absurd rfl h9⟩, ht⟩) (fun q hq => absurd hq List.not_mem_nil) dX2_areTwo_26
      · refine lv_iconst (v := 1) hx hb dX2_areTwo_21 (by decide) ?_
        refine lv_goto (tgt := 26) hx hb dX2_areTwo_22 (by decide) ?_
        exact W.zret (v := 1) hx hb hr (by decide) (fun t ht hW => ⟨_, rfl, ⟨(by decide : Rg 0 1 (1 : Int32)), fun _ => ⟨g48022, g48027⟩⟩, ht⟩) (fun q hq => absurd hq List.not_mem_nil) dX2_areTwo_26
set_option maxHeartbeats 4000000 in
set_option maxRecDepth 100000 in
theorem k_X2_join_3 (l : Launch) (D : va_G) (cI cS : ClassId) (sz : Nat) (a : Nat → Nat) (na nc N : Nat) (L u0 : SU) (hL : TyX L) (hN : N = 0 ∨ N = 24576) (x0 x1 x2 : Int32) (px2 : Rg 0 1 x2) : Met l yX2_join wsX2_join ({ frames := 2, cells := 0, slots := 0, locals := 80 }) (PQ D cI cS (wX cI cS a na nc N L u0) sz [.ref (a 3), .int x0, .int x1, .int x2]) (QE (S := SU) D (wX cI cS a na nc N L u0) (wX cI cS a na nc N L) sz (fun _ => True)) 0 0 (va_A (wX cI cS a na nc N L u0) sz) := by
  refine Met.ofW (cc := cX2_join) (maxL := 4) (ret := none) (by decide) rfl ?_
  intro p e s m args below meth c s₁ B hml hv
  obtain ⟨rfl, hsz, hP, hKK, hD0⟩ := hv
  have hx := B.exec
  have hb := B.bytes
  have hr := B.returns
  have hts := atoms_spec (ws := wsX2_join) B.pre
  have hown : s.vm.findClass RX2 = some m.cls := findClass_of_methodNamed B.named
  have hlocks := B.notSynchronized
  have hK := hKK.1
  have hin2 : ∀ w ∈ wsX20, w ∈ wsX2_join := by decide +kernel
  subst hsz
  have hD := hD0.self (sz := s.heap.size)
  obtain ⟨A, hAe⟩ : ∃ A, A = va_A (wX cI cS a na nc N L u0) s.heap.size := ⟨_, rfl⟩
  rw [← hAe] at hD
  have hA : ∀ q : Nat, s.heap.size ≤ q → A q := fun q h => by rw [hAe]; exact Or.inr h
  have hS : va_S A s.heap s.heap [] := va_S.rf
  have hl := lv_entry ([.ref (a 3), .int x0, .int x1, .int x2]) (n := 4) (Nat.le_of_ble_eq_true rfl)
  rw [lg_entry_eq]
  generalize (lg_sl ([.ref (a 3), .int x0, .int x1, .int x2]) ++ List.replicate (4 - (lg_sl ([.ref (a 3), .int x0, .int x1, .int x2])).length) Slot.unset).toArray = ls at hl ⊢
  have hl : lv_has ls 4 [(0, .ref (a 3)), (1, .int x0), (2, .int x1), (3, .int x2)] := hl
  obtain ⟨u, hu9⟩ : ∃ u : SU, u = u0 := ⟨_, rfl⟩
  rw [← hu9] at hP hD
  refine lv_aload_n hx hb dX2_join_0 rfl (lv_at hl 0 rfl) ?_
  refine lv_iload_n hx hb dX2_join_1 rfl (lv_at hl 1 rfl) ?_
  refine lv_iload_n hx hb dX2_join_2 rfl (lv_at hl 2 rfl) ?_
  refine wk_sv 3 (As := [.int x0, .int x1]) (rest := []) ⟨hx, hb, hml, hown, hts⟩ (k_X2_areTwo_3 l D cI cS a na nc N L u hL hN x0 x1) hKK hP (ci := 2) rfl rfl (cwV 2 hts gX2_join_X2_areTwo rfl rfl rfl (by decide +kernel) ⟨Nat.le_of_ble_eq_true rfl, Nat.le_of_ble_eq_true rfl⟩) rfl hl.1 rfl (Nat.le_of_ble_eq_true rfl) dX2_join_3 ⟨Nat.le_of_ble_eq_true rfl, Nat.le_of_ble_eq_true rfl⟩ (fun r48057 hr48057 => ?_)
  refine lv_if_ne (tgt := 10) hx hb dX2_join_6 (by decide) (fun c48058 => ?_) (fun c48058 => ?_)
  · have g48059 : Rg 0 11 x0 := (hr48057.2 c48058).1
    have g48060 : Rg 0 11 x1 := (hr48057.2 c48058).2
    have g48061 : Rg 1 1 r48057 := rg_ne_lo (k := 0) hr48057.1 (by decide) c48058 (by decide)
    refine lv_iload_n hx hb dX2_join_10 rfl (lv_at hl 3 rfl) ?_
    refine lv_if_eq (tgt := 41) hx hb dX2_join_11 (by decide) (fun c48062 => ?_) (fun c48062 => ?_)
    · have g48063 : Rg 0 0 x2 := wk_eql px2 (by decide : Rg 0 0 (0 : Int32)) c48062 (by decide)
      refine lv_aload_n hx hb dX2_join_41 rfl (lv_at hl 0 rfl) ?_
      refine va_get (D := D) (ci := 2) (v := .ref (a 4)) (C := RX2) (T := TX2) (N := 3) hx hb hts hin2 hown hK hP 3 rfl rfl 0 (by decide) (hts (.fieldLink RX2 9 "MissedPoints$Net" "links" "[I") (by decide +kernel)) (fun _ h9 => h9) rfl dX2_join_42 ?_
      refine lv_iload_n hx hb dX2_join_45 rfl (lv_at hl 1 rfl) ?_
      refine lv_dup2_11 hx hb dX2_join_46 rfl rfl ?_
      refine wk_aldA hx hb hK hP 4 0 rfl rfl (rg_in g48059 (by decide) (by decide)) dX2_join_47 (fun r48064 => ?_)
      refine lv_iconst (v := 1) hx hb dX2_join_48 (by decide) ?_
      refine lv_iload_n hx hb dX2_join_49 rfl (lv_at hl 2 rfl) ?_
      refine wk_ishl1 (f := 2048) hx hb dX2_join_50 g48060 (by decide) (fun r48065 hr48065 qr48065 => ?_)
      refine lv_iconst (v := (-1)) hx hb dX2_join_51 (by decide) ?_
      refine lv_ixor hx hb dX2_join_52 ?_
      refine wk_topP (P := fun r => r = r48065 ^^^ ((-1) : Int32)) rfl (fun r48066 qr48066 => ?_)
      refine lv_iand hx hb dX2_join_53 ?_
      refine wk_topP (P := fun r => r = r48064 &&& r48066) rfl (fun r48067 qr48067 => ?_)
      refine ks_ast hx hb hK hP hD hS rfl (k := 4) rfl sx_4 (rg_in g48059 (by decide) (by decide)) dX2_join_54 (fun u H locs hP hD hS => ?_)
      refine lv_aload_n hx hb dX2_join_55 rfl (lv_at hl 0 rfl) ?_
      refine va_get (D := D) (ci := 2) (v := .ref (a 4)) (C := RX2) (T := TX2) (N := 3) hx hb hts hin2 hown hK hP 3 rfl rfl 0 (by decide) (hts (.fieldLink RX2 9 "MissedPoints$Net" "links" "[I") (by decide +kernel)) (fun _ h9 => h9) rfl dX2_join_56 ?_
      refine lv_iload_n hx hb dX2_join_59 rfl (lv_at hl 2 rfl) ?_
      refine lv_dup2_11 hx hb dX2_join_60 rfl rfl ?_
      refine wk_aldA hx hb hK hP 4 0 rfl rfl (rg_in g48060 (by decide) (by decide)) dX2_join_61 (fun r48068 => ?_)
      refine lv_iconst (v := 1) hx hb dX2_join_62 (by decide) ?_
      refine lv_iload_n hx hb dX2_join_63 rfl (lv_at hl 1 rfl) ?_
      refine wk_ishl1 (f := 2048) hx hb dX2_join_64 g48059 (by decide) (fun r48069 hr48069 qr48069 => ?_)
      refine lv_iconst (v := (-1)) hx hb dX2_join_65 (by decide) ?_
      refine lv_ixor hx hb dX2_join_66 ?_
      refine wk_topP (P := fun r => r = r48069 ^^^ ((-1) : Int32)) rfl (fun r48070 qr48070 => ?_)
      refine lv_iand hx hb dX2_join_67 ?_
      refine wk_topP (P := fun r => r = r48068 &&& r48070) rfl (fun r48071 qr48071 => ?_)
      refine ks_ast hx hb hK hP hD hS rfl (k := 4) rfl sx_4 (rg_in g48060 (by decide) (by decide)) dX2_join_68 (fun u H locs hP hD hS => ?_)
      refine lv_aload_n hx hb dX2_join_69 rfl (lv_at hl 0 rfl) ?_
      refine lv_dup hx hb dX2_join_70 rfl ?_
      refine va_get (D := D) (ci := 2) (v := .int (u 3 2)) (C := RX2) (T := TX2) (N := 3) hx hb hts hin2 hown hK hP 3 rfl rfl 2 (by decide) (hts (.fieldLink RX2 33 "MissedPoints$Net" "changes" "I") (by decide +kernel)) (fun _ h9 => h9) rfl dX2_join_71 ?_
      refine wk_any (fun r48072 => ?_)
      refine lv_iconst (v := 1) hx hb dX2_join_74 (by decide) ?_
      refine lv_iadd hx hb dX2_join_75 ?_
      refine wk_topP (P := fun r => r = r48072 + (1 : Int32)) rfl (fun r48073 qr48073 => ?_)
      refine va_put (D := D) (ci := 2) (v := .int r48073) (ty := .int) (C := RX2) (T := TX2) (N := 3) hx hb hts hin2 tyX2 tyX2_ok nmX2 hown hK hP hD hS 3 rfl rfl 2 (by decide) (hts (.fieldLink RX2 33 "MissedPoints$Net" "changes" "I") (by decide +kernel)) (fun _ h9 => h9) rfl (by decide +kernel) rfl rfl (Nat.le_of_ble_eq_true rfl) dX2_join_76 (fun H locs hP hD hS => ?_)
      rw [sxf_3_2] at hP hD
      generalize sU u 3 _ = u at hP hD
      subst hAe
      exact W.vret hx hb hr (fun t ht hW => ⟨⟨u, rfl, trivial, by rw [ht]; exact hP, hD⟩, hS.F ht⟩) hS.2.2 dX2_join_79
    · have g48074 : Rg 1 1 x2 := rg_ne_lo (k := 0) px2 (by decide) c48062 (by decide)
      refine lv_aload_n hx hb dX2_join_14 rfl (lv_at hl 0 rfl) ?_
      refine va_get (D := D) (ci := 2) (v := .ref (a 4)) (C := RX2) (T := TX2) (N := 3) hx hb hts hin2 hown hK hP 3 rfl rfl 0 (by decide) (hts (.fieldLink RX2 9 "MissedPoints$Net" "links" "[I") (by decide +kernel)) (fun _ h9 => h9) rfl dX2_join_15 ?_
      refine lv_iload_n hx hb dX2_join_18 rfl (lv_at hl 1 rfl) ?_
      refine lv_dup2_11 hx hb dX2_join_19 rfl rfl ?_
      refine wk_aldA hx hb hK hP 4 0 rfl rfl (rg_in g48059 (by decide) (by decide)) dX2_join_20 (fun r48075 => ?_)
      refine lv_iconst (v := 1) hx hb dX2_join_21 (by decide) ?_
      refine lv_iload_n hx hb dX2_join_22 rfl (lv_at hl 2 rfl) ?_
      refine wk_ishl1 (f := 2048) hx hb dX2_join_23 g48060 (by decide) (fun r48076 hr48076 qr48076 => ?_)
      refine lv_ior hx hb dX2_join_24 ?_
      refine wk_topP (P := fun r => r = r48075 ||| r48076) rfl (fun r48077 qr48077 => ?_)
      refine ks_ast hx hb hK hP hD hS rfl (k := 4) rfl sx_4 (rg_in g48059 (by decide) (by decide)) dX2_join_25 (fun u H locs hP hD hS => ?_)
      refine lv_aload_n hx hb dX2_join_26 rfl (lv_at hl 0 rfl) ?_
      refine va_get (D := D) (ci := 2) (v := .ref (a 4)) (C := RX2) (T := TX2) (N := 3) hx hb hts hin2 hown hK hP 3 rfl rfl 0 (by decide) (hts (.fieldLink RX2 9 "MissedPoints$Net" "links" "[I") (by decide +kernel)) (fun _ h9 => h9) rfl dX2_join_27 ?_
      refine lv_iload_n hx hb dX2_join_30 rfl (lv_at hl 2 rfl) ?_
      refine lv_dup2_11 hx hb dX2_join_31 rfl rfl ?_
      refine wk_aldA hx hb hK hP 4 0 rfl rfl (rg_in g48060 (by decide) (by decide)) dX2_join_32 (fun r48078 => ?_)
      refine lv_iconst (v := 1) hx hb dX2_join_33 (by decide) ?_
      refine lv_iload_n hx hb dX2_join_34 rfl (lv_at hl 1 rfl) ?_
      refine wk_ishl1 (f := 2048) hx hb dX2_join_35 g48059 (by decide) (fun r48079 hr48079 qr48079 => ?_)
      refine lv_ior hx hb dX2_join_36 ?_
      refine wk_topP (P := fun r => r = r48078 ||| r48079) rfl (fun r48080 qr48080 => ?_)
      refine ks_ast hx hb hK hP hD hS rfl (k := 4) rfl sx_4 (rg_in g48060 (by decide) (by decide)) dX2_join_37 (fun u H locs hP hD hS => ?_)
      refine lv_goto (tgt := 69) hx hb dX2_join_38 (by decide) ?_
      refine lv_aload_n hx hb dX2_join_69 rfl (lv_at hl 0 rfl) ?_
      refine lv_dup hx hb dX2_join_70 rfl ?_
      refine va_get (D := D) (ci := 2) (v := .int (u 3 2)) (C := RX2) (T := TX2) (N := 3) hx hb hts hin2 hown hK hP 3 rfl rfl 2 (by decide) (hts (.fieldLink RX2 33 "MissedPoints$Net" "changes" "I") (by decide +kernel)) (fun _ h9 => h9) rfl dX2_join_71 ?_
      refine wk_any (fun r48081 => ?_)
      refine lv_iconst (v := 1) hx hb dX2_join_74 (by decide) ?_
      refine lv_iadd hx hb dX2_join_75 ?_
      refine wk_topP (P := fun r => r = r48081 + (1 : Int32)) rfl (fun r48082 qr48082 => ?_)
      refine va_put (D := D) (ci := 2) (v := .int r48082) (ty := .int) (C := RX2) (T := TX2) (N := 3) hx hb hts hin2 tyX2 tyX2_ok nmX2 hown hK hP hD hS 3 rfl rfl 2 (by decide) (hts (.fieldLink RX2 33 "MissedPoints$Net" "changes" "I") (by decide +kernel)) (fun _ h9 => h9) rfl (by decide +kernel) rfl rfl (Nat.le_of_ble_eq_true rfl) dX2_join_76 (fun H locs hP hD hS => ?_)
      rw [sxf_3_2] at hP hD
      generalize sU u 3 _ = u at hP hD
      subst hAe
      exact W.vret hx hb hr (fun t ht hW => ⟨⟨u, rfl, trivial, by rw [ht]; exact hP, hD⟩, hS.F ht⟩) hS.2.2 dX2_join_79
  · have g48083 : Rg 0 0 r48057 := wk_eql hr48057.1 (by decide : Rg 0 0 (0 : Int32)) c48058 (by decide)
    subst hAe
    exact W.vret hx hb hr (fun t ht hW => ⟨⟨u, rfl, trivial, by rw [ht]; exact hP, hD⟩, hS.F ht⟩) hS.2.2 dX2_join_9
set_option maxHeartbeats 4000000 in
set_option maxRecDepth 100000 in
theorem k_X1_recall_11 (l : Launch) (D : va_G) (cI cS : ClassId) (a : Nat → Nat) (na nc N : Nat) (L u : SU) (hL : TyX L) (hN : N = 0 ∨ N = 24576) (x0 : Int32) : Met l yX1_recall wsX1_recall ({ frames := 0, cells := 0, slots := 0, locals := 0 }) (PS D cI cS (wX cI cS a na nc N L u) [.ref (a 11), .int x0]) (vp_Si (fun r => Rg (-1) 65535 r ∧ True)) 0 0 (fun _ => False) := by
  refine Met.ofW (cc := cX1_recall) (maxL := 2) (ret := (some .int)) (by decide) rfl ?_
  intro p e s m args below meth c s₁ B hml hv
  obtain ⟨rfl, hP, hKK⟩ := hv
  have hx := B.exec
  have hb := B.bytes
  have hr := B.returns
  have hts := atoms_spec (ws := wsX1_recall) B.pre
  have hown : s.vm.findClass RX1 = some m.cls := findClass_of_methodNamed B.named
  have hlocks := B.notSynchronized
  have hK := hKK.1
  have hin1 : ∀ w ∈ wsX10, w ∈ wsX1_recall := by decide +kernel
  have hl := lv_entry ([.ref (a 11), .int x0]) (n := 2) (Nat.le_of_ble_eq_true rfl)
  rw [lg_entry_eq]
  generalize (lg_sl ([.ref (a 11), .int x0]) ++ List.replicate (2 - (lg_sl ([.ref (a 11), .int x0])).length) Slot.unset).toArray = ls at hl ⊢
  have hl : lv_has ls 2 [(0, .ref (a 11)), (1, .int x0)] := hl
  refine lv_iload_n hx hb dX1_recall_0 rfl (lv_at hl 1 rfl) ?_
  refine lv_if_lt (tgt := 29) hx hb dX1_recall_1 (by decide) (fun c48096 => ?_) (fun c48096 => ?_)
  · have g48097 : Rg (-2147483648) (-1) x0 := rg_ltl (rg_any x0) (by decide : Rg 0 0 (0 : Int32)) c48096 (by decide)
    refine lv_iconst (v := (-1)) hx hb dX1_recall_29 (by decide) ?_
    exact W.iret (v := (-1)) hx hb hr (fun t ht hW => ⟨_, rfl, ⟨(by decide : Rg (-1) 65535 ((-1) : Int32)), trivial⟩, ht⟩) (fun q hq => absurd hq List.not_mem_nil) dX1_recall_30
  · have g48098 : Rg 0 2147483647 x0 := rg_ler (by decide : Rg 0 0 (0 : Int32)) (rg_any x0) (rg_nlt c48096) (by decide)
    refine lv_iload_n hx hb dX1_recall_4 rfl (lv_at hl 1 rfl) ?_
    refine lv_aload_n hx hb dX1_recall_5 rfl (lv_at hl 0 rfl) ?_
    refine va_get (D := D) (ci := 1) (v := .ref (a 12)) (C := RX1) (T := TX1) (N := 2) hx hb hts hin1 hown hK hP 11 rfl rfl 0 (by decide) (hts (.fieldLink RX1 21 "MissedPoints$Memo" "cells" "[I") (by decide +kernel)) (fun _ h9 => h9) rfl dX1_recall_6 ?_
    refine va_alen hx hb hK hP 12 0 rfl rfl (v := 4096) rfl dX1_recall_9 ?_
    refine lv_icmp_ge (tgt := 29) hx hb dX1_recall_10 (by decide) (fun c48099 => ?_) (fun c48099 => ?_)
    · have g48100 : Rg 4096 2147483647 x0 := rg_ler (by decide : Rg 4096 4096 (4096 : Int32)) g48098 c48099 (by decide)
      refine lv_iconst (v := (-1)) hx hb dX1_recall_29 (by decide) ?_
      exact W.iret (v := (-1)) hx hb hr (fun t ht hW => ⟨_, rfl, ⟨(by decide : Rg (-1) 65535 ((-1) : Int32)), trivial⟩, ht⟩) (fun q hq => absurd hq List.not_mem_nil) dX1_recall_30
    · have g48101 : Rg 0 4095 x0 := rg_ltl g48098 (by decide : Rg 4096 4096 (4096 : Int32)) (rg_nle c48099) (by decide)
      refine lv_aload_n hx hb dX1_recall_13 rfl (lv_at hl 0 rfl) ?_
      refine va_get (D := D) (ci := 1) (v := .ref (a 12)) (C := RX1) (T := TX1) (N := 2) hx hb hts hin1 hown hK hP 11 rfl rfl 0 (by decide) (hts (.fieldLink RX1 21 "MissedPoints$Memo" "cells" "[I") (by decide +kernel)) (fun _ h9 => h9) rfl dX1_recall_14 ?_
      refine lv_iload_n hx hb dX1_recall_17 rfl (lv_at hl 1 rfl) ?_
      refine wk_aldA hx hb hK hP 12 0 rfl rfl (rg_in g48101 (by decide) (by decide)) dX1_recall_18 (fun r48102 => ?_)
      refine lv_bipush (v := 16) hx hb dX1_recall_19 (by decide) ?_
      refine lv_iushr hx hb dX1_recall_21 rfl ?_
      refine wk_any (fun r48103 => ?_)
      refine lv_aload_n hx hb dX1_recall_22 rfl (lv_at hl 0 rfl) ?_
      refine va_get (D := D) (ci := 1) (v := .int (u 11 1)) (C := RX1) (T := TX1) (N := 2) hx hb hts hin1 hown hK hP 11 rfl rfl 1 (by decide) (hts (.fieldLink RX1 9 "MissedPoints$Memo" "age" "I") (by decide +kernel)) (fun _ h9 => h9) rfl dX1_recall_23 ?_
      refine wk_any (fun r48104 => ?_)
      refine lv_icmp_eq (tgt := 31) hx hb dX1_recall_26 (by decide) (fun c48105 => ?_) (fun c48105 => ?_)
      · refine lv_aload_n hx hb dX1_recall_31 rfl (lv_at hl 0 rfl) ?_
        refine va_get (D := D) (ci := 1) (v := .ref (a 12)) (C := RX1) (T := TX1) (N := 2) hx hb hts hin1 hown hK hP 11 rfl rfl 0 (by decide) (hts (.fieldLink RX1 21 "MissedPoints$Memo" "cells" "[I") (by decide +kernel)) (fun _ h9 => h9) rfl dX1_recall_32 ?_
        refine lv_iload_n hx hb dX1_recall_35 rfl (lv_at hl 1 rfl) ?_
        refine wk_aldA hx hb hK hP 12 0 rfl rfl (rg_in g48101 (by decide) (by decide)) dX1_recall_36 (fun r48106 => ?_)
        refine lv_ldc hx hb hown (hts (.constant RX1 25 (65535)) (by decide +kernel)) dX1_recall_37 ?_
        refine wk_iandr hx hb dX1_recall_39 (by decide : Rg 65535 65535 (65535 : Int32)) (by decide) (fun r48107 hr48107 qr48107 => ?_)
        exact W.iret (v := r48107) hx hb hr (fun t ht hW => ⟨_, rfl, ⟨(show Rg (-1) 65535 r48107 from rg_w hr48107 (by decide) (by decide)), trivial⟩, ht⟩) (fun q hq => absurd hq List.not_mem_nil) dX1_recall_40
      · refine lv_iconst (v := (-1)) hx hb dX1_recall_29 (by decide) ?_
        exact W.iret (v := (-1)) hx hb hr (fun t ht hW => ⟨_, rfl, ⟨(by decide : Rg (-1) 65535 ((-1) : Int32)), trivial⟩, ht⟩) (fun q hq => absurd hq List.not_mem_nil) dX1_recall_30
set_option maxHeartbeats 4000000 in
set_option maxRecDepth 100000 in
theorem k_X1_keep_11 (l : Launch) (D : va_G) (cI cS : ClassId) (sz : Nat) (a : Nat → Nat) (na nc N : Nat) (L u0 : SU) (hL : TyX L) (hN : N = 0 ∨ N = 24576) (x0 x1 : Int32) : Met l yX1_keep wsX1_keep ({ frames := 0, cells := 0, slots := 0, locals := 0 }) (PQ D cI cS (wX cI cS a na nc N L u0) sz [.ref (a 11), .int x0, .int x1]) (QE (S := SU) D (wX cI cS a na nc N L u0) (wX cI cS a na nc N L) sz (fun _ => True)) 0 0 (va_A (wX cI cS a na nc N L u0) sz) := by
  refine Met.ofW (cc := cX1_keep) (maxL := 3) (ret := none) (by decide) rfl ?_
  intro p e s m args below meth c s₁ B hml hv
  obtain ⟨rfl, hsz, hP, hKK, hD0⟩ := hv
  have hx := B.exec
  have hb := B.bytes
  have hr := B.returns
  have hts := atoms_spec (ws := wsX1_keep) B.pre
  have hown : s.vm.findClass RX1 = some m.cls := findClass_of_methodNamed B.named
  have hlocks := B.notSynchronized
  have hK := hKK.1
  have hin1 : ∀ w ∈ wsX10, w ∈ wsX1_keep := by decide +kernel
  subst hsz
  have hD := hD0.self (sz := s.heap.size)
  obtain ⟨A, hAe⟩ : ∃ A, A = va_A (wX cI cS a na nc N L u0) s.heap.size := ⟨_, rfl⟩
  rw [← hAe] at hD
  have hA : ∀ q : Nat, s.heap.size ≤ q → A q := fun q h => by rw [hAe]; exact Or.inr h
  have hS : va_S A s.heap s.heap [] := va_S.rf
  have hl := lv_entry ([.ref (a 11), .int x0, .int x1]) (n := 3) (Nat.le_of_ble_eq_true rfl)
  rw [lg_entry_eq]
  generalize (lg_sl ([.ref (a 11), .int x0, .int x1]) ++ List.replicate (3 - (lg_sl ([.ref (a 11), .int x0, .int x1])).length) Slot.unset).toArray = ls at hl ⊢
  have hl : lv_has ls 3 [(0, .ref (a 11)), (1, .int x0), (2, .int x1)] := hl
  obtain ⟨u, hu9⟩ : ∃ u : SU, u = u0 := ⟨_, rfl⟩
  rw [← hu9] at hP hD
  refine lv_iload_n hx hb dX1_keep_0 rfl (lv_at hl 1 rfl) ?_
  refine lv_if_lt (tgt := 31) hx hb dX1_keep_1 (by decide) (fun c48118 => ?_) (fun c48118 => ?_)
  · have g48119 : Rg (-2147483648) (-1) x0 := rg_ltl (rg_any x0) (by decide : Rg 0 0 (0 : Int32)) c48118 (by decide)
    subst hAe
    exact W.vret hx hb hr (fun t ht hW => ⟨⟨u, rfl, trivial, by rw [ht]; exact hP, hD⟩, hS.F ht⟩) hS.2.2 dX1_keep_31
  · have g48120 : Rg 0 2147483647 x0 := rg_ler (by decide : Rg 0 0 (0 : Int32)) (rg_any x0) (rg_nlt c48118) (by decide)
    refine lv_iload_n hx hb dX1_keep_4 rfl (lv_at hl 1 rfl) ?_
    refine lv_aload_n hx hb dX1_keep_5 rfl (lv_at hl 0 rfl) ?_
    refine va_get (D := D) (ci := 1) (v := .ref (a 12)) (C := RX1) (T := TX1) (N := 2) hx hb hts hin1 hown hK hP 11 rfl rfl 0 (by decide) (hts (.fieldLink RX1 21 "MissedPoints$Memo" "cells" "[I") (by decide +kernel)) (fun _ h9 => h9) rfl dX1_keep_6 ?_
    refine va_alen hx hb hK hP 12 0 rfl rfl (v := 4096) rfl dX1_keep_9 ?_
    refine lv_icmp_ge (tgt := 31) hx hb dX1_keep_10 (by decide) (fun c48121 => ?_) (fun c48121 => ?_)
    · have g48122 : Rg 4096 2147483647 x0 := rg_ler (by decide : Rg 4096 4096 (4096 : Int32)) g48120 c48121 (by decide)
      subst hAe
      exact W.vret hx hb hr (fun t ht hW => ⟨⟨u, rfl, trivial, by rw [ht]; exact hP, hD⟩, hS.F ht⟩) hS.2.2 dX1_keep_31
    · have g48123 : Rg 0 4095 x0 := rg_ltl g48120 (by decide : Rg 4096 4096 (4096 : Int32)) (rg_nle c48121) (by decide)
      refine lv_aload_n hx hb dX1_keep_13 rfl (lv_at hl 0 rfl) ?_
      refine va_get (D := D) (ci := 1) (v := .ref (a 12)) (C := RX1) (T := TX1) (N := 2) hx hb hts hin1 hown hK hP 11 rfl rfl 0 (by decide) (hts (.fieldLink RX1 21 "MissedPoints$Memo" "cells" "[I") (by decide +kernel)) (fun _ h9 => h9) rfl dX1_keep_14 ?_
      refine lv_iload_n hx hb dX1_keep_17 rfl (lv_at hl 1 rfl) ?_
      refine lv_aload_n hx hb dX1_keep_18 rfl (lv_at hl 0 rfl) ?_
      refine va_get (D := D) (ci := 1) (v := .int (u 11 1)) (C := RX1) (T := TX1) (N := 2) hx hb hts hin1 hown hK hP 11 rfl rfl 1 (by decide) (hts (.fieldLink RX1 9 "MissedPoints$Memo" "age" "I") (by decide +kernel)) (fun _ h9 => h9) rfl dX1_keep_19 ?_
      refine wk_any (fun r48124 => ?_)
      refine lv_bipush (v := 16) hx hb dX1_keep_22 (by decide) ?_
      refine lv_ishl hx hb dX1_keep_24 ?_
      refine wk_topP (P := fun r => r = r48124 <<< ((16 : Int32) &&& 31)) rfl (fun r48125 qr48125 => ?_)
      refine lv_iload_n hx hb dX1_keep_25 rfl (lv_at hl 2 rfl) ?_
      refine lv_ldc hx hb hown (hts (.constant RX1 25 (65535)) (by decide +kernel)) dX1_keep_26 ?_
      refine wk_iandr hx hb dX1_keep_28 (by decide : Rg 65535 65535 (65535 : Int32)) (by decide) (fun r48126 hr48126 qr48126 => ?_)
      refine lv_ior hx hb dX1_keep_29 ?_
      refine wk_topP (P := fun r => r = r48125 ||| r48126) rfl (fun r48127 qr48127 => ?_)
      refine ks_ast hx hb hK hP hD hS rfl (k := 12) rfl sx_12 (rg_in g48123 (by decide) (by decide)) dX1_keep_30 (fun u H locs hP hD hS => ?_)
      subst hAe
      exact W.vret hx hb hr (fun t ht hW => ⟨⟨u, rfl, trivial, by rw [ht]; exact hP, hD⟩, hS.F ht⟩) hS.2.2 dX1_keep_31
set_option maxHeartbeats 4000000 in
set_option maxRecDepth 100000 in
theorem k_X1_forget_11 (l : Launch) (D : va_G) (cI cS : ClassId) (sz : Nat) (a : Nat → Nat) (na nc N : Nat) (L u0 : SU) (hL : TyX L) (hN : N = 0 ∨ N = 24576) : Met l yX1_forget wsX1_forget ({ frames := 0, cells := 0, slots := 0, locals := 0 }) (PQ D cI cS (wX cI cS a na nc N L u0) sz [.ref (a 11)]) (QE (S := SU) D (wX cI cS a na nc N L u0) (wX cI cS a na nc N L) sz (fun _ => True)) 0 0 (va_A (wX cI cS a na nc N L u0) sz) := by
  refine Met.ofW (cc := cX1_forget) (maxL := 2) (ret := none) (by decide) rfl ?_
  intro p e s m args below meth c s₁ B hml hv
  obtain ⟨rfl, hsz, hP, hKK, hD0⟩ := hv
  have hx := B.exec
  have hb := B.bytes
  have hr := B.returns
  have hts := atoms_spec (ws := wsX1_forget) B.pre
  have hown : s.vm.findClass RX1 = some m.cls := findClass_of_methodNamed B.named
  have hlocks := B.notSynchronized
  have hK := hKK.1
  have hin1 : ∀ w ∈ wsX10, w ∈ wsX1_forget := by decide +kernel
  subst hsz
  have hD := hD0.self (sz := s.heap.size)
  obtain ⟨A, hAe⟩ : ∃ A, A = va_A (wX cI cS a na nc N L u0) s.heap.size := ⟨_, rfl⟩
  rw [← hAe] at hD
  have hA : ∀ q : Nat, s.heap.size ≤ q → A q := fun q h => by rw [hAe]; exact Or.inr h
  have hS : va_S A s.heap s.heap [] := va_S.rf
  have hl := lv_entry ([.ref (a 11)]) (n := 2) (Nat.le_of_ble_eq_true rfl)
  rw [lg_entry_eq]
  generalize (lg_sl ([.ref (a 11)]) ++ List.replicate (2 - (lg_sl ([.ref (a 11)])).length) Slot.unset).toArray = ls at hl ⊢
  have hl : lv_has ls 2 [(0, .ref (a 11))] := hl
  obtain ⟨u, hu9⟩ : ∃ u : SU, u = u0 := ⟨_, rfl⟩
  rw [← hu9] at hP hD
  have lp12 : ∀ (n12 : Nat) (y12_l1 : Int32) (u : SU) (H : Heap) (locs : List Loc) (ls : Array Slot), Rg 0 4096 y12_l1 → va_P D cls (wX cI cS a na nc N L u) H → va_D A (wX cI cS a na nc N L u) → va_S A s.heap H locs → lv_has ls 2 [(0, .ref (a 11)), (1, .int y12_l1)] → 4096 - y12_l1.toInt < (n12 : Int) → W p l e (headSpec wsX1_forget ({ frames := 0, cells := 0, slots := 0, locals := 0 })).room s m ([.ref (a 11)]).toArray below meth c H locs 0 0 (MQ below (QE (S := SU) D (wX cI cS a na nc N L u0) (wX cI cS a na nc N L) s.heap.size (fun _ => True)) ([.ref (a 11)]).toArray s 0 0 (va_A (wX cI cS a na nc N L u0) s.heap.size)) (F0 m 12 ls []) := by
    intro n12
    induction n12 with
    | zero =>
      intro y12_l1 u H locs ls g12_l1 hP hD hS hl hm12
      exact absurd rfl (me_z g12_l1 hm12)
    | succ n12 ih12 =>
      intro y12_l1 u H locs ls g12_l1 hP hD hS hl hm12
      refine lv_iload_n hx hb dX1_forget_12 rfl (lv_at hl 1 rfl) ?_
      refine lv_aload_n hx hb dX1_forget_13 rfl (lv_at hl 0 rfl) ?_
      refine va_get (D := D) (ci := 1) (v := .ref (a 12)) (C := RX1) (T := TX1) (N := 2) hx hb hts hin1 hown hK hP 11 rfl rfl 0 (by decide) (hts (.fieldLink RX1 21 "MissedPoints$Memo" "cells" "[I") (by decide +kernel)) (fun _ h9 => h9) rfl dX1_forget_14 ?_
      refine va_alen hx hb hK hP 12 0 rfl rfl (v := 4096) rfl dX1_forget_17 ?_
      refine lv_icmp_ge (tgt := 34) hx hb dX1_forget_18 (by decide) (fun c48286 => ?_) (fun c48286 => ?_)
      · have g48287 : Rg 4096 4096 y12_l1 := rg_ler (by decide : Rg 4096 4096 (4096 : Int32)) g12_l1 c48286 (by decide)
        refine lv_aload_n hx hb dX1_forget_34 rfl (lv_at hl 0 rfl) ?_
        refine lv_iconst (v := 0) hx hb dX1_forget_35 (by decide) ?_
        refine va_put (D := D) (ci := 1) (v := .int 0) (ty := .int) (C := RX1) (T := TX1) (N := 2) hx hb hts hin1 tyX1 tyX1_ok nmX1 hown hK hP hD hS 11 rfl rfl 1 (by decide) (hts (.fieldLink RX1 9 "MissedPoints$Memo" "age" "I") (by decide +kernel)) (fun _ h9 => h9) rfl (by decide +kernel) rfl rfl (Nat.le_of_ble_eq_true rfl) dX1_forget_36 (fun H locs hP hD hS => ?_)
        rw [sxf_11_1] at hP hD
        generalize sU u 11 _ = u at hP hD
        refine lv_aload_n hx hb dX1_forget_39 rfl (lv_at hl 0 rfl) ?_
        refine lv_dup hx hb dX1_forget_40 rfl ?_
        refine va_get (D := D) (ci := 1) (v := .int (u 11 1)) (C := RX1) (T := TX1) (N := 2) hx hb hts hin1 hown hK hP 11 rfl rfl 1 (by decide) (hts (.fieldLink RX1 9 "MissedPoints$Memo" "age" "I") (by decide +kernel)) (fun _ h9 => h9) rfl dX1_forget_41 ?_
        refine wk_any (fun r48288 => ?_)
        refine lv_iconst (v := 1) hx hb dX1_forget_44 (by decide) ?_
        refine lv_iadd hx hb dX1_forget_45 ?_
        refine wk_topP (P := fun r => r = r48288 + (1 : Int32)) rfl (fun r48289 qr48289 => ?_)
        refine va_put (D := D) (ci := 1) (v := .int r48289) (ty := .int) (C := RX1) (T := TX1) (N := 2) hx hb hts hin1 tyX1 tyX1_ok nmX1 hown hK hP hD hS 11 rfl rfl 1 (by decide) (hts (.fieldLink RX1 9 "MissedPoints$Memo" "age" "I") (by decide +kernel)) (fun _ h9 => h9) rfl (by decide +kernel) rfl rfl (Nat.le_of_ble_eq_true rfl) dX1_forget_46 (fun H locs hP hD hS => ?_)
        rw [sxf_11_1] at hP hD
        generalize sU u 11 _ = u at hP hD
        subst hAe
        exact W.vret hx hb hr (fun t ht hW => ⟨⟨u, rfl, trivial, by rw [ht]; exact hP, hD⟩, hS.F ht⟩) hS.2.2 dX1_forget_49
      · have g48290 : Rg 0 4095 y12_l1 := rg_ltl g12_l1 (by decide : Rg 4096 4096 (4096 : Int32)) (rg_nle c48286) (by decide)
        refine lv_aload_n hx hb dX1_forget_21 rfl (lv_at hl 0 rfl) ?_
        refine va_get (D := D) (ci := 1) (v := .ref (a 12)) (C := RX1) (T := TX1) (N := 2) hx hb hts hin1 hown hK hP 11 rfl rfl 0 (by decide) (hts (.fieldLink RX1 21 "MissedPoints$Memo" "cells" "[I") (by decide +kernel)) (fun _ h9 => h9) rfl dX1_forget_22 ?_
        refine lv_iload_n hx hb dX1_forget_25 rfl (lv_at hl 1 rfl) ?_
        refine lv_iconst (v := 0) hx hb dX1_forget_26 (by decide) ?_
        refine ks_ast hx hb hK hP hD hS rfl (k := 12) rfl sx_12 (rg_in g48290 (by decide) (by decide)) dX1_forget_27 (fun u H locs hP hD hS => ?_)
        refine wk_iinc (lv' := fun r => [(1, .int r), (0, .ref (a 11))]) (e1 := 1) (f := 4096) hx hb dX1_forget_28 hl (k := 1) rfl (by decide) g48290 (by decide) (fun _ => rfl) (fun r48291 ls hr48291 er48291 hl => ?_)
        refine lv_goto (tgt := 12) hx hb dX1_forget_31 (by decide) ?_
        exact ih12 r48291 u _ _ ls (show Rg 0 4096 r48291 from rg_w hr48291 (by decide) (by decide)) hP hD hS (lv_sub (l' := [(0, .ref (a 11)), (1, .int r48291)]) hl [1, 0] rfl) (me_up hm12 er48291 (by decide))
  refine lv_aload_n hx hb dX1_forget_0 rfl (lv_at hl 0 rfl) ?_
  refine va_get (D := D) (ci := 1) (v := .int (u 11 1)) (C := RX1) (T := TX1) (N := 2) hx hb hts hin1 hown hK hP 11 rfl rfl 1 (by decide) (hts (.fieldLink RX1 9 "MissedPoints$Memo" "age" "I") (by decide +kernel)) (fun _ h9 => h9) rfl dX1_forget_1 ?_
  refine wk_any (fun r48292 => ?_)
  refine lv_sipush (v := 32767) hx hb dX1_forget_4 (by decide) ?_
  refine lv_icmp_ne (tgt := 39) hx hb dX1_forget_7 (by decide) (fun c48293 => ?_) (fun c48293 => ?_)
  · refine lv_aload_n hx hb dX1_forget_39 rfl (lv_at hl 0 rfl) ?_
    refine lv_dup hx hb dX1_forget_40 rfl ?_
    refine va_get (D := D) (ci := 1) (v := .int (u 11 1)) (C := RX1) (T := TX1) (N := 2) hx hb hts hin1 hown hK hP 11 rfl rfl 1 (by decide) (hts (.fieldLink RX1 9 "MissedPoints$Memo" "age" "I") (by decide +kernel)) (fun _ h9 => h9) rfl dX1_forget_41 ?_
    refine wk_any (fun r48294 => ?_)
    refine lv_iconst (v := 1) hx hb dX1_forget_44 (by decide) ?_
    refine lv_iadd hx hb dX1_forget_45 ?_
    refine wk_topP (P := fun r => r = r48294 + (1 : Int32)) rfl (fun r48295 qr48295 => ?_)
    refine va_put (D := D) (ci := 1) (v := .int r48295) (ty := .int) (C := RX1) (T := TX1) (N := 2) hx hb hts hin1 tyX1 tyX1_ok nmX1 hown hK hP hD hS 11 rfl rfl 1 (by decide) (hts (.fieldLink RX1 9 "MissedPoints$Memo" "age" "I") (by decide +kernel)) (fun _ h9 => h9) rfl (by decide +kernel) rfl rfl (Nat.le_of_ble_eq_true rfl) dX1_forget_46 (fun H locs hP hD hS => ?_)
    rw [sxf_11_1] at hP hD
    generalize sU u 11 _ = u at hP hD
    subst hAe
    exact W.vret hx hb hr (fun t ht hW => ⟨⟨u, rfl, trivial, by rw [ht]; exact hP, hD⟩, hS.F ht⟩) hS.2.2 dX1_forget_49
  · have g48296 : Rg 32767 32767 r48292 := wk_eql (rg_any r48292) (by decide : Rg 32767 32767 (32767 : Int32)) c48293 (by decide)
    refine lv_iconst (v := 0) hx hb dX1_forget_10 (by decide) ?_
    refine lv_istore_n (lv' := [(1, .int 0), (0, .ref (a 11))]) hx hb dX1_forget_11 rfl hl (by decide) rfl (fun ls hl => ?_)
    exact lp12 4097 (0 : Int32) u _ _ ls (by decide : Rg 0 4096 (0 : Int32)) hP hD hS (lv_sub (l' := [(0, .ref (a 11)), (1, .int 0)]) hl [1, 0] rfl) (me_i (by decide : Rg 0 4096 (0 : Int32)) (by decide))
set_option maxHeartbeats 4000000 in
set_option maxRecDepth 100000 in
theorem k_X1_forget_15 (l : Launch) (D : va_G) (cI cS : ClassId) (sz : Nat) (a : Nat → Nat) (na nc N : Nat) (L u0 : SU) (hL : TyX L) (hN : N = 0 ∨ N = 24576) : Met l yX1_forget wsX1_forget ({ frames := 0, cells := 0, slots := 0, locals := 0 }) (PQ D cI cS (wX cI cS a na nc N L u0) sz [.ref (a 15)]) (QE (S := SU) D (wX cI cS a na nc N L u0) (wX cI cS a na nc N L) sz (fun _ => True)) 0 0 (va_A (wX cI cS a na nc N L u0) sz) := by
  refine Met.ofW (cc := cX1_forget) (maxL := 2) (ret := none) (by decide) rfl ?_
  intro p e s m args below meth c s₁ B hml hv
  obtain ⟨rfl, hsz, hP, hKK, hD0⟩ := hv
  have hx := B.exec
  have hb := B.bytes
  have hr := B.returns
  have hts := atoms_spec (ws := wsX1_forget) B.pre
  have hown : s.vm.findClass RX1 = some m.cls := findClass_of_methodNamed B.named
  have hlocks := B.notSynchronized
  have hK := hKK.1
  have hin1 : ∀ w ∈ wsX10, w ∈ wsX1_forget := by decide +kernel
  subst hsz
  have hD := hD0.self (sz := s.heap.size)
  obtain ⟨A, hAe⟩ : ∃ A, A = va_A (wX cI cS a na nc N L u0) s.heap.size := ⟨_, rfl⟩
  rw [← hAe] at hD
  have hA : ∀ q : Nat, s.heap.size ≤ q → A q := fun q h => by rw [hAe]; exact Or.inr h
  have hS : va_S A s.heap s.heap [] := va_S.rf
  have hl := lv_entry ([.ref (a 15)]) (n := 2) (Nat.le_of_ble_eq_true rfl)
  rw [lg_entry_eq]
  generalize (lg_sl ([.ref (a 15)]) ++ List.replicate (2 - (lg_sl ([.ref (a 15)])).length) Slot.unset).toArray = ls at hl ⊢
  have hl : lv_has ls 2 [(0, .ref (a 15))] := hl
  obtain ⟨u, hu9⟩ : ∃ u : SU, u = u0 := ⟨_, rfl⟩
  rw [← hu9] at hP hD
  have lp12 : ∀ (n12 : Nat) (u : SU) (H : Heap) (locs : List Loc) (ls : Array Slot), va_P D cls (wX cI cS a na nc N L u) H → va_D A (wX cI cS a na nc N L u) → va_S A s.heap H locs → lv_has ls 2 [(0, .ref (a 15)), (1, .int 0)] → 0 < (n12 : Int) → W p l e (headSpec wsX1_forget ({ frames := 0, cells := 0, slots := 0, locals := 0 })).room s m ([.ref (a 15)]).toArray below meth c H locs 0 0 (MQ below (QE (S := SU) D (wX cI cS a na nc N L u0) (wX cI cS a na nc N L) s.heap.size (fun _ => True)) ([.ref (a 15)]).toArray s 0 0 (va_A (wX cI cS a na nc N L u0) s.heap.size)) (F0 m 12 ls []) := by
    intro n12
    induction n12 with
    | zero =>
      intro u H locs ls hP hD hS hl hm12
      exact False.elim (by omega)
    | succ n12 ih12 =>
      intro u H locs ls hP hD hS hl hm12
      refine lv_iload_n hx hb dX1_forget_12 rfl (lv_at hl 1 rfl) ?_
      refine lv_aload_n hx hb dX1_forget_13 rfl (lv_at hl 0 rfl) ?_
      refine va_get (D := D) (ci := 1) (v := .ref (a 16)) (C := RX1) (T := TX1) (N := 2) hx hb hts hin1 hown hK hP 15 rfl rfl 0 (by decide) (hts (.fieldLink RX1 21 "MissedPoints$Memo" "cells" "[I") (by decide +kernel)) (fun _ h9 => h9) rfl dX1_forget_14 ?_
      refine va_alen hx hb hK hP 16 0 rfl rfl (v := 0) rfl dX1_forget_17 ?_
      refine lv_icmp_ge (tgt := 34) hx hb dX1_forget_18 (by decide) (fun c48313 => ?_) (fun c48313 => ?_)
      · refine lv_aload_n hx hb dX1_forget_34 rfl (lv_at hl 0 rfl) ?_
        refine lv_iconst (v := 0) hx hb dX1_forget_35 (by decide) ?_
        refine va_put (D := D) (ci := 1) (v := .int 0) (ty := .int) (C := RX1) (T := TX1) (N := 2) hx hb hts hin1 tyX1 tyX1_ok nmX1 hown hK hP hD hS 15 rfl rfl 1 (by decide) (hts (.fieldLink RX1 9 "MissedPoints$Memo" "age" "I") (by decide +kernel)) (fun _ h9 => h9) rfl (by decide +kernel) rfl rfl (Nat.le_of_ble_eq_true rfl) dX1_forget_36 (fun H locs hP hD hS => ?_)
        rw [sxf_15_1] at hP hD
        generalize sU u 15 _ = u at hP hD
        refine lv_aload_n hx hb dX1_forget_39 rfl (lv_at hl 0 rfl) ?_
        refine lv_dup hx hb dX1_forget_40 rfl ?_
        refine va_get (D := D) (ci := 1) (v := .int (u 15 1)) (C := RX1) (T := TX1) (N := 2) hx hb hts hin1 hown hK hP 15 rfl rfl 1 (by decide) (hts (.fieldLink RX1 9 "MissedPoints$Memo" "age" "I") (by decide +kernel)) (fun _ h9 => h9) rfl dX1_forget_41 ?_
        refine wk_any (fun r48314 => ?_)
        refine lv_iconst (v := 1) hx hb dX1_forget_44 (by decide) ?_
        refine lv_iadd hx hb dX1_forget_45 ?_
        refine wk_topP (P := fun r => r = r48314 + (1 : Int32)) rfl (fun r48315 qr48315 => ?_)
        refine va_put (D := D) (ci := 1) (v := .int r48315) (ty := .int) (C := RX1) (T := TX1) (N := 2) hx hb hts hin1 tyX1 tyX1_ok nmX1 hown hK hP hD hS 15 rfl rfl 1 (by decide) (hts (.fieldLink RX1 9 "MissedPoints$Memo" "age" "I") (by decide +kernel)) (fun _ h9 => h9) rfl (by decide +kernel) rfl rfl (Nat.le_of_ble_eq_true rfl) dX1_forget_46 (fun H locs hP hD hS => ?_)
        rw [sxf_15_1] at hP hD
        generalize sU u 15 _ = u at hP hD
        subst hAe
        exact W.vret hx hb hr (fun t ht hW => ⟨⟨u, rfl, trivial, by rw [ht]; exact hP, hD⟩, hS.F ht⟩) hS.2.2 dX1_forget_49
      · exact absurd c48313 (by decide)
  refine lv_aload_n hx hb dX1_forget_0 rfl (lv_at hl 0 rfl) ?_
  refine va_get (D := D) (ci := 1) (v := .int (u 15 1)) (C := RX1) (T := TX1) (N := 2) hx hb hts hin1 hown hK hP 15 rfl rfl 1 (by decide) (hts (.fieldLink RX1 9 "MissedPoints$Memo" "age" "I") (by decide +kernel)) (fun _ h9 => h9) rfl dX1_forget_1 ?_
  refine wk_any (fun r48316 => ?_)
  refine lv_sipush (v := 32767) hx hb dX1_forget_4 (by decide) ?_
  refine lv_icmp_ne (tgt := 39) hx hb dX1_forget_7 (by decide) (fun c48317 => ?_) (fun c48317 => ?_)
  · refine lv_aload_n hx hb dX1_forget_39 rfl (lv_at hl 0 rfl) ?_
    refine lv_dup hx hb dX1_forget_40 rfl ?_
    refine va_get (D := D) (ci := 1) (v := .int (u 15 1)) (C := RX1) (T := TX1) (N := 2) hx hb hts hin1 hown hK hP 15 rfl rfl 1 (by decide) (hts (.fieldLink RX1 9 "MissedPoints$Memo" "age" "I") (by decide +kernel)) (fun _ h9 => h9) rfl dX1_forget_41 ?_
    refine wk_any (fun r48318 => ?_)
    refine lv_iconst (v := 1) hx hb dX1_forget_44 (by decide) ?_
    refine lv_iadd hx hb dX1_forget_45 ?_
    refine wk_topP (P := fun r => r = r48318 + (1 : Int32)) rfl (fun r48319 qr48319 => ?_)
    refine va_put (D := D) (ci := 1) (v := .int r48319) (ty := .int) (C := RX1) (T := TX1) (N := 2) hx hb hts hin1 tyX1 tyX1_ok nmX1 hown hK hP hD hS 15 rfl rfl 1 (by decide) (hts (.fieldLink RX1 9 "MissedPoints$Memo" "age" "I") (by decide +kernel)) (fun _ h9 => h9) rfl (by decide +kernel) rfl rfl (Nat.le_of_ble_eq_true rfl) dX1_forget_46 (fun H locs hP hD hS => ?_)
    rw [sxf_15_1] at hP hD
    generalize sU u 15 _ = u at hP hD
    subst hAe
    exact W.vret hx hb hr (fun t ht hW => ⟨⟨u, rfl, trivial, by rw [ht]; exact hP, hD⟩, hS.F ht⟩) hS.2.2 dX1_forget_49
  · have g48320 : Rg 32767 32767 r48316 := wk_eql (rg_any r48316) (by decide : Rg 32767 32767 (32767 : Int32)) c48317 (by decide)
    refine lv_iconst (v := 0) hx hb dX1_forget_10 (by decide) ?_
    refine lv_istore_n (lv' := [(1, .int 0), (0, .ref (a 15))]) hx hb dX1_forget_11 rfl hl (by decide) rfl (fun ls hl => ?_)
    exact lp12 1 u _ _ ls hP hD hS (lv_sub (l' := [(0, .ref (a 15)), (1, .int 0)]) hl [1, 0] rfl) (by decide)
set_option maxHeartbeats 4000000 in
set_option maxRecDepth 100000 in
theorem k_X3_notice_8 (l : Launch) (D : va_G) (cI cS : ClassId) (sz : Nat) (a : Nat → Nat) (na nc N : Nat) (L u0 : SU) (hL : TyX L) (hN : N = 0 ∨ N = 24576) : Met l yX3_notice wsX3_notice ({ frames := 1, cells := 0, slots := 0, locals := 40 }) (PQ D cI cS (wX cI cS a na nc N L u0) sz [.ref (a 8)]) (QE (S := SU) D (wX cI cS a na nc N L u0) (wX cI cS a na nc N L) sz (fun _ => True)) 0 0 (va_A (wX cI cS a na nc N L u0) sz) := by
  refine Met.ofW (cc := cX3_notice) (maxL := 1) (ret := none) (by decide) rfl ?_
  intro p e s m args below meth c s₁ B hml hv
  obtain ⟨rfl, hsz, hP, hKK, hD0⟩ := hv
  have hx := B.exec
  have hb := B.bytes
  have hr := B.returns
  have hts := atoms_spec (ws := wsX3_notice) B.pre
  have hown : s.vm.findClass RX3 = some m.cls := findClass_of_methodNamed B.named
  have hlocks := B.notSynchronized
  have hK := hKK.1
  have hin2 : ∀ w ∈ wsX20, w ∈ wsX3_notice := by decide +kernel
  have hin3 : ∀ w ∈ wsX30, w ∈ wsX3_notice := by decide +kernel
  subst hsz
  have hD := hD0.self (sz := s.heap.size)
  obtain ⟨A, hAe⟩ : ∃ A, A = va_A (wX cI cS a na nc N L u0) s.heap.size := ⟨_, rfl⟩
  rw [← hAe] at hD
  have hA : ∀ q : Nat, s.heap.size ≤ q → A q := fun q h => by rw [hAe]; exact Or.inr h
  have hS : va_S A s.heap s.heap [] := va_S.rf
  have hl := lv_entry ([.ref (a 8)]) (n := 1) (Nat.le_of_ble_eq_true rfl)
  rw [lg_entry_eq]
  generalize (lg_sl ([.ref (a 8)]) ++ List.replicate (1 - (lg_sl ([.ref (a 8)])).length) Slot.unset).toArray = ls at hl ⊢
  have hl : lv_has ls 1 [(0, .ref (a 8))] := hl
  obtain ⟨u, hu9⟩ : ∃ u : SU, u = u0 := ⟨_, rfl⟩
  rw [← hu9] at hP hD
  refine lv_aload_n hx hb dX3_notice_0 rfl (lv_at hl 0 rfl) ?_
  refine va_get (D := D) (ci := 3) (v := .int (u 8 3)) (C := RX3) (T := TX3) (N := 4) hx hb hts hin3 hown hK hP 8 rfl rfl 3 (by decide) (hts (.fieldLink RX3 27 "MissedPoints$Pairs" "changesSeen" "I") (by decide +kernel)) (fun _ h9 => h9) rfl dX3_notice_1 ?_
  refine wk_any (fun r48327 => ?_)
  refine lv_aload_n hx hb dX3_notice_4 rfl (lv_at hl 0 rfl) ?_
  refine va_get (D := D) (ci := 3) (v := .ref (a 3)) (C := RX3) (T := TX3) (N := 4) hx hb hts hin3 hown hK hP 8 rfl rfl 0 (by decide) (hts (.fieldLink RX3 23 "MissedPoints$Pairs" "net" "LMissedPoints$Net;") (by decide +kernel)) (fun _ h9 => h9) rfl dX3_notice_5 ?_
  refine va_getN (D := D) (ci := 2) (v := .int (u 3 2)) (C := RX2) (T := TX2) (N := 3) hx hb hts hin2 hown hK hP 3 rfl rfl 2 (by decide) (va_Nw.use rfl hKK.2.2.2.2.2.2.2.2.2.2.2.1) (fun _ h9 => h9) rfl dX3_notice_8 ?_
  refine wk_any (fun r48328 => ?_)
  refine lv_icmp_eq (tgt := 39) hx hb dX3_notice_11 (by decide) (fun c48329 => ?_) (fun c48329 => ?_)
  · subst hAe
    exact W.vret hx hb hr (fun t ht hW => ⟨⟨u, rfl, trivial, by rw [ht]; exact hP, hD⟩, hS.F ht⟩) hS.2.2 dX3_notice_39
  · refine lv_aload_n hx hb dX3_notice_14 rfl (lv_at hl 0 rfl) ?_
    refine lv_aload_n hx hb dX3_notice_15 rfl (lv_at hl 0 rfl) ?_
    refine va_get (D := D) (ci := 3) (v := .ref (a 3)) (C := RX3) (T := TX3) (N := 4) hx hb hts hin3 hown hK hP 8 rfl rfl 0 (by decide) (hts (.fieldLink RX3 23 "MissedPoints$Pairs" "net" "LMissedPoints$Net;") (by decide +kernel)) (fun _ h9 => h9) rfl dX3_notice_16 ?_
    refine va_getN (D := D) (ci := 2) (v := .int (u 3 2)) (C := RX2) (T := TX2) (N := 3) hx hb hts hin2 hown hK hP 3 rfl rfl 2 (by decide) (va_Nw.use rfl hKK.2.2.2.2.2.2.2.2.2.2.2.1) (fun _ h9 => h9) rfl dX3_notice_19 ?_
    refine wk_any (fun r48330 => ?_)
    refine va_put (D := D) (ci := 3) (v := .int r48330) (ty := .int) (C := RX3) (T := TX3) (N := 4) hx hb hts hin3 tyX3 tyX3_ok nmX3 hown hK hP hD hS 8 rfl rfl 3 (by decide) (hts (.fieldLink RX3 27 "MissedPoints$Pairs" "changesSeen" "I") (by decide +kernel)) (fun _ h9 => h9) rfl (by decide +kernel) rfl rfl (Nat.le_of_ble_eq_true rfl) dX3_notice_22 (fun H locs hP hD hS => ?_)
    rw [sxf_8_3] at hP hD
    generalize sU u 8 _ = u at hP hD
    refine lv_aload_n hx hb dX3_notice_25 rfl (lv_at hl 0 rfl) ?_
    refine va_get (D := D) (ci := 3) (v := .ref (a 11)) (C := RX3) (T := TX3) (N := 4) hx hb hts hin3 hown hK hP 8 rfl rfl 1 (by decide) (hts (.fieldLink RX3 14 "MissedPoints$Pairs" "mosts" "LMissedPoints$Memo;") (by decide +kernel)) (fun _ h9 => h9) rfl dX3_notice_26 ?_
    refine wk_qv (wX cI cS a na nc N L) u (As := []) (rest := []) ⟨hx, hb, hml, hown, hts⟩ (k_X1_forget_11 l D cI cS _ a na nc N L u hL hN) hKK hP hD hS hA 11 (ci := 1) rfl rfl (cwV 0 hts gX3_notice_X1_forget rfl rfl rfl (by decide +kernel) ⟨Nat.le_of_ble_eq_true rfl, Nat.le_of_ble_eq_true rfl⟩) rfl hl.1 rfl (Nat.le_of_ble_eq_true rfl) dX3_notice_29 ⟨Nat.le_of_ble_eq_true rfl, Nat.le_of_ble_eq_true rfl⟩ (fun u H locs hr48331 hP hD hS => ?_)
    refine lv_aload_n hx hb dX3_notice_32 rfl (lv_at hl 0 rfl) ?_
    refine va_get (D := D) (ci := 3) (v := .ref (a 15)) (C := RX3) (T := TX3) (N := 4) hx hb hts hin3 hown hK hP 8 rfl rfl 2 (by decide) (hts (.fieldLink RX3 20 "MissedPoints$Pairs" "numbers" "LMissedPoints$Memo;") (by decide +kernel)) (fun _ h9 => h9) rfl dX3_notice_33 ?_
    refine wk_qv (wX cI cS a na nc N L) u (As := []) (rest := []) ⟨hx, hb, hml, hown, hts⟩ (k_X1_forget_15 l D cI cS _ a na nc N L u hL hN) hKK hP hD hS hA 15 (ci := 1) rfl rfl (cwV 0 hts gX3_notice_X1_forget rfl rfl rfl (by decide +kernel) ⟨Nat.le_of_ble_eq_true rfl, Nat.le_of_ble_eq_true rfl⟩) rfl hl.1 rfl (Nat.le_of_ble_eq_true rfl) dX3_notice_36 ⟨Nat.le_of_ble_eq_true rfl, Nat.le_of_ble_eq_true rfl⟩ (fun u H locs hr48332 hP hD hS => ?_)
    subst hAe
    exact W.vret hx hb hr (fun t ht hW => ⟨⟨u, rfl, trivial, by rw [ht]; exact hP, hD⟩, hS.F ht⟩) hS.2.2 dX3_notice_39
set_option maxHeartbeats 8000000 in
set_option maxRecDepth 100000 in
theorem k_X3_bestOf_8_r (l : Launch) (D : va_G) (cI cS : ClassId) (a : Nat → Nat) (na nc N : Nat) (L : SU) (hL : TyX L) (hN : N = 0 ∨ N = 24576) : ∀ (n sz : Nat) (u0 : SU) (x0 x1 : Int32), Rg 0 13 x1 → 13 - x1.toInt ≤ (n : Int) → Met l yX3_bestOf wsX3_bestOf ({ frames := n + 1, cells := 0, slots := 0, locals := 40 * (n + 1) }) (PQ D cI cS (wX cI cS a na nc N L u0) sz [.ref (a 8), .int x0, .int x1]) (QF (S := SU) D (wX cI cS a na nc N L u0) (wX cI cS a na nc N L) sz (fun r _ => Rg 0 65549 r ∧ r.toInt ≤ 65549 - x1.toInt)) 0 0 (va_A (wX cI cS a na nc N L u0) sz) := by
  intro n
  induction n with
  | zero =>
    intro sz u0 x0 x1 px1 hrk
    have px1 : Rg 13 13 x1 := ⟨by omega, px1.2⟩
    refine Met.ofW (cc := cX3_bestOf) (maxL := 11) (ret := (some .int)) (by decide) rfl ?_
    intro p e s m args below meth c s₁ B hml hv
    obtain ⟨rfl, hsz, hP, hKK, hD0⟩ := hv
    have hx := B.exec
    have hb := B.bytes
    have hr := B.returns
    have hts := atoms_spec (ws := wsX3_bestOf) B.pre
    have hown : s.vm.findClass RX3 = some m.cls := findClass_of_methodNamed B.named
    have hlocks := B.notSynchronized
    have hK := hKK.1
    subst hsz
    have hD := hD0.self (sz := s.heap.size)
    obtain ⟨A, hAe⟩ : ∃ A, A = va_A (wX cI cS a na nc N L u0) s.heap.size := ⟨_, rfl⟩
    rw [← hAe] at hD
    have hA : ∀ q : Nat, s.heap.size ≤ q → A q := fun q h => by rw [hAe]; exact Or.inr h
    have hS : va_S A s.heap s.heap [] := va_S.rf
    have hl := lv_entry ([.ref (a 8), .int x0, .int x1]) (n := 11) (Nat.le_of_ble_eq_true rfl)
    rw [lg_entry_eq]
    generalize (lg_sl ([.ref (a 8), .int x0, .int x1]) ++ List.replicate (11 - (lg_sl ([.ref (a 8), .int x0, .int x1])).length) Slot.unset).toArray = ls at hl ⊢
    have hl : lv_has ls 11 [(0, .ref (a 8)), (1, .int x0), (2, .int x1)] := hl
    obtain ⟨u, hu9⟩ : ∃ u : SU, u = u0 := ⟨_, rfl⟩
    rw [← hu9] at hP hD
    refine lv_bipush (v := 31) hx hb dX3_bestOf_0 (by decide) ?_
    refine lv_iload_n hx hb dX3_bestOf_2 rfl (lv_at hl 1 rfl) ?_
    refine lz_ss (As := [.int x0]) (rest := [.int 31]) ⟨hx, hb, hml, hown, hts⟩ (k_J6_numberOfLeadingZeros_0f7a4 l D cI cS x0) hKK (hP.sub (ws' := []) [] rfl) (va_cwS 1 hts gX3_bestOf_J6_numberOfLeadingZeros_0f7a4 rfl rfl rfl (by decide +kernel) ⟨by show 0 + 1 ≤ 0 + 1; omega, by show 8 + (2 + 11) + 0 ≤ 40 * (0 + 1); omega⟩) rfl hl.1 rfl (Nat.le_of_ble_eq_true rfl) dX3_bestOf_3 ⟨Nat.le_of_ble_eq_true rfl, Nat.le_of_ble_eq_true rfl⟩ (fun r48342 hr48342 => ?_)
    refine wk_isub (e1 := (-1)) (f := 31) hx hb dX3_bestOf_6 (by decide : Rg 31 31 (31 : Int32)) hr48342.1 (by decide) (fun r48343 hr48343 er48343 qr48343 => ?_)
    refine lv_istore_n (lv' := [(3, .int r48343), (0, .ref (a 8)), (1, .int x0), (2, .int x1)]) hx hb dX3_bestOf_7 rfl hl (by decide) rfl (fun ls hl => ?_)
    refine lv_iload_n hx hb dX3_bestOf_8 rfl (lv_at hl 0 rfl) ?_
    refine lv_iconst (v := 1) hx hb dX3_bestOf_9 (by decide) ?_
    refine lv_icmp_lt (tgt := 25) hx hb dX3_bestOf_10 (by decide) (fun c48344 => ?_) (fun c48344 => ?_)
    · have g48345 : Rg (-1) 0 r48343 := rg_ltl hr48343 (by decide : Rg 1 1 (1 : Int32)) c48344 (by decide)
      refine lv_iconst (v := 0) hx hb dX3_bestOf_25 (by decide) ?_
      subst hAe
      exact W.iret (v := 0) hx hb hr (fun t ht hW => ⟨⟨_, u, rfl, ⟨(by decide : Rg 0 65549 (0 : Int32)), (by have z1 := px1; have z2 : (0 : Int32).toInt = 0 := (by decide); omega)⟩, by rw [ht]; exact hP, hD⟩, hS.F ht⟩) hS.2.2 dX3_bestOf_26
    · have g48346 : Rg 1 31 r48343 := rg_ler (by decide : Rg 1 1 (1 : Int32)) hr48343 (rg_nlt c48344) (by decide)
      refine lv_iload_n hx hb dX3_bestOf_13 rfl (lv_at hl 0 rfl) ?_
      refine lv_bipush (v := 12) hx hb dX3_bestOf_14 (by decide) ?_
      refine lv_icmp_ge (tgt := 25) hx hb dX3_bestOf_16 (by decide) (fun c48347 => ?_) (fun c48347 => ?_)
      · have g48348 : Rg 12 31 r48343 := rg_ler (by decide : Rg 12 12 (12 : Int32)) g48346 c48347 (by decide)
        refine lv_iconst (v := 0) hx hb dX3_bestOf_25 (by decide) ?_
        subst hAe
        exact W.iret (v := 0) hx hb hr (fun t ht hW => ⟨⟨_, u, rfl, ⟨(by decide : Rg 0 65549 (0 : Int32)), (by have z1 := px1; have z2 : (0 : Int32).toInt = 0 := (by decide); omega)⟩, by rw [ht]; exact hP, hD⟩, hS.F ht⟩) hS.2.2 dX3_bestOf_26
      · have g48349 : Rg 1 11 r48343 := rg_ltl g48346 (by decide : Rg 12 12 (12 : Int32)) (rg_nle c48347) (by decide)
        refine lv_iload_n hx hb dX3_bestOf_19 rfl (lv_at hl 3 rfl) ?_
        refine lv_bipush (v := 12) hx hb dX3_bestOf_20 (by decide) ?_
        refine lv_icmp_le (tgt := 27) hx hb dX3_bestOf_22 (by decide) (fun c48350 => ?_) (fun c48350 => ?_)
        · exact absurd c48350 (wk_nle px1 (by decide : Rg 12 12 (12 : Int32)) (by decide))
        · refine lv_iconst (v := 0) hx hb dX3_bestOf_25 (by decide) ?_
          subst hAe
          exact W.iret (v := 0) hx hb hr (fun t ht hW => ⟨⟨_, u, rfl, ⟨(by decide : Rg 0 65549 (0 : Int32)), (by have z1 := px1; have z2 : (0 : Int32).toInt = 0 := (by decide); omega)⟩, by rw [ht]; exact hP, hD⟩, hS.F ht⟩) hS.2.2 dX3_bestOf_26
  | succ n ih =>
    intro sz u0 x0 x1 px1 hrk
    refine Met.ofW (cc := cX3_bestOf) (maxL := 11) (ret := (some .int)) (by decide) rfl ?_
    intro p e s m args below meth c s₁ B hml hv
    obtain ⟨rfl, hsz, hP, hKK, hD0⟩ := hv
    have hx := B.exec
    have hb := B.bytes
    have hr := B.returns
    have hts := atoms_spec (ws := wsX3_bestOf) B.pre
    have hown : s.vm.findClass RX3 = some m.cls := findClass_of_methodNamed B.named
    have hlocks := B.notSynchronized
    have hK := hKK.1
    have hin2 : ∀ w ∈ wsX20, w ∈ wsX3_bestOf := by decide +kernel
    have hin3 : ∀ w ∈ wsX30, w ∈ wsX3_bestOf := by decide +kernel
    subst hsz
    have hD := hD0.self (sz := s.heap.size)
    obtain ⟨A, hAe⟩ : ∃ A, A = va_A (wX cI cS a na nc N L u0) s.heap.size := ⟨_, rfl⟩
    rw [← hAe] at hD
    have hA : ∀ q : Nat, s.heap.size ≤ q → A q := fun q h => by rw [hAe]; exact Or.inr h
    have hS : va_S A s.heap s.heap [] := va_S.rf
    have hl := lv_entry ([.ref (a 8), .int x0, .int x1]) (n := 11) (Nat.le_of_ble_eq_true rfl)
    rw [lg_entry_eq]
    generalize (lg_sl ([.ref (a 8), .int x0, .int x1]) ++ List.replicate (11 - (lg_sl ([.ref (a 8), .int x0, .int x1])).length) Slot.unset).toArray = ls at hl ⊢
    have hl : lv_has ls 11 [(0, .ref (a 8)), (1, .int x0), (2, .int x1)] := hl
    obtain ⟨u, hu9⟩ : ∃ u : SU, u = u0 := ⟨_, rfl⟩
    rw [← hu9] at hP hD
    have lp106 : ∀ (n106 : Nat) (y106_l3 : Int32) (y106_l5 : Int32) (y106_l6 : Int32) (y106_l7 : Int32) (y106_l8 : Int32) (y106_l9 : Int32) (y106_l10 : Int32) (u : SU) (H : Heap) (locs : List Loc) (ls : Array Slot), Rg 0 12 x1 → Rg 1 11 y106_l3 → Rg 0 65548 y106_l7 → Rg 0 65549 y106_l8 → Rg 0 1 y106_l9 → Rg 0 11 y106_l10 → (y106_l8.toInt ≤ 65549 - x1.toInt ∧ y106_l7.toInt ≤ 65548 - x1.toInt) → va_P D cls (wX cI cS a na nc N L u) H → va_D A (wX cI cS a na nc N L u) → va_S A s.heap H locs → lv_has ls 11 [(0, .ref (a 8)), (1, .int x0), (2, .int x1), (3, .int y106_l3), (5, .int y106_l5), (6, .int y106_l6), (7, .int y106_l7), (8, .int y106_l8), (9, .int y106_l9), (10, .int y106_l10)] → 11 - y106_l10.toInt < (n106 : Int) → W p l e (headSpec wsX3_bestOf ({ frames := n + 1 + 1, cells := 0, slots := 0, locals := 40 * (n + 1 + 1) })).room s m ([.ref (a 8), .int x0, .int x1]).toArray below meth c H locs 0 0 (MQ below (QF (S := SU) D (wX cI cS a na nc N L u0) (wX cI cS a na nc N L) s.heap.size (fun r _ => Rg 0 65549 r ∧ r.toInt ≤ 65549 - x1.toInt)) ([.ref (a 8), .int x0, .int x1]).toArray s 0 0 (va_A (wX cI cS a na nc N L u0) s.heap.size)) (F0 m 106 ls []) := by
      intro n106
      induction n106 with
      | zero =>
        intro y106_l3 y106_l5 y106_l6 y106_l7 y106_l8 y106_l9 y106_l10 u H locs ls g106_l2 g106_l3 g106_l7 g106_l8 g106_l9 g106_l10 x106_0 hP hD hS hl hm106
        exact absurd rfl (me_z g106_l10 hm106)
      | succ n106 ih106 =>
        intro y106_l3 y106_l5 y106_l6 y106_l7 y106_l8 y106_l9 y106_l10 u H locs ls g106_l2 g106_l3 g106_l7 g106_l8 g106_l9 g106_l10 x106_0 hP hD hS hl hm106
        refine lv_iload hx hb dX3_bestOf_106 (lv_at hl 9 rfl) ?_
        refine lv_iload_n hx hb dX3_bestOf_108 rfl (lv_at hl 3 rfl) ?_
        refine lv_icmp_ge (tgt := 164) hx hb dX3_bestOf_109 (by decide) (fun c48810 => ?_) (fun c48810 => ?_)
        · have g48811 : Rg 1 11 y106_l10 := rg_ler g106_l3 g106_l10 c48810 (by decide)
          refine lv_aload_n hx hb dX3_bestOf_164 rfl (lv_at hl 0 rfl) ?_
          refine va_get (D := D) (ci := 3) (v := .ref (a 11)) (C := RX3) (T := TX3) (N := 4) hx hb hts hin3 hown hK hP 8 rfl rfl 1 (by decide) (hts (.fieldLink RX3 14 "MissedPoints$Pairs" "mosts" "LMissedPoints$Memo;") (by decide +kernel)) (fun _ h9 => h9) rfl dX3_bestOf_165 ?_
          refine lv_iload_n hx hb dX3_bestOf_168 rfl (lv_at hl 1 rfl) ?_
          refine lv_iload hx hb dX3_bestOf_169 (lv_at hl 7 rfl) ?_
          refine wk_qv (wX cI cS a na nc N L) u (As := [.int x0, .int y106_l8]) (rest := []) ⟨hx, hb, hml, hown, hts⟩ (k_X1_keep_11 l D cI cS _ a na nc N L u hL hN x0 y106_l8) hKK hP hD hS hA 11 (ci := 1) rfl rfl (cwV 2 hts gX3_bestOf_X1_keep rfl rfl rfl (by decide +kernel) ⟨by show 0 + 1 ≤ (n + 1) + 1; omega, by show 8 + (3 + 11) + 0 ≤ 40 * ((n + 1) + 1); omega⟩) rfl hl.1 rfl (Nat.le_of_ble_eq_true rfl) dX3_bestOf_171 ⟨Nat.le_of_ble_eq_true rfl, Nat.le_of_ble_eq_true rfl⟩ (fun u H locs hr48812 hP hD hS => ?_)
          refine lv_iload hx hb dX3_bestOf_174 (lv_at hl 7 rfl) ?_
          subst hAe
          exact W.iret (v := y106_l8) hx hb hr (fun t ht hW => ⟨⟨_, u, rfl, ⟨g106_l8, x106_0.1⟩, by rw [ht]; exact hP, hD⟩, hS.F ht⟩) hS.2.2 dX3_bestOf_176
        · have g48813 : Rg 0 10 y106_l10 := rg_ltl g106_l10 g106_l3 (rg_nle c48810) (by decide)
          refine lv_iload hx hb dX3_bestOf_112 (lv_at hl 8 rfl) ?_
          refine lv_if_eq (tgt := 164) hx hb dX3_bestOf_114 (by decide) (fun c48814 => ?_) (fun c48814 => ?_)
          · have g48815 : Rg 0 0 y106_l9 := wk_eql g106_l9 (by decide : Rg 0 0 (0 : Int32)) c48814 (by decide)
            refine lv_aload_n hx hb dX3_bestOf_164 rfl (lv_at hl 0 rfl) ?_
            refine va_get (D := D) (ci := 3) (v := .ref (a 11)) (C := RX3) (T := TX3) (N := 4) hx hb hts hin3 hown hK hP 8 rfl rfl 1 (by decide) (hts (.fieldLink RX3 14 "MissedPoints$Pairs" "mosts" "LMissedPoints$Memo;") (by decide +kernel)) (fun _ h9 => h9) rfl dX3_bestOf_165 ?_
            refine lv_iload_n hx hb dX3_bestOf_168 rfl (lv_at hl 1 rfl) ?_
            refine lv_iload hx hb dX3_bestOf_169 (lv_at hl 7 rfl) ?_
            refine wk_qv (wX cI cS a na nc N L) u (As := [.int x0, .int y106_l8]) (rest := []) ⟨hx, hb, hml, hown, hts⟩ (k_X1_keep_11 l D cI cS _ a na nc N L u hL hN x0 y106_l8) hKK hP hD hS hA 11 (ci := 1) rfl rfl (cwV 2 hts gX3_bestOf_X1_keep rfl rfl rfl (by decide +kernel) ⟨by show 0 + 1 ≤ (n + 1) + 1; omega, by show 8 + (3 + 11) + 0 ≤ 40 * ((n + 1) + 1); omega⟩) rfl hl.1 rfl (Nat.le_of_ble_eq_true rfl) dX3_bestOf_171 ⟨Nat.le_of_ble_eq_true rfl, Nat.le_of_ble_eq_true rfl⟩ (fun u H locs hr48816 hP hD hS => ?_)
            refine lv_iload hx hb dX3_bestOf_174 (lv_at hl 7 rfl) ?_
            subst hAe
            exact W.iret (v := y106_l8) hx hb hr (fun t ht hW => ⟨⟨_, u, rfl, ⟨g106_l8, x106_0.1⟩, by rw [ht]; exact hP, hD⟩, hS.F ht⟩) hS.2.2 dX3_bestOf_176
          · have g48817 : Rg 1 1 y106_l9 := rg_ne_lo (k := 0) g106_l9 (by decide) c48814 (by decide)
            refine lv_iload hx hb dX3_bestOf_117 (lv_at hl 7 rfl) ?_
            refine lv_iload hx hb dX3_bestOf_119 (lv_at hl 6 rfl) ?_
            refine lv_icmp_ne (tgt := 164) hx hb dX3_bestOf_121 (by decide) (fun c48818 => ?_) (fun c48818 => ?_)
            · refine lv_aload_n hx hb dX3_bestOf_164 rfl (lv_at hl 0 rfl) ?_
              refine va_get (D := D) (ci := 3) (v := .ref (a 11)) (C := RX3) (T := TX3) (N := 4) hx hb hts hin3 hown hK hP 8 rfl rfl 1 (by decide) (hts (.fieldLink RX3 14 "MissedPoints$Pairs" "mosts" "LMissedPoints$Memo;") (by decide +kernel)) (fun _ h9 => h9) rfl dX3_bestOf_165 ?_
              refine lv_iload_n hx hb dX3_bestOf_168 rfl (lv_at hl 1 rfl) ?_
              refine lv_iload hx hb dX3_bestOf_169 (lv_at hl 7 rfl) ?_
              refine wk_qv (wX cI cS a na nc N L) u (As := [.int x0, .int y106_l8]) (rest := []) ⟨hx, hb, hml, hown, hts⟩ (k_X1_keep_11 l D cI cS _ a na nc N L u hL hN x0 y106_l8) hKK hP hD hS hA 11 (ci := 1) rfl rfl (cwV 2 hts gX3_bestOf_X1_keep rfl rfl rfl (by decide +kernel) ⟨by show 0 + 1 ≤ (n + 1) + 1; omega, by show 8 + (3 + 11) + 0 ≤ 40 * ((n + 1) + 1); omega⟩) rfl hl.1 rfl (Nat.le_of_ble_eq_true rfl) dX3_bestOf_171 ⟨Nat.le_of_ble_eq_true rfl, Nat.le_of_ble_eq_true rfl⟩ (fun u H locs hr48819 hP hD hS => ?_)
              refine lv_iload hx hb dX3_bestOf_174 (lv_at hl 7 rfl) ?_
              subst hAe
              exact W.iret (v := y106_l8) hx hb hr (fun t ht hW => ⟨⟨_, u, rfl, ⟨g106_l8, x106_0.1⟩, by rw [ht]; exact hP, hD⟩, hS.F ht⟩) hS.2.2 dX3_bestOf_176
            · have g48820 : Rg 0 65548 y106_l8 := wk_eql g106_l8 g106_l7 c48818 (by decide)
              refine lv_iload hx hb dX3_bestOf_124 (lv_at hl 5 rfl) ?_
              refine lv_iload hx hb dX3_bestOf_126 (lv_at hl 9 rfl) ?_
              refine lv_ishr hx hb dX3_bestOf_128 ?_
              refine wk_topP (P := fun r => r = y106_l6 >>> (y106_l10 &&& 31)) rfl (fun r48821 qr48821 => ?_)
              refine lv_iconst (v := 1) hx hb dX3_bestOf_129 (by decide) ?_
              refine wk_iandr hx hb dX3_bestOf_130 (by decide : Rg 1 1 (1 : Int32)) (by decide) (fun r48822 hr48822 qr48822 => ?_)
              refine lv_if_eq (tgt := 158) hx hb dX3_bestOf_131 (by decide) (fun c48823 => ?_) (fun c48823 => ?_)
              · have g48824 : Rg 0 0 r48822 := wk_eql hr48822 (by decide : Rg 0 0 (0 : Int32)) c48823 (by decide)
                refine wk_iinc (lv' := fun r => [(10, .int r), (0, .ref (a 8)), (1, .int x0), (2, .int x1), (3, .int y106_l3), (5, .int y106_l5), (6, .int y106_l6), (7, .int y106_l7), (8, .int y106_l8), (9, .int y106_l9)]) (e1 := 1) (f := 11) hx hb dX3_bestOf_158 hl (k := 9) rfl (by decide) g48813 (by decide) (fun _ => rfl) (fun r48825 ls hr48825 er48825 hl => ?_)
                refine lv_goto (tgt := 106) hx hb dX3_bestOf_161 (by decide) ?_
                exact ih106 y106_l3 y106_l5 y106_l6 y106_l7 y106_l8 y106_l9 r48825 u _ _ ls g106_l2 g106_l3 g106_l7 (show Rg 0 65549 y106_l8 from rg_w g48820 (by decide) (by decide)) (show Rg 0 1 y106_l9 from rg_w g48817 (by decide) (by decide)) (show Rg 0 11 r48825 from rg_w hr48825 (by decide) (by decide)) (by exact x106_0) hP hD hS (lv_sub (l' := [(0, .ref (a 8)), (1, .int x0), (2, .int x1), (3, .int y106_l3), (5, .int y106_l5), (6, .int y106_l6), (7, .int y106_l7), (8, .int y106_l8), (9, .int y106_l9), (10, .int r48825)]) hl [1, 2, 3, 4, 5, 6, 7, 8, 9, 0] rfl) (me_up hm106 er48825 (by decide))
              · have g48826 : Rg 1 1 r48822 := rg_ne_lo (k := 0) hr48822 (by decide) c48823 (by decide)
                refine lv_aload_n hx hb dX3_bestOf_134 rfl (lv_at hl 0 rfl) ?_
                refine lv_iload hx hb dX3_bestOf_135 (lv_at hl 4 rfl) ?_
                refine lv_iconst (v := 1) hx hb dX3_bestOf_137 (by decide) ?_
                refine lv_iload hx hb dX3_bestOf_138 (lv_at hl 9 rfl) ?_
                refine wk_ishl1 (f := 1024) hx hb dX3_bestOf_140 g48813 (by decide) (fun r48827 hr48827 qr48827 => ?_)
                refine lv_iconst (v := (-1)) hx hb dX3_bestOf_141 (by decide) ?_
                refine lv_ixor hx hb dX3_bestOf_142 ?_
                refine wk_topP (P := fun r => r = r48827 ^^^ ((-1) : Int32)) rfl (fun r48828 qr48828 => ?_)
                refine lv_iand hx hb dX3_bestOf_143 ?_
                refine wk_topP (P := fun r => r = y106_l5 &&& r48828) rfl (fun r48829 qr48829 => ?_)
                refine lv_iload_n hx hb dX3_bestOf_144 rfl (lv_at hl 2 rfl) ?_
                refine lv_iconst (v := 1) hx hb dX3_bestOf_145 (by decide) ?_
                refine wk_iadd (e1 := 1) (f := 13) hx hb dX3_bestOf_146 g106_l2 (by decide : Rg 1 1 (1 : Int32)) (by decide) (fun r48830 hr48830 er48830 qr48830 => ?_)
                refine wk_qi (wX cI cS a na nc N L) u (As := [.int r48829, .int r48830]) (rest := []) ⟨hx, hb, hml, hown, hts⟩ (ih _ u r48829 r48830 ((show Rg 0 13 r48830 from rg_w hr48830 (by decide) (by decide))) (by have z1 := er48830; have z9 : (1 : Int32).toInt = 1 := (by decide); omega)) hKK hP hD hS hA 8 (ci := 3) rfl rfl (cwV 2 hts gX3_bestOf_X3_bestOf rfl rfl rfl (by decide +kernel) ⟨by show n + 1 + 1 ≤ (n + 1) + 1; omega, by show 8 + (11 + 11) + 40 * (n + 1) ≤ 40 * ((n + 1) + 1); omega⟩) rfl hl.1 rfl (Nat.le_of_ble_eq_true rfl) dX3_bestOf_147 ⟨Nat.le_of_ble_eq_true rfl, Nat.le_of_ble_eq_true rfl⟩ (fun r48831 u H locs hr48831 hP hD hS => ?_)
                have g48832 : Rg 0 65548 r48831 := ⟨hr48831.1.1, by have z1 := hr48831.2; have z2 := er48830; have z3 := px1; have z9 : (1 : Int32).toInt = 1 := (by decide); omega⟩
                refine lv_iload hx hb dX3_bestOf_150 (lv_at hl 6 rfl) ?_
                refine lv_icmp_ne (tgt := 158) hx hb dX3_bestOf_152 (by decide) (fun c48833 => ?_) (fun c48833 => ?_)
                · refine wk_iinc (lv' := fun r => [(10, .int r), (0, .ref (a 8)), (1, .int x0), (2, .int x1), (3, .int y106_l3), (5, .int y106_l5), (6, .int y106_l6), (7, .int y106_l7), (8, .int y106_l8), (9, .int y106_l9)]) (e1 := 1) (f := 11) hx hb dX3_bestOf_158 hl (k := 9) rfl (by decide) g48813 (by decide) (fun _ => rfl) (fun r48834 ls hr48834 er48834 hl => ?_)
                  refine lv_goto (tgt := 106) hx hb dX3_bestOf_161 (by decide) ?_
                  exact ih106 y106_l3 y106_l5 y106_l6 y106_l7 y106_l8 y106_l9 r48834 u _ _ ls g106_l2 g106_l3 g106_l7 (show Rg 0 65549 y106_l8 from rg_w g48820 (by decide) (by decide)) (show Rg 0 1 y106_l9 from rg_w g48817 (by decide) (by decide)) (show Rg 0 11 r48834 from rg_w hr48834 (by decide) (by decide)) (by exact x106_0) hP hD hS (lv_sub (l' := [(0, .ref (a 8)), (1, .int x0), (2, .int x1), (3, .int y106_l3), (5, .int y106_l5), (6, .int y106_l6), (7, .int y106_l7), (8, .int y106_l8), (9, .int y106_l9), (10, .int r48834)]) hl [1, 2, 3, 4, 5, 6, 7, 8, 9, 0] rfl) (me_up hm106 er48834 (by decide))
                · refine wk_iinc (lv' := fun r => [(8, .int r), (0, .ref (a 8)), (1, .int x0), (2, .int x1), (3, .int y106_l3), (5, .int y106_l5), (6, .int y106_l6), (7, .int y106_l7), (9, .int y106_l9), (10, .int y106_l10)]) (e1 := 1) (f := 65549) hx hb dX3_bestOf_155 hl (k := 7) rfl (by decide) g48820 (by decide) (fun _ => rfl) (fun r48835 ls hr48835 er48835 hl => ?_)
                  refine wk_iinc (lv' := fun r => [(10, .int r), (8, .int r48835), (0, .ref (a 8)), (1, .int x0), (2, .int x1), (3, .int y106_l3), (5, .int y106_l5), (6, .int y106_l6), (7, .int y106_l7), (9, .int y106_l9)]) (e1 := 1) (f := 11) hx hb dX3_bestOf_158 hl (k := 9) rfl (by decide) g48813 (by decide) (fun _ => rfl) (fun r48836 ls hr48836 er48836 hl => ?_)
                  refine lv_goto (tgt := 106) hx hb dX3_bestOf_161 (by decide) ?_
                  exact ih106 y106_l3 y106_l5 y106_l6 y106_l7 r48835 y106_l9 r48836 u _ _ ls g106_l2 g106_l3 g106_l7 (show Rg 0 65549 r48835 from rg_w hr48835 (by decide) (by decide)) (show Rg 0 1 y106_l9 from rg_w g48817 (by decide) (by decide)) (show Rg 0 11 r48836 from rg_w hr48836 (by decide) (by decide)) (by have z1 := x106_0; have z2 := er48835; have z3 := congrArg Int32.toInt c48818; exact ⟨by omega, z1.2⟩) hP hD hS (lv_sub (l' := [(0, .ref (a 8)), (1, .int x0), (2, .int x1), (3, .int y106_l3), (5, .int y106_l5), (6, .int y106_l6), (7, .int y106_l7), (8, .int r48835), (9, .int y106_l9), (10, .int r48836)]) hl [2, 3, 4, 5, 6, 7, 8, 1, 9, 0] rfl) (me_up hm106 er48836 (by decide))
    refine lv_bipush (v := 31) hx hb dX3_bestOf_0 (by decide) ?_
    refine lv_iload_n hx hb dX3_bestOf_2 rfl (lv_at hl 1 rfl) ?_
    refine lz_ss (As := [.int x0]) (rest := [.int 31]) ⟨hx, hb, hml, hown, hts⟩ (k_J6_numberOfLeadingZeros_0f7a4 l D cI cS x0) hKK (hP.sub (ws' := []) [] rfl) (va_cwS 1 hts gX3_bestOf_J6_numberOfLeadingZeros_0f7a4 rfl rfl rfl (by decide +kernel) ⟨by show 0 + 1 ≤ (n + 1) + 1; omega, by show 8 + (2 + 11) + 0 ≤ 40 * ((n + 1) + 1); omega⟩) rfl hl.1 rfl (Nat.le_of_ble_eq_true rfl) dX3_bestOf_3 ⟨Nat.le_of_ble_eq_true rfl, Nat.le_of_ble_eq_true rfl⟩ (fun r48837 hr48837 => ?_)
    refine wk_isub (e1 := (-1)) (f := 31) hx hb dX3_bestOf_6 (by decide : Rg 31 31 (31 : Int32)) hr48837.1 (by decide) (fun r48838 hr48838 er48838 qr48838 => ?_)
    refine lv_istore_n (lv' := [(3, .int r48838), (0, .ref (a 8)), (1, .int x0), (2, .int x1)]) hx hb dX3_bestOf_7 rfl hl (by decide) rfl (fun ls hl => ?_)
    refine lv_iload_n hx hb dX3_bestOf_8 rfl (lv_at hl 0 rfl) ?_
    refine lv_iconst (v := 1) hx hb dX3_bestOf_9 (by decide) ?_
    refine lv_icmp_lt (tgt := 25) hx hb dX3_bestOf_10 (by decide) (fun c48839 => ?_) (fun c48839 => ?_)
    · have g48840 : Rg (-1) 0 r48838 := rg_ltl hr48838 (by decide : Rg 1 1 (1 : Int32)) c48839 (by decide)
      refine lv_iconst (v := 0) hx hb dX3_bestOf_25 (by decide) ?_
      subst hAe
      exact W.iret (v := 0) hx hb hr (fun t ht hW => ⟨⟨_, u, rfl, ⟨(by decide : Rg 0 65549 (0 : Int32)), (by have z1 := px1; have z2 : (0 : Int32).toInt = 0 := (by decide); omega)⟩, by rw [ht]; exact hP, hD⟩, hS.F ht⟩) hS.2.2 dX3_bestOf_26
    · have g48841 : Rg 1 31 r48838 := rg_ler (by decide : Rg 1 1 (1 : Int32)) hr48838 (rg_nlt c48839) (by decide)
      refine lv_iload_n hx hb dX3_bestOf_13 rfl (lv_at hl 0 rfl) ?_
      refine lv_bipush (v := 12) hx hb dX3_bestOf_14 (by decide) ?_
      refine lv_icmp_ge (tgt := 25) hx hb dX3_bestOf_16 (by decide) (fun c48842 => ?_) (fun c48842 => ?_)
      · have g48843 : Rg 12 31 r48838 := rg_ler (by decide : Rg 12 12 (12 : Int32)) g48841 c48842 (by decide)
        refine lv_iconst (v := 0) hx hb dX3_bestOf_25 (by decide) ?_
        subst hAe
        exact W.iret (v := 0) hx hb hr (fun t ht hW => ⟨⟨_, u, rfl, ⟨(by decide : Rg 0 65549 (0 : Int32)), (by have z1 := px1; have z2 : (0 : Int32).toInt = 0 := (by decide); omega)⟩, by rw [ht]; exact hP, hD⟩, hS.F ht⟩) hS.2.2 dX3_bestOf_26
      · have g48844 : Rg 1 11 r48838 := rg_ltl g48841 (by decide : Rg 12 12 (12 : Int32)) (rg_nle c48842) (by decide)
        refine lv_iload_n hx hb dX3_bestOf_19 rfl (lv_at hl 3 rfl) ?_
        refine lv_bipush (v := 12) hx hb dX3_bestOf_20 (by decide) ?_
        refine lv_icmp_le (tgt := 27) hx hb dX3_bestOf_22 (by decide) (fun c48845 => ?_) (fun c48845 => ?_)
        · have g48846 : Rg 0 12 x1 := rg_lel px1 (by decide : Rg 12 12 (12 : Int32)) c48845 (by decide)
          refine lv_aload_n hx hb dX3_bestOf_27 rfl (lv_at hl 1 rfl) ?_
          refine va_get (D := D) (ci := 3) (v := .ref (a 11)) (C := RX3) (T := TX3) (N := 4) hx hb hts hin3 hown hK hP 8 rfl rfl 1 (by decide) (hts (.fieldLink RX3 14 "MissedPoints$Pairs" "mosts" "LMissedPoints$Memo;") (by decide +kernel)) (fun _ h9 => h9) rfl dX3_bestOf_28 ?_
          refine lv_iload_n hx hb dX3_bestOf_31 rfl (lv_at hl 2 rfl) ?_
          refine wk_sv 11 (As := [.int x0]) (rest := []) ⟨hx, hb, hml, hown, hts⟩ (k_X1_recall_11 l D cI cS a na nc N L u hL hN x0) hKK hP (ci := 1) rfl rfl (cwV 1 hts gX3_bestOf_X1_recall rfl rfl rfl (by decide +kernel) ⟨by show 0 + 1 ≤ (n + 1) + 1; omega, by show 8 + (2 + 11) + 0 ≤ 40 * ((n + 1) + 1); omega⟩) rfl hl.1 rfl (Nat.le_of_ble_eq_true rfl) dX3_bestOf_32 ⟨Nat.le_of_ble_eq_true rfl, Nat.le_of_ble_eq_true rfl⟩ (fun r48847 hr48847 => ?_)
          refine lv_istore (lv' := [(4, .int r48847), (3, .int r48838), (0, .ref (a 8)), (1, .int x0), (2, .int x1)]) hx hb dX3_bestOf_35 hl (by decide) rfl (fun ls hl => ?_)
          refine lv_iload hx hb dX3_bestOf_37 (lv_at hl 0 rfl) ?_
          refine lv_if_lt (tgt := 45) hx hb dX3_bestOf_39 (by decide) (fun c48848 => ?_) (fun c48848 => ?_)
          · have g48849 : Rg (-1) (-1) r48847 := rg_ltl hr48847.1 (by decide : Rg 0 0 (0 : Int32)) c48848 (by decide)
            refine lv_iload_n hx hb dX3_bestOf_45 rfl (lv_at hl 3 rfl) ?_
            refine lv_iconst (v := 1) hx hb dX3_bestOf_46 (by decide) ?_
            refine lv_iload_n hx hb dX3_bestOf_47 rfl (lv_at hl 1 rfl) ?_
            refine wk_ishl1 (f := 2048) hx hb dX3_bestOf_48 (show Rg 0 11 r48838 from rg_w g48844 (by decide) (by decide)) (by decide) (fun r48850 hr48850 qr48850 => ?_)
            refine lv_iconst (v := (-1)) hx hb dX3_bestOf_49 (by decide) ?_
            refine lv_ixor hx hb dX3_bestOf_50 ?_
            refine wk_topP (P := fun r => r = r48850 ^^^ ((-1) : Int32)) rfl (fun r48851 qr48851 => ?_)
            refine lv_iand hx hb dX3_bestOf_51 ?_
            refine wk_topP (P := fun r => r = x0 &&& r48851) rfl (fun r48852 qr48852 => ?_)
            refine lv_istore (lv' := [(5, .int r48852), (4, .int r48847), (3, .int r48838), (0, .ref (a 8)), (1, .int x0), (2, .int x1)]) hx hb dX3_bestOf_52 hl (by decide) rfl (fun ls hl => ?_)
            refine lv_aload_n hx hb dX3_bestOf_54 rfl (lv_at hl 3 rfl) ?_
            refine va_get (D := D) (ci := 3) (v := .ref (a 3)) (C := RX3) (T := TX3) (N := 4) hx hb hts hin3 hown hK hP 8 rfl rfl 0 (by decide) (hts (.fieldLink RX3 23 "MissedPoints$Pairs" "net" "LMissedPoints$Net;") (by decide +kernel)) (fun _ h9 => h9) rfl dX3_bestOf_55 ?_
            refine va_getN (D := D) (ci := 2) (v := .ref (a 4)) (C := RX2) (T := TX2) (N := 3) hx hb hts hin2 hown hK hP 3 rfl rfl 0 (by decide) (va_Nw.use rfl hKK.2.2.2.2.2.2.2.2.2.2.2.2.1) (fun _ h9 => h9) rfl dX3_bestOf_58 ?_
            refine lv_iload_n hx hb dX3_bestOf_61 rfl (lv_at hl 2 rfl) ?_
            refine wk_aldA hx hb hK hP 4 0 rfl rfl (rg_in g48844 (by decide) (by decide)) dX3_bestOf_62 (fun r48853 => ?_)
            refine lv_iload hx hb dX3_bestOf_63 (lv_at hl 0 rfl) ?_
            refine lv_iand hx hb dX3_bestOf_65 ?_
            refine wk_topP (P := fun r => r = r48853 &&& r48852) rfl (fun r48854 qr48854 => ?_)
            refine lv_istore (lv' := [(6, .int r48854), (5, .int r48852), (4, .int r48847), (3, .int r48838), (0, .ref (a 8)), (1, .int x0), (2, .int x1)]) hx hb dX3_bestOf_66 hl (by decide) rfl (fun ls hl => ?_)
            refine lv_aload_n hx hb dX3_bestOf_68 rfl (lv_at hl 4 rfl) ?_
            refine lv_iload hx hb dX3_bestOf_69 (lv_at hl 1 rfl) ?_
            refine lv_iload_n hx hb dX3_bestOf_71 rfl (lv_at hl 6 rfl) ?_
            refine lv_iconst (v := 1) hx hb dX3_bestOf_72 (by decide) ?_
            refine wk_iadd (e1 := 1) (f := 13) hx hb dX3_bestOf_73 g48846 (by decide : Rg 1 1 (1 : Int32)) (by decide) (fun r48855 hr48855 er48855 qr48855 => ?_)
            refine wk_qi (wX cI cS a na nc N L) u (As := [.int r48852, .int r48855]) (rest := []) ⟨hx, hb, hml, hown, hts⟩ (ih _ u r48852 r48855 ((show Rg 0 13 r48855 from rg_w hr48855 (by decide) (by decide))) (by have z1 := er48855; have z9 : (1 : Int32).toInt = 1 := (by decide); omega)) hKK hP hD hS hA 8 (ci := 3) rfl rfl (cwV 2 hts gX3_bestOf_X3_bestOf rfl rfl rfl (by decide +kernel) ⟨by show n + 1 + 1 ≤ (n + 1) + 1; omega, by show 8 + (11 + 11) + 40 * (n + 1) ≤ 40 * ((n + 1) + 1); omega⟩) rfl hl.1 rfl (Nat.le_of_ble_eq_true rfl) dX3_bestOf_74 ⟨Nat.le_of_ble_eq_true rfl, Nat.le_of_ble_eq_true rfl⟩ (fun r48856 u H locs hr48856 hP hD hS => ?_)
            have g48857 : Rg 0 65548 r48856 := ⟨hr48856.1.1, by have z1 := hr48856.2; have z2 := er48855; have z3 := px1; have z9 : (1 : Int32).toInt = 1 := (by decide); omega⟩
            refine lv_istore (lv' := [(7, .int r48856), (6, .int r48854), (5, .int r48852), (4, .int r48847), (3, .int r48838), (0, .ref (a 8)), (1, .int x0), (2, .int x1)]) hx hb dX3_bestOf_77 hl (by decide) rfl (fun ls hl => ?_)
            refine lv_iload hx hb dX3_bestOf_79 (lv_at hl 0 rfl) ?_
            refine lv_istore (lv' := [(8, .int r48856), (7, .int r48856), (6, .int r48854), (5, .int r48852), (4, .int r48847), (3, .int r48838), (0, .ref (a 8)), (1, .int x0), (2, .int x1)]) hx hb dX3_bestOf_81 hl (by decide) rfl (fun ls hl => ?_)
            refine lv_iconst (v := 2) hx hb dX3_bestOf_83 (by decide) ?_
            refine lv_iload hx hb dX3_bestOf_84 (lv_at hl 1 rfl) ?_
            refine wk_imul (f := 131096) hx hb dX3_bestOf_86 (by decide : Rg 0 2 (2 : Int32)) g48857 (by decide) (fun r48858 hr48858 er48858 qr48858 => ?_)
            refine lv_iconst (v := 2) hx hb dX3_bestOf_87 (by decide) ?_
            refine wk_iadd (e1 := 2) (f := 131098) hx hb dX3_bestOf_88 hr48858 (by decide : Rg 2 2 (2 : Int32)) (by decide) (fun r48859 hr48859 er48859 qr48859 => ?_)
            refine lv_iload_n hx hb dX3_bestOf_89 rfl (lv_at hl 7 rfl) ?_
            refine lz_ss (As := [.int x0]) (rest := [.int r48859]) ⟨hx, hb, hml, hown, hts⟩ (k_J6_bitCount_0f7a4 l D cI cS x0) hKK (hP.sub (ws' := []) [] rfl) (va_cwS 1 hts gX3_bestOf_J6_bitCount_0f7a4 rfl rfl rfl (by decide +kernel) ⟨by show 0 + 1 ≤ (n + 1) + 1; omega, by show 8 + (1 + 11) + 0 ≤ 40 * ((n + 1) + 1); omega⟩) rfl hl.1 rfl (Nat.le_of_ble_eq_true rfl) dX3_bestOf_90 ⟨Nat.le_of_ble_eq_true rfl, Nat.le_of_ble_eq_true rfl⟩ (fun r48860 hr48860 => ?_)
            refine lv_icmp_gt (tgt := 100) hx hb dX3_bestOf_93 (by decide) (fun c48861 => ?_) (fun c48861 => ?_)
            · have g48862 : Rg (-2147483648) 131097 r48860 := rg_ltl hr48860.1 hr48859 c48861 (by decide)
              refine lv_iconst (v := 0) hx hb dX3_bestOf_100 (by decide) ?_
              refine lv_istore (lv' := [(9, .int 0), (8, .int r48856), (7, .int r48856), (6, .int r48854), (5, .int r48852), (4, .int r48847), (3, .int r48838), (0, .ref (a 8)), (1, .int x0), (2, .int x1)]) hx hb dX3_bestOf_101 hl (by decide) rfl (fun ls hl => ?_)
              refine lv_iconst (v := 0) hx hb dX3_bestOf_103 (by decide) ?_
              refine lv_istore (lv' := [(10, .int 0), (9, .int 0), (8, .int r48856), (7, .int r48856), (6, .int r48854), (5, .int r48852), (4, .int r48847), (3, .int r48838), (0, .ref (a 8)), (1, .int x0), (2, .int x1)]) hx hb dX3_bestOf_104 hl (by decide) rfl (fun ls hl => ?_)
              exact lp106 12 r48838 r48852 r48854 r48856 r48856 (0 : Int32) (0 : Int32) u _ _ ls g48846 g48844 g48857 (show Rg 0 65549 r48856 from rg_w g48857 (by decide) (by decide)) (by decide : Rg 0 1 (0 : Int32)) (by decide : Rg 0 11 (0 : Int32)) (by have z1 := hr48856.2; have z2 := er48855; have z9 : (1 : Int32).toInt = 1 := (by decide); exact ⟨by omega, by omega⟩) hP hD hS (lv_sub (l' := [(0, .ref (a 8)), (1, .int x0), (2, .int x1), (3, .int r48838), (5, .int r48852), (6, .int r48854), (7, .int r48856), (8, .int r48856), (9, .int 0), (10, .int 0)]) hl [8, 9, 10, 7, 5, 4, 3, 2, 1, 0] rfl) (me_i (by decide : Rg 0 11 (0 : Int32)) (by decide))
            · have g48863 : Rg 2 2147483647 r48860 := rg_ler hr48859 hr48860.1 (rg_nlt c48861) (by decide)
              refine lv_iconst (v := 1) hx hb dX3_bestOf_96 (by decide) ?_
              refine lv_goto (tgt := 101) hx hb dX3_bestOf_97 (by decide) ?_
              refine lv_istore (lv' := [(9, .int 1), (8, .int r48856), (7, .int r48856), (6, .int r48854), (5, .int r48852), (4, .int r48847), (3, .int r48838), (0, .ref (a 8)), (1, .int x0), (2, .int x1)]) hx hb dX3_bestOf_101 hl (by decide) rfl (fun ls hl => ?_)
              refine lv_iconst (v := 0) hx hb dX3_bestOf_103 (by decide) ?_
              refine lv_istore (lv' := [(10, .int 0), (9, .int 1), (8, .int r48856), (7, .int r48856), (6, .int r48854), (5, .int r48852), (4, .int r48847), (3, .int r48838), (0, .ref (a 8)), (1, .int x0), (2, .int x1)]) hx hb dX3_bestOf_104 hl (by decide) rfl (fun ls hl => ?_)
              exact lp106 12 r48838 r48852 r48854 r48856 r48856 (1 : Int32) (0 : Int32) u _ _ ls g48846 g48844 g48857 (show Rg 0 65549 r48856 from rg_w g48857 (by decide) (by decide)) (by decide : Rg 0 1 (1 : Int32)) (by decide : Rg 0 11 (0 : Int32)) (by have z1 := hr48856.2; have z2 := er48855; have z9 : (1 : Int32).toInt = 1 := (by decide); exact ⟨by omega, by omega⟩) hP hD hS (lv_sub (l' := [(0, .ref (a 8)), (1, .int x0), (2, .int x1), (3, .int r48838), (5, .int r48852), (6, .int r48854), (7, .int r48856), (8, .int r48856), (9, .int 1), (10, .int 0)]) hl [8, 9, 10, 7, 5, 4, 3, 2, 1, 0] rfl) (me_i (by decide : Rg 0 11 (0 : Int32)) (by decide))
          · have g48864 : Rg 0 65535 r48847 := rg_ler (by decide : Rg 0 0 (0 : Int32)) hr48847.1 (rg_nlt c48848) (by decide)
            refine lv_iload hx hb dX3_bestOf_42 (lv_at hl 0 rfl) ?_
            subst hAe
            exact W.iret (v := r48847) hx hb hr (fun t ht hW => ⟨⟨_, u, rfl, ⟨(show Rg 0 65549 r48847 from rg_w g48864 (by decide) (by decide)), (by have z1 := px1; have z2 := g48864; omega)⟩, by rw [ht]; exact hP, hD⟩, hS.F ht⟩) hS.2.2 dX3_bestOf_44
        · have g48865 : Rg 13 13 x1 := rg_ltr (by decide : Rg 12 12 (12 : Int32)) px1 (rg_nle c48845) (by decide)
          refine lv_iconst (v := 0) hx hb dX3_bestOf_25 (by decide) ?_
          subst hAe
          exact W.iret (v := 0) hx hb hr (fun t ht hW => ⟨⟨_, u, rfl, ⟨(by decide : Rg 0 65549 (0 : Int32)), (by have z1 := px1; have z2 : (0 : Int32).toInt = 0 := (by decide); omega)⟩, by rw [ht]; exact hP, hD⟩, hS.F ht⟩) hS.2.2 dX3_bestOf_26
theorem k_X3_bestOf_8 (l : Launch) (D : va_G) (cI cS : ClassId) (sz : Nat) (a : Nat → Nat) (na nc N : Nat) (L u0 : SU) (hL : TyX L) (hN : N = 0 ∨ N = 24576) (x0 x1 : Int32) (px1 : Rg 0 0 x1) : Met l yX3_bestOf wsX3_bestOf ({ frames := 13 + 1, cells := 0, slots := 0, locals := 40 * (13 + 1) }) (PQ D cI cS (wX cI cS a na nc N L u0) sz [.ref (a 8), .int x0, .int x1]) (QF (S := SU) D (wX cI cS a na nc N L u0) (wX cI cS a na nc N L) sz (fun r _ => Rg 0 65549 r ∧ r.toInt ≤ 65549 - x1.toInt)) 0 0 (va_A (wX cI cS a na nc N L u0) sz) := k_X3_bestOf_8_r l D cI cS a na nc N L hL hN 13 sz u0 x0 x1 (rg_w px1 (by decide) (by decide)) (by have z1 := px1; omega)
set_option maxHeartbeats 4000000 in
set_option maxRecDepth 100000 in
theorem k_X3_best_8 (l : Launch) (D : va_G) (cI cS : ClassId) (sz : Nat) (a : Nat → Nat) (na nc N : Nat) (L u0 : SU) (hL : TyX L) (hN : N = 0 ∨ N = 24576) (x0 : Int32) : Met l yX3_best wsX3_best ({ frames := 15, cells := 0, slots := 0, locals := 600 }) (PQ D cI cS (wX cI cS a na nc N L u0) sz [.ref (a 8), .int x0]) (QF (S := SU) D (wX cI cS a na nc N L u0) (wX cI cS a na nc N L) sz (fun r _ => Rg 0 65549 r ∧ True)) 0 0 (va_A (wX cI cS a na nc N L u0) sz) := by
  refine Met.ofW (cc := cX3_best) (maxL := 2) (ret := (some .int)) (by decide) rfl ?_
  intro p e s m args below meth c s₁ B hml hv
  obtain ⟨rfl, hsz, hP, hKK, hD0⟩ := hv
  have hx := B.exec
  have hb := B.bytes
  have hr := B.returns
  have hts := atoms_spec (ws := wsX3_best) B.pre
  have hown : s.vm.findClass RX3 = some m.cls := findClass_of_methodNamed B.named
  have hlocks := B.notSynchronized
  have hK := hKK.1
  subst hsz
  have hD := hD0.self (sz := s.heap.size)
  obtain ⟨A, hAe⟩ : ∃ A, A = va_A (wX cI cS a na nc N L u0) s.heap.size := ⟨_, rfl⟩
  rw [← hAe] at hD
  have hA : ∀ q : Nat, s.heap.size ≤ q → A q := fun q h => by rw [hAe]; exact Or.inr h
  have hS : va_S A s.heap s.heap [] := va_S.rf
  have hl := lv_entry ([.ref (a 8), .int x0]) (n := 2) (Nat.le_of_ble_eq_true rfl)
  rw [lg_entry_eq]
  generalize (lg_sl ([.ref (a 8), .int x0]) ++ List.replicate (2 - (lg_sl ([.ref (a 8), .int x0])).length) Slot.unset).toArray = ls at hl ⊢
  have hl : lv_has ls 2 [(0, .ref (a 8)), (1, .int x0)] := hl
  obtain ⟨u, hu9⟩ : ∃ u : SU, u = u0 := ⟨_, rfl⟩
  rw [← hu9] at hP hD
  refine lv_aload_n hx hb dX3_best_0 rfl (lv_at hl 0 rfl) ?_
  refine wk_qv (wX cI cS a na nc N L) u (As := []) (rest := []) ⟨hx, hb, hml, hown, hts⟩ (k_X3_notice_8 l D cI cS _ a na nc N L u hL hN) hKK hP hD hS hA 8 (ci := 3) rfl rfl (cwV 0 hts gX3_best_X3_notice rfl rfl rfl (by decide +kernel) ⟨Nat.le_of_ble_eq_true rfl, Nat.le_of_ble_eq_true rfl⟩) rfl hl.1 rfl (Nat.le_of_ble_eq_true rfl) dX3_best_1 ⟨Nat.le_of_ble_eq_true rfl, Nat.le_of_ble_eq_true rfl⟩ (fun u H locs hr48868 hP hD hS => ?_)
  refine lv_aload_n hx hb dX3_best_4 rfl (lv_at hl 0 rfl) ?_
  refine lv_iload_n hx hb dX3_best_5 rfl (lv_at hl 1 rfl) ?_
  refine lv_iconst (v := 0) hx hb dX3_best_6 (by decide) ?_
  refine wk_qi (wX cI cS a na nc N L) u (As := [.int x0, .int 0]) (rest := []) ⟨hx, hb, hml, hown, hts⟩ (k_X3_bestOf_8 l D cI cS _ a na nc N L u hL hN x0 (0 : Int32) (by decide : Rg 0 0 (0 : Int32))) hKK hP hD hS hA 8 (ci := 3) rfl rfl (cwV 2 hts gX3_best_X3_bestOf rfl rfl rfl (by decide +kernel) ⟨Nat.le_of_ble_eq_true rfl, Nat.le_of_ble_eq_true rfl⟩) rfl hl.1 rfl (Nat.le_of_ble_eq_true rfl) dX3_best_7 ⟨Nat.le_of_ble_eq_true rfl, Nat.le_of_ble_eq_true rfl⟩ (fun r48869 u H locs hr48869 hP hD hS => ?_)
  subst hAe
  exact W.iret (v := r48869) hx hb hr (fun t ht hW => ⟨⟨_, u, rfl, ⟨hr48869.1, trivial⟩, by rw [ht]; exact hP, hD⟩, hS.F ht⟩) hS.2.2 dX3_best_10
set_option maxHeartbeats 4000000 in
set_option maxRecDepth 100000 in
theorem k_X3_lack_8 (l : Launch) (D : va_G) (cI cS : ClassId) (sz : Nat) (a : Nat → Nat) (na nc N : Nat) (L u0 : SU) (hL : TyX L) (hN : N = 0 ∨ N = 24576) (x0 : Int32) : Met l yX3_lack wsX3_lack ({ frames := 16, cells := 0, slots := 0, locals := 640 }) (PQ D cI cS (wX cI cS a na nc N L u0) sz [.ref (a 8), .int x0]) (QF (S := SU) D (wX cI cS a na nc N L u0) (wX cI cS a na nc N L) sz (fun r _ => Rg (-2147483648) 2147483647 r ∧ True)) 0 0 (va_A (wX cI cS a na nc N L u0) sz) := by
  refine Met.ofW (cc := cX3_lack) (maxL := 2) (ret := (some .int)) (by decide) rfl ?_
  intro p e s m args below meth c s₁ B hml hv
  obtain ⟨rfl, hsz, hP, hKK, hD0⟩ := hv
  have hx := B.exec
  have hb := B.bytes
  have hr := B.returns
  have hts := atoms_spec (ws := wsX3_lack) B.pre
  have hown : s.vm.findClass RX3 = some m.cls := findClass_of_methodNamed B.named
  have hlocks := B.notSynchronized
  have hK := hKK.1
  subst hsz
  have hD := hD0.self (sz := s.heap.size)
  obtain ⟨A, hAe⟩ : ∃ A, A = va_A (wX cI cS a na nc N L u0) s.heap.size := ⟨_, rfl⟩
  rw [← hAe] at hD
  have hA : ∀ q : Nat, s.heap.size ≤ q → A q := fun q h => by rw [hAe]; exact Or.inr h
  have hS : va_S A s.heap s.heap [] := va_S.rf
  have hl := lv_entry ([.ref (a 8), .int x0]) (n := 2) (Nat.le_of_ble_eq_true rfl)
  rw [lg_entry_eq]
  generalize (lg_sl ([.ref (a 8), .int x0]) ++ List.replicate (2 - (lg_sl ([.ref (a 8), .int x0])).length) Slot.unset).toArray = ls at hl ⊢
  have hl : lv_has ls 2 [(0, .ref (a 8)), (1, .int x0)] := hl
  obtain ⟨u, hu9⟩ : ∃ u : SU, u = u0 := ⟨_, rfl⟩
  rw [← hu9] at hP hD
  refine lv_iload_n hx hb dX3_lack_0 rfl (lv_at hl 1 rfl) ?_
  refine lz_ss (As := [.int x0]) (rest := []) ⟨hx, hb, hml, hown, hts⟩ (k_J6_bitCount_0f7a4 l D cI cS x0) hKK (hP.sub (ws' := []) [] rfl) (va_cwS 1 hts gX3_lack_J6_bitCount_0f7a4 rfl rfl rfl (by decide +kernel) ⟨Nat.le_of_ble_eq_true rfl, Nat.le_of_ble_eq_true rfl⟩) rfl hl.1 rfl (Nat.le_of_ble_eq_true rfl) dX3_lack_1 ⟨Nat.le_of_ble_eq_true rfl, Nat.le_of_ble_eq_true rfl⟩ (fun r48874 hr48874 => ?_)
  refine lv_iconst (v := 2) hx hb dX3_lack_4 (by decide) ?_
  refine lv_aload_n hx hb dX3_lack_5 rfl (lv_at hl 0 rfl) ?_
  refine lv_iload_n hx hb dX3_lack_6 rfl (lv_at hl 1 rfl) ?_
  refine wk_qi (wX cI cS a na nc N L) u (As := [.int x0]) (rest := [.int 2, .int r48874]) ⟨hx, hb, hml, hown, hts⟩ (k_X3_best_8 l D cI cS _ a na nc N L u hL hN x0) hKK hP hD hS hA 8 (ci := 3) rfl rfl (cwV 1 hts gX3_lack_X3_best rfl rfl rfl (by decide +kernel) ⟨Nat.le_of_ble_eq_true rfl, Nat.le_of_ble_eq_true rfl⟩) rfl hl.1 rfl (Nat.le_of_ble_eq_true rfl) dX3_lack_7 ⟨Nat.le_of_ble_eq_true rfl, Nat.le_of_ble_eq_true rfl⟩ (fun r48875 u H locs hr48875 hP hD hS => ?_)
  refine wk_imul (f := 131098) hx hb dX3_lack_10 (by decide : Rg 0 2 (2 : Int32)) hr48875.1 (by decide) (fun r48876 hr48876 er48876 qr48876 => ?_)
  refine lv_isub hx hb dX3_lack_11 ?_
  refine wk_topP (P := fun r => r = r48874 - r48876) rfl (fun r48877 qr48877 => ?_)
  subst hAe
  exact W.iret (v := r48877) hx hb hr (fun t ht hW => ⟨⟨_, u, rfl, ⟨(rg_any r48877), trivial⟩, by rw [ht]; exact hP, hD⟩, hS.F ht⟩) hS.2.2 dX3_lack_12
theorem dX0_draw_0 : decode cX0_draw 0 = .ok (.aload_n 0, 1) := by decide +kernel
theorem dX0_draw_1 : decode cX0_draw 1 = .ok (.aload_n 0, 1) := by decide +kernel
theorem dX0_draw_11 : decode cX0_draw 11 = .ok (.iadd, 1) := by decide +kernel
theorem dX0_draw_12 : decode cX0_draw 12 = .ok (.putfield 7, 3) := by decide +kernel
theorem dX0_draw_15 : decode cX0_draw 15 = .ok (.aload_n 0, 1) := by decide +kernel
theorem dX0_draw_16 : decode cX0_draw 16 = .ok (.getfield 7, 3) := by decide +kernel
theorem dX0_draw_19 : decode cX0_draw 19 = .ok (.bipush 16, 2) := by decide +kernel
theorem dX0_draw_2 : decode cX0_draw 2 = .ok (.getfield 7, 3) := by decide +kernel
theorem dX0_draw_21 : decode cX0_draw 21 = .ok (.iushr, 1) := by decide +kernel
theorem dX0_draw_22 : decode cX0_draw 22 = .ok (.ireturn, 1) := by decide +kernel
theorem dX0_draw_5 : decode cX0_draw 5 = .ok (.ldc 13, 2) := by decide +kernel
theorem dX0_draw_7 : decode cX0_draw 7 = .ok (.imul, 1) := by decide +kernel
theorem dX0_draw_8 : decode cX0_draw 8 = .ok (.sipush 12345, 3) := by decide +kernel
set_option maxHeartbeats 4000000 in
set_option maxRecDepth 100000 in
theorem k_X0_draw (l : Launch) (D : va_G) (cI cS : ClassId) (sz : Nat) (a : Nat → Nat) (na nc N : Nat) (l_s l_t l_i l_kp l_iz l_z l_tp l_o0 l_o1 l_o2 l_o3 l_n0 l_n1 l_n2 l_n3 : Int32) (u0 : SU) (hL : TyX (mkL l_s l_t l_i l_kp l_iz l_z l_tp l_o0 l_o1 l_o2 l_o3 l_n0 l_n1 l_n2 l_n3)) (hN : N = 0 ∨ N = 24576) : Met l yX0_draw wsX0_draw ({ frames := 0, cells := 0, slots := 0, locals := 0 }) (PQ D cI cS (wX cI cS a na nc N (mkL l_s l_t l_i l_kp l_iz l_z l_tp l_o0 l_o1 l_o2 l_o3 l_n0 l_n1 l_n2 l_n3) u0) sz [.ref (a 20)]) (QF (S := Int32 × SU) D (wX cI cS a na nc N (mkL l_s l_t l_i l_kp l_iz l_z l_tp l_o0 l_o1 l_o2 l_o3 l_n0 l_n1 l_n2 l_n3) u0) (fun q => wX cI cS a na nc N (mkL l_s l_t l_i l_kp l_iz q.1 l_tp l_o0 l_o1 l_o2 l_o3 l_n0 l_n1 l_n2 l_n3) q.2) sz (fun r q => Rg (-2147483648) 2147483647 r ∧ (q.1 = zsN l_z))) 0 0 (va_A (wX cI cS a na nc N (mkL l_s l_t l_i l_kp l_iz l_z l_tp l_o0 l_o1 l_o2 l_o3 l_n0 l_n1 l_n2 l_n3) u0) sz) := by
  refine Met.ofW (cc := cX0_draw) (maxL := 1) (ret := (some .int)) (by decide) rfl ?_
  intro p e s m args below meth c s₁ B hml hv
  obtain ⟨rfl, hsz, hP, hKK, hD0⟩ := hv
  have hx := B.exec
  have hb := B.bytes
  have hr := B.returns
  have hts := atoms_spec (ws := wsX0_draw) B.pre
  have hown : s.vm.findClass RX0 = some m.cls := findClass_of_methodNamed B.named
  have hlocks := B.notSynchronized
  have hK := hKK.1
  have hin0 : ∀ w ∈ wsX00, w ∈ wsX0_draw := by decide +kernel
  subst hsz
  have hD := hD0.self (sz := s.heap.size)
  obtain ⟨A, hAe⟩ : ∃ A, A = va_A (wX cI cS a na nc N (mkL l_s l_t l_i l_kp l_iz l_z l_tp l_o0 l_o1 l_o2 l_o3 l_n0 l_n1 l_n2 l_n3) u0) s.heap.size := ⟨_, rfl⟩
  rw [← hAe] at hD
  have hA : ∀ q : Nat, s.heap.size ≤ q → A q := fun q h => by rw [hAe]; exact Or.inr h
  have hS : va_S A s.heap s.heap [] := va_S.rf
  have hl := lv_entry ([.ref (a 20)]) (n := 1) (Nat.le_of_ble_eq_true rfl)
  rw [lg_entry_eq]
  generalize (lg_sl ([.ref (a 20)]) ++ List.replicate (1 - (lg_sl ([.ref (a 20)])).length) Slot.unset).toArray = ls at hl ⊢
  have hl : lv_has ls 1 [(0, .ref (a 20))] := hl
  obtain ⟨u, hu9⟩ : ∃ u : SU, u = u0 := ⟨_, rfl⟩
  rw [← hu9] at hP hD
  have p_s : Rg 0 12 l_s := hL.1
  have p_t : Rg 0 12 l_t := hL.2.1
  have p_i : Rg 0 12 l_i := hL.2.2.1
  have p_tp : Rg 0 120 l_tp := hL.2.2.2.1
  have p_n0 : Rg 0 40 l_n0 := hL.2.2.2.2.1
  have p_n1 : Rg 0 40 l_n1 := hL.2.2.2.2.2.1
  have p_n2 : Rg 0 40 l_n2 := hL.2.2.2.2.2.2.1
  have p_n3 : Rg 0 40 l_n3 := hL.2.2.2.2.2.2.2
  refine lv_aload_n hx hb dX0_draw_0 rfl (lv_at hl 0 rfl) ?_
  refine lv_aload_n hx hb dX0_draw_1 rfl (lv_at hl 0 rfl) ?_
  refine va_get (D := D) (ci := 0) (v := .int l_z) (C := RX0) (T := TX0) (N := 1) hx hb hts hin0 hown hK hP 20 rfl rfl 0 (by decide) (hts (.fieldLink RX0 7 "MissedPoints$Draws" "z" "I") (by decide +kernel)) (fun _ h9 => h9) rfl dX0_draw_2 ?_
  refine lv_ldc hx hb hown (hts (.constant RX0 13 (1103515245)) (by decide +kernel)) dX0_draw_5 ?_
  refine lv_imul hx hb dX0_draw_7 ?_
  refine wk_topP (P := fun r => r = l_z * (1103515245 : Int32)) rfl (fun r48881 qr48881 => ?_)
  refine lv_sipush (v := 12345) hx hb dX0_draw_8 (by decide) ?_
  refine lv_iadd hx hb dX0_draw_11 ?_
  refine wk_topP (P := fun r => r = r48881 + (12345 : Int32)) rfl (fun r48882 qr48882 => ?_)
  refine va_put (D := D) (ci := 0) (v := .int r48882) (ty := .int) (C := RX0) (T := TX0) (N := 1) hx hb hts hin0 tyX0 tyX0_ok nmX0 hown hK hP hD hS 20 rfl rfl 0 (by decide) (hts (.fieldLink RX0 7 "MissedPoints$Draws" "z" "I") (by decide +kernel)) (fun _ h9 => h9) rfl (by decide +kernel) rfl rfl (Nat.le_of_ble_eq_true rfl) dX0_draw_12 (fun H locs hP hD hS => ?_)
  have hP : va_P D cls (wX cI cS a na nc N (mkL l_s l_t l_i l_kp l_iz r48882 l_tp l_o0 l_o1 l_o2 l_o3 l_n0 l_n1 l_n2 l_n3) u) H := hP
  have hD : va_D A (wX cI cS a na nc N (mkL l_s l_t l_i l_kp l_iz r48882 l_tp l_o0 l_o1 l_o2 l_o3 l_n0 l_n1 l_n2 l_n3) u) := hD
  refine lv_aload_n hx hb dX0_draw_15 rfl (lv_at hl 0 rfl) ?_
  refine va_get (D := D) (ci := 0) (v := .int r48882) (C := RX0) (T := TX0) (N := 1) hx hb hts hin0 hown hK hP 20 rfl rfl 0 (by decide) (hts (.fieldLink RX0 7 "MissedPoints$Draws" "z" "I") (by decide +kernel)) (fun _ h9 => h9) rfl dX0_draw_16 ?_
  refine lv_bipush (v := 16) hx hb dX0_draw_19 (by decide) ?_
  refine lv_iushr hx hb dX0_draw_21 rfl ?_
  refine wk_any (fun r48883 => ?_)
  subst hAe
  exact W.iret (v := r48883) hx hb hr (fun t ht hW => ⟨⟨_, (r48882, u), rfl, ⟨(rg_any r48883), (by rw [qr48882, qr48881]; rfl)⟩, by rw [ht]; exact hP, hD⟩, hS.F ht⟩) hS.2.2 dX0_draw_22
theorem dX2_add_0 : decode cX2_add 0 = .ok (.aload_n 0, 1) := by decide +kernel
theorem dX2_add_1 : decode cX2_add 1 = .ok (.aload_n 0, 1) := by decide +kernel
theorem dX2_add_12 : decode cX2_add 12 = .ok (.putfield 15, 3) := by decide +kernel
theorem dX2_add_15 : decode cX2_add 15 = .ok (.aload_n 0, 1) := by decide +kernel
theorem dX2_add_16 : decode cX2_add 16 = .ok (.dup, 1) := by decide +kernel
theorem dX2_add_17 : decode cX2_add 17 = .ok (.getfield 33, 3) := by decide +kernel
theorem dX2_add_2 : decode cX2_add 2 = .ok (.getfield 15, 3) := by decide +kernel
theorem dX2_add_20 : decode cX2_add 20 = .ok (.iconst 1, 1) := by decide +kernel
theorem dX2_add_21 : decode cX2_add 21 = .ok (.iadd, 1) := by decide +kernel
theorem dX2_add_22 : decode cX2_add 22 = .ok (.putfield 33, 3) := by decide +kernel
theorem dX2_add_25 : decode cX2_add 25 = .ok (.return_, 1) := by decide +kernel
theorem dX2_add_5 : decode cX2_add 5 = .ok (.iload_n 1, 1) := by decide +kernel
theorem dX2_add_6 : decode cX2_add 6 = .ok (.iadd, 1) := by decide +kernel
theorem dX2_add_7 : decode cX2_add 7 = .ok (.bipush 12, 2) := by decide +kernel
theorem dX2_add_9 : decode cX2_add 9 = .ok (.invokestatic 27, 3) := by decide +kernel
set_option maxHeartbeats 4000000 in
set_option maxRecDepth 100000 in
theorem k_X2_add (l : Launch) (D : va_G) (cI cS : ClassId) (sz : Nat) (a : Nat → Nat) (na nc N : Nat) (l_s l_t l_i l_kp l_iz l_z l_tp l_o0 l_o1 l_o2 l_o3 l_n0 l_n1 l_n2 l_n3 : Int32) (u0 : SU) (hL : TyX (mkL l_s l_t l_i l_kp l_iz l_z l_tp l_o0 l_o1 l_o2 l_o3 l_n0 l_n1 l_n2 l_n3)) (hN : N = 0 ∨ N = 24576) (x0 : Int32) (px0 : Rg 0 12 x0) : Met l yX2_add wsX2_add ({ frames := 1, cells := 0, slots := 0, locals := 40 }) (PQ D cI cS (wX cI cS a na nc N (mkL l_s l_t l_i l_kp l_iz l_z l_tp l_o0 l_o1 l_o2 l_o3 l_n0 l_n1 l_n2 l_n3) u0) sz [.ref (a 1), .int x0]) (QE (S := Int32 × SU) D (wX cI cS a na nc N (mkL l_s l_t l_i l_kp l_iz l_z l_tp l_o0 l_o1 l_o2 l_o3 l_n0 l_n1 l_n2 l_n3) u0) (fun q => wX cI cS a na nc N (mkL q.1 l_t l_i l_kp l_iz l_z l_tp l_o0 l_o1 l_o2 l_o3 l_n0 l_n1 l_n2 l_n3) q.2) sz (fun q => Rg 0 12 q.1 ∧ ((l_s.toInt + x0.toInt ≤ 12 → q.1.toInt = l_s.toInt + x0.toInt)))) 0 0 (va_A (wX cI cS a na nc N (mkL l_s l_t l_i l_kp l_iz l_z l_tp l_o0 l_o1 l_o2 l_o3 l_n0 l_n1 l_n2 l_n3) u0) sz) := by
  refine Met.ofW (cc := cX2_add) (maxL := 2) (ret := none) (by decide) rfl ?_
  intro p e s m args below meth c s₁ B hml hv
  obtain ⟨rfl, hsz, hP, hKK, hD0⟩ := hv
  have hx := B.exec
  have hb := B.bytes
  have hr := B.returns
  have hts := atoms_spec (ws := wsX2_add) B.pre
  have hown : s.vm.findClass RX2 = some m.cls := findClass_of_methodNamed B.named
  have hlocks := B.notSynchronized
  have hK := hKK.1
  have hin2 : ∀ w ∈ wsX20, w ∈ wsX2_add := by decide +kernel
  subst hsz
  have hD := hD0.self (sz := s.heap.size)
  obtain ⟨A, hAe⟩ : ∃ A, A = va_A (wX cI cS a na nc N (mkL l_s l_t l_i l_kp l_iz l_z l_tp l_o0 l_o1 l_o2 l_o3 l_n0 l_n1 l_n2 l_n3) u0) s.heap.size := ⟨_, rfl⟩
  rw [← hAe] at hD
  have hA : ∀ q : Nat, s.heap.size ≤ q → A q := fun q h => by rw [hAe]; exact Or.inr h
  have hS : va_S A s.heap s.heap [] := va_S.rf
  have hl := lv_entry ([.ref (a 1), .int x0]) (n := 2) (Nat.le_of_ble_eq_true rfl)
  rw [lg_entry_eq]
  generalize (lg_sl ([.ref (a 1), .int x0]) ++ List.replicate (2 - (lg_sl ([.ref (a 1), .int x0])).length) Slot.unset).toArray = ls at hl ⊢
  have hl : lv_has ls 2 [(0, .ref (a 1)), (1, .int x0)] := hl
  obtain ⟨u, hu9⟩ : ∃ u : SU, u = u0 := ⟨_, rfl⟩
  rw [← hu9] at hP hD
  have p_s : Rg 0 12 l_s := hL.1
  have p_t : Rg 0 12 l_t := hL.2.1
  have p_i : Rg 0 12 l_i := hL.2.2.1
  have p_tp : Rg 0 120 l_tp := hL.2.2.2.1
  have p_n0 : Rg 0 40 l_n0 := hL.2.2.2.2.1
  have p_n1 : Rg 0 40 l_n1 := hL.2.2.2.2.2.1
  have p_n2 : Rg 0 40 l_n2 := hL.2.2.2.2.2.2.1
  have p_n3 : Rg 0 40 l_n3 := hL.2.2.2.2.2.2.2
  refine lv_aload_n hx hb dX2_add_0 rfl (lv_at hl 0 rfl) ?_
  refine lv_aload_n hx hb dX2_add_1 rfl (lv_at hl 0 rfl) ?_
  refine va_get (D := D) (ci := 2) (v := .int l_s) (C := RX2) (T := TX2) (N := 3) hx hb hts hin2 hown hK hP 1 rfl rfl 1 (by decide) (hts (.fieldLink RX2 15 "MissedPoints$Net" "size" "I") (by decide +kernel)) (fun _ h9 => h9) rfl dX2_add_2 ?_
  refine lv_iload_n hx hb dX2_add_5 rfl (lv_at hl 1 rfl) ?_
  refine wk_iadd (e1 := 0) (f := 24) hx hb dX2_add_6 p_s px0 (by decide) (fun r48888 hr48888 er48888 qr48888 => ?_)
  refine lv_bipush (v := 12) hx hb dX2_add_7 (by decide) ?_
  refine va_mmin hx hb (by rw [hml]; exact hl.1.symm) hown (hts (.methodLink RX2 27 Lib.Math.min.name) (by decide +kernel)) (hts (.static Lib.Math.min.name) (by decide +kernel)) (hts (.initialized "java/lang/Math") (by decide +kernel)) (hts (.code Lib.Math.min.name Lib.Math.min.code 2 (some .int)) (by decide +kernel)) (Nat.le_of_ble_eq_true rfl) (Nat.le_of_ble_eq_true rfl) (Nat.le_of_ble_eq_true rfl) (Nat.le_of_ble_eq_true rfl) dX2_add_9 ?_
  refine wk_topP (P := fun r => Rg 0 12 r ∧ (r.toInt ≤ r48888.toInt ∧ r.toInt ≤ (12 : Int32).toInt) ∧ (r.toInt = r48888.toInt ∨ r.toInt = (12 : Int32).toInt)) ⟨wk_min hr48888 (by decide : Rg 12 12 (12 : Int32)) (by decide), ⟨⟨wk_minE.1, wk_minE.2.1⟩, wk_minE.2.2⟩⟩ (fun r48889 hr48889 => ?_)
  refine va_put (D := D) (ci := 2) (v := .int r48889) (ty := .int) (C := RX2) (T := TX2) (N := 3) hx hb hts hin2 tyX2 tyX2_ok nmX2 hown hK hP hD hS 1 rfl rfl 1 (by decide) (hts (.fieldLink RX2 15 "MissedPoints$Net" "size" "I") (by decide +kernel)) (fun _ h9 => h9) rfl (by decide +kernel) rfl rfl (Nat.le_of_ble_eq_true rfl) dX2_add_12 (fun H locs hP hD hS => ?_)
  have hP : va_P D cls (wX cI cS a na nc N (mkL r48889 l_t l_i l_kp l_iz l_z l_tp l_o0 l_o1 l_o2 l_o3 l_n0 l_n1 l_n2 l_n3) u) H := hP
  have hD : va_D A (wX cI cS a na nc N (mkL r48889 l_t l_i l_kp l_iz l_z l_tp l_o0 l_o1 l_o2 l_o3 l_n0 l_n1 l_n2 l_n3) u) := hD
  refine lv_aload_n hx hb dX2_add_15 rfl (lv_at hl 0 rfl) ?_
  refine lv_dup hx hb dX2_add_16 rfl ?_
  refine va_get (D := D) (ci := 2) (v := .int (u 1 2)) (C := RX2) (T := TX2) (N := 3) hx hb hts hin2 hown hK hP 1 rfl rfl 2 (by decide) (hts (.fieldLink RX2 33 "MissedPoints$Net" "changes" "I") (by decide +kernel)) (fun _ h9 => h9) rfl dX2_add_17 ?_
  refine wk_any (fun r48890 => ?_)
  refine lv_iconst (v := 1) hx hb dX2_add_20 (by decide) ?_
  refine lv_iadd hx hb dX2_add_21 ?_
  refine wk_topP (P := fun r => r = r48890 + (1 : Int32)) rfl (fun r48891 qr48891 => ?_)
  refine va_put (D := D) (ci := 2) (v := .int r48891) (ty := .int) (C := RX2) (T := TX2) (N := 3) hx hb hts hin2 tyX2 tyX2_ok nmX2 hown hK hP hD hS 1 rfl rfl 2 (by decide) (hts (.fieldLink RX2 33 "MissedPoints$Net" "changes" "I") (by decide +kernel)) (fun _ h9 => h9) rfl (by decide +kernel) rfl rfl (Nat.le_of_ble_eq_true rfl) dX2_add_22 (fun H locs hP hD hS => ?_)
  rw [sxf_1_2] at hP hD
  generalize sU u 1 _ = u at hP hD
  subst hAe
  exact W.vret hx hb hr (fun t ht hW => ⟨⟨(r48889, u), rfl, ⟨hr48889.1, (show (l_s.toInt + x0.toInt ≤ 12 → r48889.toInt = l_s.toInt + x0.toInt) from by have y90 : Rg 0 12 x0 := px0; have y91 : Rg 0 12 r48889 := hr48889.1; have y92 : Rg 0 12 l_t := p_t; have y93 : Rg 0 12 l_i := p_i; have y94 : Rg 0 120 l_tp := p_tp; have y95 : Rg 0 40 l_n0 := p_n0; have y96 : Rg 0 40 l_n1 := p_n1; have y97 : Rg 0 40 l_n2 := p_n2; have y98 : Rg 0 40 l_n3 := p_n3; have y9c9 : (0 : Int32).toInt = 0 := (by decide); have y9c10 : (1 : Int32).toInt = 1 := (by decide); have y9c11 : (12 : Int32).toInt = 12 := (by decide); omega)⟩, by rw [ht]; exact hP, hD⟩, hS.F ht⟩) hS.2.2 dX2_add_25
theorem dX2_empty_0 : decode cX2_empty 0 = .ok (.iconst 0, 1) := by decide +kernel
theorem dX2_empty_1 : decode cX2_empty 1 = .ok (.istore_n 1, 1) := by decide +kernel
theorem dX2_empty_12 : decode cX2_empty 12 = .ok (.iload_n 1, 1) := by decide +kernel
theorem dX2_empty_13 : decode cX2_empty 13 = .ok (.iconst 0, 1) := by decide +kernel
theorem dX2_empty_14 : decode cX2_empty 14 = .ok (.iastore, 1) := by decide +kernel
theorem dX2_empty_15 : decode cX2_empty 15 = .ok (.iinc 1 1, 3) := by decide +kernel
theorem dX2_empty_18 : decode cX2_empty 18 = .ok (.goto (-16), 3) := by decide +kernel
theorem dX2_empty_2 : decode cX2_empty 2 = .ok (.iload_n 1, 1) := by decide +kernel
theorem dX2_empty_21 : decode cX2_empty 21 = .ok (.aload_n 0, 1) := by decide +kernel
theorem dX2_empty_22 : decode cX2_empty 22 = .ok (.iconst 0, 1) := by decide +kernel
theorem dX2_empty_23 : decode cX2_empty 23 = .ok (.putfield 15, 3) := by decide +kernel
theorem dX2_empty_26 : decode cX2_empty 26 = .ok (.aload_n 0, 1) := by decide +kernel
theorem dX2_empty_27 : decode cX2_empty 27 = .ok (.dup, 1) := by decide +kernel
theorem dX2_empty_28 : decode cX2_empty 28 = .ok (.getfield 33, 3) := by decide +kernel
theorem dX2_empty_3 : decode cX2_empty 3 = .ok (.bipush 12, 2) := by decide +kernel
theorem dX2_empty_31 : decode cX2_empty 31 = .ok (.iconst 1, 1) := by decide +kernel
theorem dX2_empty_32 : decode cX2_empty 32 = .ok (.iadd, 1) := by decide +kernel
theorem dX2_empty_33 : decode cX2_empty 33 = .ok (.putfield 33, 3) := by decide +kernel
theorem dX2_empty_36 : decode cX2_empty 36 = .ok (.return_, 1) := by decide +kernel
theorem dX2_empty_5 : decode cX2_empty 5 = .ok (.if_icmp .ge 16, 3) := by decide +kernel
theorem dX2_empty_8 : decode cX2_empty 8 = .ok (.aload_n 0, 1) := by decide +kernel
theorem dX2_empty_9 : decode cX2_empty 9 = .ok (.getfield 9, 3) := by decide +kernel
set_option maxHeartbeats 4000000 in
set_option maxRecDepth 100000 in
theorem k_X2_empty (l : Launch) (D : va_G) (cI cS : ClassId) (sz : Nat) (a : Nat → Nat) (na nc N : Nat) (l_s l_t l_i l_kp l_iz l_z l_tp l_o0 l_o1 l_o2 l_o3 l_n0 l_n1 l_n2 l_n3 : Int32) (u0 : SU) (hL : TyX (mkL l_s l_t l_i l_kp l_iz l_z l_tp l_o0 l_o1 l_o2 l_o3 l_n0 l_n1 l_n2 l_n3)) (hN : N = 0 ∨ N = 24576) : Met l yX2_empty wsX2_empty ({ frames := 0, cells := 0, slots := 0, locals := 0 }) (PQ D cI cS (wX cI cS a na nc N (mkL l_s l_t l_i l_kp l_iz l_z l_tp l_o0 l_o1 l_o2 l_o3 l_n0 l_n1 l_n2 l_n3) u0) sz [.ref (a 1)]) (QE (S := Int32 × SU) D (wX cI cS a na nc N (mkL l_s l_t l_i l_kp l_iz l_z l_tp l_o0 l_o1 l_o2 l_o3 l_n0 l_n1 l_n2 l_n3) u0) (fun q => wX cI cS a na nc N (mkL q.1 l_t l_i l_kp l_iz l_z l_tp l_o0 l_o1 l_o2 l_o3 l_n0 l_n1 l_n2 l_n3) q.2) sz (fun q => Rg 0 0 q.1 ∧ (q.1.toInt = 0))) 0 0 (va_A (wX cI cS a na nc N (mkL l_s l_t l_i l_kp l_iz l_z l_tp l_o0 l_o1 l_o2 l_o3 l_n0 l_n1 l_n2 l_n3) u0) sz) := by
  refine Met.ofW (cc := cX2_empty) (maxL := 2) (ret := none) (by decide) rfl ?_
  intro p e s m args below meth c s₁ B hml hv
  obtain ⟨rfl, hsz, hP, hKK, hD0⟩ := hv
  have hx := B.exec
  have hb := B.bytes
  have hr := B.returns
  have hts := atoms_spec (ws := wsX2_empty) B.pre
  have hown : s.vm.findClass RX2 = some m.cls := findClass_of_methodNamed B.named
  have hlocks := B.notSynchronized
  have hK := hKK.1
  have hin2 : ∀ w ∈ wsX20, w ∈ wsX2_empty := by decide +kernel
  subst hsz
  have hD := hD0.self (sz := s.heap.size)
  obtain ⟨A, hAe⟩ : ∃ A, A = va_A (wX cI cS a na nc N (mkL l_s l_t l_i l_kp l_iz l_z l_tp l_o0 l_o1 l_o2 l_o3 l_n0 l_n1 l_n2 l_n3) u0) s.heap.size := ⟨_, rfl⟩
  rw [← hAe] at hD
  have hA : ∀ q : Nat, s.heap.size ≤ q → A q := fun q h => by rw [hAe]; exact Or.inr h
  have hS : va_S A s.heap s.heap [] := va_S.rf
  have hl := lv_entry ([.ref (a 1)]) (n := 2) (Nat.le_of_ble_eq_true rfl)
  rw [lg_entry_eq]
  generalize (lg_sl ([.ref (a 1)]) ++ List.replicate (2 - (lg_sl ([.ref (a 1)])).length) Slot.unset).toArray = ls at hl ⊢
  have hl : lv_has ls 2 [(0, .ref (a 1))] := hl
  obtain ⟨u, hu9⟩ : ∃ u : SU, u = u0 := ⟨_, rfl⟩
  rw [← hu9] at hP hD
  have p_s : Rg 0 12 l_s := hL.1
  have p_t : Rg 0 12 l_t := hL.2.1
  have p_i : Rg 0 12 l_i := hL.2.2.1
  have p_tp : Rg 0 120 l_tp := hL.2.2.2.1
  have p_n0 : Rg 0 40 l_n0 := hL.2.2.2.2.1
  have p_n1 : Rg 0 40 l_n1 := hL.2.2.2.2.2.1
  have p_n2 : Rg 0 40 l_n2 := hL.2.2.2.2.2.2.1
  have p_n3 : Rg 0 40 l_n3 := hL.2.2.2.2.2.2.2
  have lp2 : ∀ (n2 : Nat) (y2_l1 : Int32) (u : SU) (H : Heap) (locs : List Loc) (ls : Array Slot), Rg 0 12 y2_l1 → Rg 0 12 l_s → va_P D cls (wX cI cS a na nc N (mkL l_s l_t l_i l_kp l_iz l_z l_tp l_o0 l_o1 l_o2 l_o3 l_n0 l_n1 l_n2 l_n3) u) H → va_D A (wX cI cS a na nc N (mkL l_s l_t l_i l_kp l_iz l_z l_tp l_o0 l_o1 l_o2 l_o3 l_n0 l_n1 l_n2 l_n3) u) → va_S A s.heap H locs → lv_has ls 2 [(0, .ref (a 1)), (1, .int y2_l1)] → 12 - y2_l1.toInt < (n2 : Int) → W p l e (headSpec wsX2_empty ({ frames := 0, cells := 0, slots := 0, locals := 0 })).room s m ([.ref (a 1)]).toArray below meth c H locs 0 0 (MQ below (QE (S := Int32 × SU) D (wX cI cS a na nc N (mkL l_s l_t l_i l_kp l_iz l_z l_tp l_o0 l_o1 l_o2 l_o3 l_n0 l_n1 l_n2 l_n3) u0) (fun q => wX cI cS a na nc N (mkL q.1 l_t l_i l_kp l_iz l_z l_tp l_o0 l_o1 l_o2 l_o3 l_n0 l_n1 l_n2 l_n3) q.2) s.heap.size (fun q => Rg 0 0 q.1 ∧ (q.1.toInt = 0))) ([.ref (a 1)]).toArray s 0 0 (va_A (wX cI cS a na nc N (mkL l_s l_t l_i l_kp l_iz l_z l_tp l_o0 l_o1 l_o2 l_o3 l_n0 l_n1 l_n2 l_n3) u0) s.heap.size)) (F0 m 2 ls []) := by
    intro n2
    induction n2 with
    | zero =>
      intro y2_l1 u H locs ls g2_l1 g2_ks hP hD hS hl hm2
      exact absurd rfl (me_z g2_l1 hm2)
    | succ n2 ih2 =>
      intro y2_l1 u H locs ls g2_l1 g2_ks hP hD hS hl hm2
      refine lv_iload_n hx hb dX2_empty_2 rfl (lv_at hl 1 rfl) ?_
      refine lv_bipush (v := 12) hx hb dX2_empty_3 (by decide) ?_
      refine lv_icmp_ge (tgt := 21) hx hb dX2_empty_5 (by decide) (fun c48914 => ?_) (fun c48914 => ?_)
      · have g48915 : Rg 12 12 y2_l1 := rg_ler (by decide : Rg 12 12 (12 : Int32)) g2_l1 c48914 (by decide)
        refine lv_aload_n hx hb dX2_empty_21 rfl (lv_at hl 0 rfl) ?_
        refine lv_iconst (v := 0) hx hb dX2_empty_22 (by decide) ?_
        refine va_put (D := D) (ci := 2) (v := .int 0) (ty := .int) (C := RX2) (T := TX2) (N := 3) hx hb hts hin2 tyX2 tyX2_ok nmX2 hown hK hP hD hS 1 rfl rfl 1 (by decide) (hts (.fieldLink RX2 15 "MissedPoints$Net" "size" "I") (by decide +kernel)) (fun _ h9 => h9) rfl (by decide +kernel) rfl rfl (Nat.le_of_ble_eq_true rfl) dX2_empty_23 (fun H locs hP hD hS => ?_)
        have hP : va_P D cls (wX cI cS a na nc N (mkL (0 : Int32) l_t l_i l_kp l_iz l_z l_tp l_o0 l_o1 l_o2 l_o3 l_n0 l_n1 l_n2 l_n3) u) H := hP
        have hD : va_D A (wX cI cS a na nc N (mkL (0 : Int32) l_t l_i l_kp l_iz l_z l_tp l_o0 l_o1 l_o2 l_o3 l_n0 l_n1 l_n2 l_n3) u) := hD
        refine lv_aload_n hx hb dX2_empty_26 rfl (lv_at hl 0 rfl) ?_
        refine lv_dup hx hb dX2_empty_27 rfl ?_
        refine va_get (D := D) (ci := 2) (v := .int (u 1 2)) (C := RX2) (T := TX2) (N := 3) hx hb hts hin2 hown hK hP 1 rfl rfl 2 (by decide) (hts (.fieldLink RX2 33 "MissedPoints$Net" "changes" "I") (by decide +kernel)) (fun _ h9 => h9) rfl dX2_empty_28 ?_
        refine wk_any (fun r48916 => ?_)
        refine lv_iconst (v := 1) hx hb dX2_empty_31 (by decide) ?_
        refine lv_iadd hx hb dX2_empty_32 ?_
        refine wk_topP (P := fun r => r = r48916 + (1 : Int32)) rfl (fun r48917 qr48917 => ?_)
        refine va_put (D := D) (ci := 2) (v := .int r48917) (ty := .int) (C := RX2) (T := TX2) (N := 3) hx hb hts hin2 tyX2 tyX2_ok nmX2 hown hK hP hD hS 1 rfl rfl 2 (by decide) (hts (.fieldLink RX2 33 "MissedPoints$Net" "changes" "I") (by decide +kernel)) (fun _ h9 => h9) rfl (by decide +kernel) rfl rfl (Nat.le_of_ble_eq_true rfl) dX2_empty_33 (fun H locs hP hD hS => ?_)
        rw [sxf_1_2] at hP hD
        generalize sU u 1 _ = u at hP hD
        subst hAe
        exact W.vret hx hb hr (fun t ht hW => ⟨⟨((0 : Int32), u), rfl, ⟨(by decide : Rg 0 0 (0 : Int32)), (show (0 : Int32).toInt = 0 from by have y90 : (12 : Int32).toInt ≤ y2_l1.toInt := (lz_le _ _).mp c48914; have y91 : Rg 12 12 y2_l1 := g48915; have y92 : Rg 12 12 y2_l1 := g48915; have y93 : Rg 0 12 l_t := p_t; have y94 : Rg 0 12 l_i := p_i; have y95 : Rg 0 120 l_tp := p_tp; have y96 : Rg 0 40 l_n0 := p_n0; have y97 : Rg 0 40 l_n1 := p_n1; have y98 : Rg 0 40 l_n2 := p_n2; have y99 : Rg 0 40 l_n3 := p_n3; have y9c10 : (0 : Int32).toInt = 0 := (by decide); have y9c11 : (1 : Int32).toInt = 1 := (by decide); have y9c12 : (12 : Int32).toInt = 12 := (by decide); omega)⟩, by rw [ht]; exact hP, hD⟩, hS.F ht⟩) hS.2.2 dX2_empty_36
      · have g48918 : Rg 0 11 y2_l1 := rg_ltl g2_l1 (by decide : Rg 12 12 (12 : Int32)) (rg_nle c48914) (by decide)
        refine lv_aload_n hx hb dX2_empty_8 rfl (lv_at hl 0 rfl) ?_
        refine va_get (D := D) (ci := 2) (v := .ref (a 2)) (C := RX2) (T := TX2) (N := 3) hx hb hts hin2 hown hK hP 1 rfl rfl 0 (by decide) (hts (.fieldLink RX2 9 "MissedPoints$Net" "links" "[I") (by decide +kernel)) (fun _ h9 => h9) rfl dX2_empty_9 ?_
        refine lv_iload_n hx hb dX2_empty_12 rfl (lv_at hl 1 rfl) ?_
        refine lv_iconst (v := 0) hx hb dX2_empty_13 (by decide) ?_
        refine ks_ast hx hb hK hP hD hS rfl (k := 2) rfl sx_2 (rg_in g48918 (by decide) (by decide)) dX2_empty_14 (fun u H locs hP hD hS => ?_)
        refine wk_iinc (lv' := fun r => [(1, .int r), (0, .ref (a 1))]) (e1 := 1) (f := 12) hx hb dX2_empty_15 hl (k := 1) rfl (by decide) g48918 (by decide) (fun _ => rfl) (fun r48919 ls hr48919 er48919 hl => ?_)
        refine lv_goto (tgt := 2) hx hb dX2_empty_18 (by decide) ?_
        exact ih2 r48919 u _ _ ls (show Rg 0 12 r48919 from rg_w hr48919 (by decide) (by decide)) g2_ks hP hD hS (lv_sub (l' := [(0, .ref (a 1)), (1, .int r48919)]) hl [1, 0] rfl) (me_up hm2 er48919 (by decide))
  refine lv_iconst (v := 0) hx hb dX2_empty_0 (by decide) ?_
  refine lv_istore_n (lv' := [(1, .int 0), (0, .ref (a 1))]) hx hb dX2_empty_1 rfl hl (by decide) rfl (fun ls hl => ?_)
  exact lp2 13 (0 : Int32) u _ _ ls (by decide : Rg 0 12 (0 : Int32)) p_s hP hD hS (lv_sub (l' := [(0, .ref (a 1)), (1, .int 0)]) hl [1, 0] rfl) (me_i (by decide : Rg 0 12 (0 : Int32)) (by decide))
set_option maxRecDepth 20000 in
theorem ggX2_dealAnew_X0_draw : GoodIn wsX2_dealAnew wsX0_draw := goodIn_r _ [21, 22, 23, 39] rfl (by decide +kernel)
set_option maxRecDepth 20000 in
theorem gX2_dealAnew_X0_draw : GoodIn wsX2_dealAnew (wsV RX2 60 RX0 yX0_draw wsX0_draw) := goodIn_app (goodIn_of _ (by decide +kernel)) ggX2_dealAnew_X0_draw
set_option maxRecDepth 20000 in
theorem ggX2_dealAnew_X2_add : GoodIn wsX2_dealAnew wsX2_add := goodIn_r _ [12, 1, 13, 14, 15, 16, 8, 36, 37, 38] rfl (by decide +kernel)
set_option maxRecDepth 20000 in
theorem gX2_dealAnew_X2_add : GoodIn wsX2_dealAnew (wsV RX2 56 RX2 yX2_add wsX2_add) := goodIn_app (goodIn_of _ (by decide +kernel)) ggX2_dealAnew_X2_add
set_option maxRecDepth 20000 in
theorem ggX2_dealAnew_X2_empty : GoodIn wsX2_dealAnew wsX2_empty := goodIn_r _ [6, 7, 1, 8, 36, 37, 38] rfl (by decide +kernel)
set_option maxRecDepth 20000 in
theorem gX2_dealAnew_X2_empty : GoodIn wsX2_dealAnew (wsV RX2 53 RX2 yX2_empty wsX2_empty) := goodIn_app (goodIn_of _ (by decide +kernel)) ggX2_dealAnew_X2_empty
set_option maxRecDepth 20000 in
theorem ggX2_dealAnew_X2_join : GoodIn wsX2_dealAnew wsX2_join := goodIn_r _ [27, 7, 8, 28, 29, 30, 5, 31, 32, 33, 34, 35, 1, 36, 37, 38] rfl (by decide +kernel)
set_option maxRecDepth 20000 in
theorem gX2_dealAnew_X2_join : GoodIn wsX2_dealAnew (wsV RX2 43 RX2 yX2_join wsX2_join) := goodIn_app (goodIn_of _ (by decide +kernel)) ggX2_dealAnew_X2_join
theorem dX2_dealAnew_0 : decode cX2_dealAnew 0 = .ok (.aload_n 0, 1) := by decide +kernel
theorem dX2_dealAnew_1 : decode cX2_dealAnew 1 = .ok (.invokevirtual 53, 3) := by decide +kernel
theorem dX2_dealAnew_10 : decode cX2_dealAnew 10 = .ok (.istore 4, 2) := by decide +kernel
theorem dX2_dealAnew_12 : decode cX2_dealAnew 12 = .ok (.iload 4, 2) := by decide +kernel
theorem dX2_dealAnew_14 : decode cX2_dealAnew 14 = .ok (.aload_n 0, 1) := by decide +kernel
theorem dX2_dealAnew_15 : decode cX2_dealAnew 15 = .ok (.getfield 15, 3) := by decide +kernel
theorem dX2_dealAnew_18 : decode cX2_dealAnew 18 = .ok (.if_icmp .ge 50, 3) := by decide +kernel
theorem dX2_dealAnew_21 : decode cX2_dealAnew 21 = .ok (.iload 4, 2) := by decide +kernel
theorem dX2_dealAnew_23 : decode cX2_dealAnew 23 = .ok (.iconst 1, 1) := by decide +kernel
theorem dX2_dealAnew_24 : decode cX2_dealAnew 24 = .ok (.iadd, 1) := by decide +kernel
theorem dX2_dealAnew_25 : decode cX2_dealAnew 25 = .ok (.istore 5, 2) := by decide +kernel
theorem dX2_dealAnew_27 : decode cX2_dealAnew 27 = .ok (.iload 5, 2) := by decide +kernel
theorem dX2_dealAnew_29 : decode cX2_dealAnew 29 = .ok (.aload_n 0, 1) := by decide +kernel
theorem dX2_dealAnew_30 : decode cX2_dealAnew 30 = .ok (.getfield 15, 3) := by decide +kernel
theorem dX2_dealAnew_33 : decode cX2_dealAnew 33 = .ok (.if_icmp .ge 29, 3) := by decide +kernel
theorem dX2_dealAnew_36 : decode cX2_dealAnew 36 = .ok (.aload_n 3, 1) := by decide +kernel
theorem dX2_dealAnew_37 : decode cX2_dealAnew 37 = .ok (.invokevirtual 60, 3) := by decide +kernel
theorem dX2_dealAnew_4 : decode cX2_dealAnew 4 = .ok (.aload_n 0, 1) := by decide +kernel
theorem dX2_dealAnew_40 : decode cX2_dealAnew 40 = .ok (.bipush 10, 2) := by decide +kernel
theorem dX2_dealAnew_42 : decode cX2_dealAnew 42 = .ok (.irem, 1) := by decide +kernel
theorem dX2_dealAnew_43 : decode cX2_dealAnew 43 = .ok (.iload_n 2, 1) := by decide +kernel
theorem dX2_dealAnew_44 : decode cX2_dealAnew 44 = .ok (.if_icmp .ge 12, 3) := by decide +kernel
theorem dX2_dealAnew_47 : decode cX2_dealAnew 47 = .ok (.aload_n 0, 1) := by decide +kernel
theorem dX2_dealAnew_48 : decode cX2_dealAnew 48 = .ok (.iload 4, 2) := by decide +kernel
theorem dX2_dealAnew_5 : decode cX2_dealAnew 5 = .ok (.iload_n 1, 1) := by decide +kernel
theorem dX2_dealAnew_50 : decode cX2_dealAnew 50 = .ok (.iload 5, 2) := by decide +kernel
theorem dX2_dealAnew_52 : decode cX2_dealAnew 52 = .ok (.iconst 1, 1) := by decide +kernel
theorem dX2_dealAnew_53 : decode cX2_dealAnew 53 = .ok (.invokevirtual 43, 3) := by decide +kernel
theorem dX2_dealAnew_56 : decode cX2_dealAnew 56 = .ok (.iinc 5 1, 3) := by decide +kernel
theorem dX2_dealAnew_59 : decode cX2_dealAnew 59 = .ok (.goto (-32), 3) := by decide +kernel
theorem dX2_dealAnew_6 : decode cX2_dealAnew 6 = .ok (.invokevirtual 56, 3) := by decide +kernel
theorem dX2_dealAnew_62 : decode cX2_dealAnew 62 = .ok (.iinc 4 1, 3) := by decide +kernel
theorem dX2_dealAnew_65 : decode cX2_dealAnew 65 = .ok (.goto (-53), 3) := by decide +kernel
theorem dX2_dealAnew_68 : decode cX2_dealAnew 68 = .ok (.return_, 1) := by decide +kernel
theorem dX2_dealAnew_9 : decode cX2_dealAnew 9 = .ok (.iconst 0, 1) := by decide +kernel
set_option maxHeartbeats 4000000 in
set_option maxRecDepth 100000 in
theorem k_X2_dealAnew (l : Launch) (D : va_G) (cI cS : ClassId) (sz : Nat) (a : Nat → Nat) (na nc N : Nat) (l_s l_t l_i l_kp l_iz l_z l_tp l_o0 l_o1 l_o2 l_o3 l_n0 l_n1 l_n2 l_n3 : Int32) (u0 : SU) (hL : TyX (mkL l_s l_t l_i l_kp l_iz l_z l_tp l_o0 l_o1 l_o2 l_o3 l_n0 l_n1 l_n2 l_n3)) (hN : N = 0 ∨ N = 24576) (x0 x1 : Int32) (px0 : Rg 0 12 x0) : Met l yX2_dealAnew wsX2_dealAnew ({ frames := 3, cells := 0, slots := 0, locals := 120 }) (PQ D cI cS (wX cI cS a na nc N (mkL l_s l_t l_i l_kp l_iz l_z l_tp l_o0 l_o1 l_o2 l_o3 l_n0 l_n1 l_n2 l_n3) u0) sz [.ref (a 1), .int x0, .int x1, .ref (a 20)]) (QE (S := Int32 × Int32 × SU) D (wX cI cS a na nc N (mkL l_s l_t l_i l_kp l_iz l_z l_tp l_o0 l_o1 l_o2 l_o3 l_n0 l_n1 l_n2 l_n3) u0) (fun q => wX cI cS a na nc N (mkL q.1 l_t l_i l_kp l_iz q.2.1 l_tp l_o0 l_o1 l_o2 l_o3 l_n0 l_n1 l_n2 l_n3) q.2.2) sz (fun q => Rg 0 12 q.1 ∧ (q.1.toInt = x0.toInt) ∧ (q.2.1.toInt = (zout x0.toNatClampNeg l_z x0.toNatClampNeg).toInt))) 0 0 (va_A (wX cI cS a na nc N (mkL l_s l_t l_i l_kp l_iz l_z l_tp l_o0 l_o1 l_o2 l_o3 l_n0 l_n1 l_n2 l_n3) u0) sz) := by
  refine Met.ofW (cc := cX2_dealAnew) (maxL := 6) (ret := none) (by decide) rfl ?_
  intro p e s m args below meth c s₁ B hml hv
  obtain ⟨rfl, hsz, hP, hKK, hD0⟩ := hv
  have hx := B.exec
  have hb := B.bytes
  have hr := B.returns
  have hts := atoms_spec (ws := wsX2_dealAnew) B.pre
  have hown : s.vm.findClass RX2 = some m.cls := findClass_of_methodNamed B.named
  have hlocks := B.notSynchronized
  have hK := hKK.1
  have hin2 : ∀ w ∈ wsX20, w ∈ wsX2_dealAnew := by decide +kernel
  subst hsz
  have hD := hD0.self (sz := s.heap.size)
  obtain ⟨A, hAe⟩ : ∃ A, A = va_A (wX cI cS a na nc N (mkL l_s l_t l_i l_kp l_iz l_z l_tp l_o0 l_o1 l_o2 l_o3 l_n0 l_n1 l_n2 l_n3) u0) s.heap.size := ⟨_, rfl⟩
  rw [← hAe] at hD
  have hA : ∀ q : Nat, s.heap.size ≤ q → A q := fun q h => by rw [hAe]; exact Or.inr h
  have hS : va_S A s.heap s.heap [] := va_S.rf
  have hl := lv_entry ([.ref (a 1), .int x0, .int x1, .ref (a 20)]) (n := 6) (Nat.le_of_ble_eq_true rfl)
  rw [lg_entry_eq]
  generalize (lg_sl ([.ref (a 1), .int x0, .int x1, .ref (a 20)]) ++ List.replicate (6 - (lg_sl ([.ref (a 1), .int x0, .int x1, .ref (a 20)])).length) Slot.unset).toArray = ls at hl ⊢
  have hl : lv_has ls 6 [(0, .ref (a 1)), (1, .int x0), (2, .int x1), (3, .ref (a 20))] := hl
  obtain ⟨u, hu9⟩ : ∃ u : SU, u = u0 := ⟨_, rfl⟩
  rw [← hu9] at hP hD
  have p_s : Rg 0 12 l_s := hL.1
  have p_t : Rg 0 12 l_t := hL.2.1
  have p_i : Rg 0 12 l_i := hL.2.2.1
  have p_tp : Rg 0 120 l_tp := hL.2.2.2.1
  have p_n0 : Rg 0 40 l_n0 := hL.2.2.2.2.1
  have p_n1 : Rg 0 40 l_n1 := hL.2.2.2.2.2.1
  have p_n2 : Rg 0 40 l_n2 := hL.2.2.2.2.2.2.1
  have p_n3 : Rg 0 40 l_n3 := hL.2.2.2.2.2.2.2
  have lp12 : ∀ (n12 : Nat) (y12_l4 : Int32) (y12_ks : Int32) (y12_kz : Int32) (u : SU) (H : Heap) (locs : List Loc) (ls : Array Slot), Rg 0 12 y12_l4 → Rg 0 12 y12_ks → (y12_ks.toInt = x0.toInt ∧ (y12_kz = zout x0.toNatClampNeg l_z y12_l4.toNatClampNeg ∧ y12_l4.toInt ≤ x0.toInt)) → va_P D cls (wX cI cS a na nc N (mkL y12_ks l_t l_i l_kp l_iz y12_kz l_tp l_o0 l_o1 l_o2 l_o3 l_n0 l_n1 l_n2 l_n3) u) H → va_D A (wX cI cS a na nc N (mkL y12_ks l_t l_i l_kp l_iz y12_kz l_tp l_o0 l_o1 l_o2 l_o3 l_n0 l_n1 l_n2 l_n3) u) → va_S A s.heap H locs → lv_has ls 6 [(0, .ref (a 1)), (2, .int x1), (3, .ref (a 20)), (4, .int y12_l4)] → 12 - y12_l4.toInt < (n12 : Int) → W p l e (headSpec wsX2_dealAnew ({ frames := 3, cells := 0, slots := 0, locals := 120 })).room s m ([.ref (a 1), .int x0, .int x1, .ref (a 20)]).toArray below meth c H locs 0 0 (MQ below (QE (S := Int32 × Int32 × SU) D (wX cI cS a na nc N (mkL l_s l_t l_i l_kp l_iz l_z l_tp l_o0 l_o1 l_o2 l_o3 l_n0 l_n1 l_n2 l_n3) u0) (fun q => wX cI cS a na nc N (mkL q.1 l_t l_i l_kp l_iz q.2.1 l_tp l_o0 l_o1 l_o2 l_o3 l_n0 l_n1 l_n2 l_n3) q.2.2) s.heap.size (fun q => Rg 0 12 q.1 ∧ (q.1.toInt = x0.toInt) ∧ (q.2.1.toInt = (zout x0.toNatClampNeg l_z x0.toNatClampNeg).toInt))) ([.ref (a 1), .int x0, .int x1, .ref (a 20)]).toArray s 0 0 (va_A (wX cI cS a na nc N (mkL l_s l_t l_i l_kp l_iz l_z l_tp l_o0 l_o1 l_o2 l_o3 l_n0 l_n1 l_n2 l_n3) u0) s.heap.size)) (F0 m 12 ls []) := by
    intro n12
    induction n12 with
    | zero =>
      intro y12_l4 y12_ks y12_kz u H locs ls g12_l4 g12_ks x12_0 hP hD hS hl hm12
      exact absurd rfl (me_z g12_l4 hm12)
    | succ n12 ih12 =>
      intro y12_l4 y12_ks y12_kz u H locs ls g12_l4 g12_ks x12_0 hP hD hS hl hm12
      have lp27 : ∀ (n27 : Nat) (y27_l5 : Int32) (y27_kz : Int32) (u : SU) (H : Heap) (locs : List Loc) (ls : Array Slot), Rg 0 11 y12_l4 → Rg 1 12 y27_l5 → Rg 1 12 y12_ks → (y12_ks.toInt = x0.toInt ∧ (y27_kz = zin (zout x0.toNatClampNeg l_z y12_l4.toNatClampNeg) (y27_l5.toNatClampNeg - y12_l4.toNatClampNeg - 1) ∧ y12_l4.toInt < y27_l5.toInt ∧ y27_l5.toInt ≤ x0.toInt)) → va_P D cls (wX cI cS a na nc N (mkL y12_ks l_t l_i l_kp l_iz y27_kz l_tp l_o0 l_o1 l_o2 l_o3 l_n0 l_n1 l_n2 l_n3) u) H → va_D A (wX cI cS a na nc N (mkL y12_ks l_t l_i l_kp l_iz y27_kz l_tp l_o0 l_o1 l_o2 l_o3 l_n0 l_n1 l_n2 l_n3) u) → va_S A s.heap H locs → lv_has ls 6 [(0, .ref (a 1)), (2, .int x1), (3, .ref (a 20)), (4, .int y12_l4), (5, .int y27_l5)] → 12 - y27_l5.toInt < (n27 : Int) → W p l e (headSpec wsX2_dealAnew ({ frames := 3, cells := 0, slots := 0, locals := 120 })).room s m ([.ref (a 1), .int x0, .int x1, .ref (a 20)]).toArray below meth c H locs 0 0 (MQ below (QE (S := Int32 × Int32 × SU) D (wX cI cS a na nc N (mkL l_s l_t l_i l_kp l_iz l_z l_tp l_o0 l_o1 l_o2 l_o3 l_n0 l_n1 l_n2 l_n3) u0) (fun q => wX cI cS a na nc N (mkL q.1 l_t l_i l_kp l_iz q.2.1 l_tp l_o0 l_o1 l_o2 l_o3 l_n0 l_n1 l_n2 l_n3) q.2.2) s.heap.size (fun q => Rg 0 12 q.1 ∧ (q.1.toInt = x0.toInt) ∧ (q.2.1.toInt = (zout x0.toNatClampNeg l_z x0.toNatClampNeg).toInt))) ([.ref (a 1), .int x0, .int x1, .ref (a 20)]).toArray s 0 0 (va_A (wX cI cS a na nc N (mkL l_s l_t l_i l_kp l_iz l_z l_tp l_o0 l_o1 l_o2 l_o3 l_n0 l_n1 l_n2 l_n3) u0) s.heap.size)) (F0 m 27 ls []) := by
        intro n27
        induction n27 with
        | zero =>
          intro y27_l5 y27_kz u H locs ls g27_l4 g27_l5 g27_ks x27_0 hP hD hS hl hm27
          exact absurd rfl (me_z g27_l5 hm27)
        | succ n27 ih27 =>
          intro y27_l5 y27_kz u H locs ls g27_l4 g27_l5 g27_ks x27_0 hP hD hS hl hm27
          refine lv_iload hx hb dX2_dealAnew_27 (lv_at hl 4 rfl) ?_
          refine lv_aload_n hx hb dX2_dealAnew_29 rfl (lv_at hl 0 rfl) ?_
          refine va_get (D := D) (ci := 2) (v := .int y12_ks) (C := RX2) (T := TX2) (N := 3) hx hb hts hin2 hown hK hP 1 rfl rfl 1 (by decide) (hts (.fieldLink RX2 15 "MissedPoints$Net" "size" "I") (by decide +kernel)) (fun _ h9 => h9) rfl dX2_dealAnew_30 ?_
          refine lv_icmp_ge (tgt := 62) hx hb dX2_dealAnew_33 (by decide) (fun c49093 => ?_) (fun c49093 => ?_)
          · refine wk_iinc (lv' := fun r => [(4, .int r), (0, .ref (a 1)), (2, .int x1), (3, .ref (a 20)), (5, .int y27_l5)]) (e1 := 1) (f := 12) hx hb dX2_dealAnew_62 hl (k := 3) rfl (by decide) g27_l4 (by decide) (fun _ => rfl) (fun r49094 ls hr49094 er49094 hl => ?_)
            refine lv_goto (tgt := 12) hx hb dX2_dealAnew_65 (by decide) ?_
            exact ih12 r49094 y12_ks y27_kz u _ _ ls (show Rg 0 12 r49094 from rg_w hr49094 (by decide) (by decide)) (show Rg 0 12 y12_ks from rg_w g27_ks (by decide) (by decide)) (by have y90 : y12_ks.toInt ≤ y27_l5.toInt := (lz_le _ _).mp c49093; have y91 : Rg 1 12 r49094 := hr49094; have y92 : Rg 1 12 y27_l5 := g27_l5; have y93 : Rg 1 12 y12_ks := g27_ks; have y94 : Rg 0 12 l_t := p_t; have y95 : Rg 0 12 l_i := p_i; have y96 : Rg 0 120 l_tp := p_tp; have y97 : Rg 0 40 l_n0 := p_n0; have y98 : Rg 0 40 l_n1 := p_n1; have y99 : Rg 0 40 l_n2 := p_n2; have y910 : Rg 0 40 l_n3 := p_n3; have y9c11 : (0 : Int32).toInt = 0 := (by decide); have y9c12 : (1 : Int32).toInt = 1 := (by decide); exact ⟨by omega, zi_2 (b := y27_l5) x27_0.2.1 g12_l4.1 (by omega) (by omega) er49094, by omega⟩) hP hD hS (lv_sub (l' := [(0, .ref (a 1)), (2, .int x1), (3, .ref (a 20)), (4, .int r49094)]) hl [1, 2, 3, 0] rfl) (me_up hm12 er49094 (by decide))
          · have g49095 : Rg 2 12 y12_ks := rg_ltr g27_l5 g27_ks (rg_nle c49093) (by decide)
            have g49096 : Rg 1 11 y27_l5 := rg_ltl g27_l5 g27_ks (rg_nle c49093) (by decide)
            refine lv_aload_n hx hb dX2_dealAnew_36 rfl (lv_at hl 2 rfl) ?_
            refine wk_qi (S := Int32 × SU) (fun q => wX cI cS a na nc N (mkL y12_ks l_t l_i l_kp l_iz q.1 l_tp l_o0 l_o1 l_o2 l_o3 l_n0 l_n1 l_n2 l_n3) q.2) (y27_kz, u) (As := []) (rest := []) ⟨hx, hb, hml, hown, hts⟩ (k_X0_draw l D cI cS _ a na nc N y12_ks l_t l_i l_kp l_iz y27_kz l_tp l_o0 l_o1 l_o2 l_o3 l_n0 l_n1 l_n2 l_n3 u (show TyX (mkL y12_ks l_t l_i l_kp l_iz y27_kz l_tp l_o0 l_o1 l_o2 l_o3 l_n0 l_n1 l_n2 l_n3) from ⟨(show Rg 0 12 y12_ks from rg_w g49095 (by decide) (by decide)), p_t, p_i, p_tp, p_n0, p_n1, p_n2, p_n3⟩) hN) hKK hP hD hS hA 20 (ci := 0) rfl rfl (cwV 0 hts gX2_dealAnew_X0_draw rfl rfl rfl (by decide +kernel) ⟨Nat.le_of_ble_eq_true rfl, Nat.le_of_ble_eq_true rfl⟩) rfl hl.1 rfl (Nat.le_of_ble_eq_true rfl) dX2_dealAnew_37 ⟨Nat.le_of_ble_eq_true rfl, Nat.le_of_ble_eq_true rfl⟩ (fun r49097 q9 H locs hr49097 hP hD hS => ?_)
            obtain ⟨r49098, u⟩ := q9
            have hr49097 : Rg (-2147483648) 2147483647 r49097 ∧ (r49098 = zsN y27_kz) := hr49097
            have hP : va_P D cls (wX cI cS a na nc N (mkL y12_ks l_t l_i l_kp l_iz r49098 l_tp l_o0 l_o1 l_o2 l_o3 l_n0 l_n1 l_n2 l_n3) u) H := hP
            have hD : va_D A (wX cI cS a na nc N (mkL y12_ks l_t l_i l_kp l_iz r49098 l_tp l_o0 l_o1 l_o2 l_o3 l_n0 l_n1 l_n2 l_n3) u) := hD
            have kr49097_0 := hr49097.2
            refine lv_bipush (v := 10) hx hb dX2_dealAnew_40 (by decide) ?_
            refine lv_irem hx hb dX2_dealAnew_42 (by decide) ?_
            refine wk_any (fun r49099 => ?_)
            refine lv_iload_n hx hb dX2_dealAnew_43 rfl (lv_at hl 1 rfl) ?_
            refine lv_icmp_ge (tgt := 56) hx hb dX2_dealAnew_44 (by decide) (fun c49100 => ?_) (fun c49100 => ?_)
            · refine wk_iinc (lv' := fun r => [(5, .int r), (0, .ref (a 1)), (2, .int x1), (3, .ref (a 20)), (4, .int y12_l4)]) (e1 := 2) (f := 12) hx hb dX2_dealAnew_56 hl (k := 4) rfl (by decide) g49096 (by decide) (fun _ => rfl) (fun r49101 ls hr49101 er49101 hl => ?_)
              refine lv_goto (tgt := 27) hx hb dX2_dealAnew_59 (by decide) ?_
              exact ih27 r49101 r49098 u _ _ ls g27_l4 (show Rg 1 12 r49101 from rg_w hr49101 (by decide) (by decide)) (show Rg 1 12 y12_ks from rg_w g49095 (by decide) (by decide)) (by have y90 : y27_l5.toInt < y12_ks.toInt := (lz_lt _ _).mp (rg_nle c49093); have y91 : x1.toInt ≤ r49099.toInt := (lz_le _ _).mp c49100; have y92 : Rg 2 12 y12_ks := g49095; have y93 : Rg 1 11 y27_l5 := g49096; have y94 : Rg 0 11 y12_l4 := g27_l4; have y95 : Rg 2 12 r49101 := hr49101; have y96 : Rg 2 12 y12_ks := g49095; have y97 : Rg 0 12 l_t := p_t; have y98 : Rg 0 12 l_i := p_i; have y99 : Rg 0 120 l_tp := p_tp; have y910 : Rg 0 40 l_n0 := p_n0; have y911 : Rg 0 40 l_n1 := p_n1; have y912 : Rg 0 40 l_n2 := p_n2; have y913 : Rg 0 40 l_n3 := p_n3; have y9c14 : (0 : Int32).toInt = 0 := (by decide); have y9c15 : (1 : Int32).toInt = 1 := (by decide); exact ⟨by omega, zi_1 x27_0.2.1 g12_l4.1 (by omega) er49101 kr49097_0, by omega, by omega⟩) hP hD hS (lv_sub (l' := [(0, .ref (a 1)), (2, .int x1), (3, .ref (a 20)), (4, .int y12_l4), (5, .int r49101)]) hl [1, 2, 3, 4, 0] rfl) (me_up hm27 er49101 (by decide))
            · refine lv_aload_n hx hb dX2_dealAnew_47 rfl (lv_at hl 0 rfl) ?_
              refine lv_iload hx hb dX2_dealAnew_48 (lv_at hl 3 rfl) ?_
              refine lv_iload hx hb dX2_dealAnew_50 (lv_at hl 4 rfl) ?_
              refine lv_iconst (v := 1) hx hb dX2_dealAnew_52 (by decide) ?_
              refine wk_qv (wX cI cS a na nc N (mkL y12_ks l_t l_i l_kp l_iz r49098 l_tp l_o0 l_o1 l_o2 l_o3 l_n0 l_n1 l_n2 l_n3)) u (As := [.int y12_l4, .int y27_l5, .int 1]) (rest := []) ⟨hx, hb, hml, hown, hts⟩ (k_X2_join l D cI cS _ a na nc N (mkL y12_ks l_t l_i l_kp l_iz r49098 l_tp l_o0 l_o1 l_o2 l_o3 l_n0 l_n1 l_n2 l_n3) u (show TyX (mkL y12_ks l_t l_i l_kp l_iz r49098 l_tp l_o0 l_o1 l_o2 l_o3 l_n0 l_n1 l_n2 l_n3) from ⟨(show Rg 0 12 y12_ks from rg_w g49095 (by decide) (by decide)), p_t, p_i, p_tp, p_n0, p_n1, p_n2, p_n3⟩) hN y12_l4 y27_l5 (1 : Int32) (by decide : Rg 0 1 (1 : Int32))) hKK hP hD hS hA 1 (ci := 2) rfl rfl (cwV 3 hts gX2_dealAnew_X2_join rfl rfl rfl (by decide +kernel) ⟨Nat.le_of_ble_eq_true rfl, Nat.le_of_ble_eq_true rfl⟩) rfl hl.1 rfl (Nat.le_of_ble_eq_true rfl) dX2_dealAnew_53 ⟨Nat.le_of_ble_eq_true rfl, Nat.le_of_ble_eq_true rfl⟩ (fun u H locs hr49102 hP hD hS => ?_)
              refine wk_iinc (lv' := fun r => [(5, .int r), (0, .ref (a 1)), (2, .int x1), (3, .ref (a 20)), (4, .int y12_l4)]) (e1 := 2) (f := 12) hx hb dX2_dealAnew_56 hl (k := 4) rfl (by decide) g49096 (by decide) (fun _ => rfl) (fun r49103 ls hr49103 er49103 hl => ?_)
              refine lv_goto (tgt := 27) hx hb dX2_dealAnew_59 (by decide) ?_
              exact ih27 r49103 r49098 u _ _ ls g27_l4 (show Rg 1 12 r49103 from rg_w hr49103 (by decide) (by decide)) (show Rg 1 12 y12_ks from rg_w g49095 (by decide) (by decide)) (by have y90 : y27_l5.toInt < y12_ks.toInt := (lz_lt _ _).mp (rg_nle c49093); have y91 : r49099.toInt < x1.toInt := (lz_lt _ _).mp (rg_nle c49100); have y92 : Rg 2 12 y12_ks := g49095; have y93 : Rg 1 11 y27_l5 := g49096; have y94 : Rg 0 11 y12_l4 := g27_l4; have y95 : Rg 2 12 r49103 := hr49103; have y96 : Rg 2 12 y12_ks := g49095; have y97 : Rg 0 12 l_t := p_t; have y98 : Rg 0 12 l_i := p_i; have y99 : Rg 0 120 l_tp := p_tp; have y910 : Rg 0 40 l_n0 := p_n0; have y911 : Rg 0 40 l_n1 := p_n1; have y912 : Rg 0 40 l_n2 := p_n2; have y913 : Rg 0 40 l_n3 := p_n3; have y9c14 : (0 : Int32).toInt = 0 := (by decide); have y9c15 : (1 : Int32).toInt = 1 := (by decide); exact ⟨by omega, zi_1 x27_0.2.1 g12_l4.1 (by omega) er49103 kr49097_0, by omega, by omega⟩) hP hD hS (lv_sub (l' := [(0, .ref (a 1)), (2, .int x1), (3, .ref (a 20)), (4, .int y12_l4), (5, .int r49103)]) hl [1, 2, 3, 4, 0] rfl) (me_up hm27 er49103 (by decide))
      refine lv_iload hx hb dX2_dealAnew_12 (lv_at hl 3 rfl) ?_
      refine lv_aload_n hx hb dX2_dealAnew_14 rfl (lv_at hl 0 rfl) ?_
      refine va_get (D := D) (ci := 2) (v := .int y12_ks) (C := RX2) (T := TX2) (N := 3) hx hb hts hin2 hown hK hP 1 rfl rfl 1 (by decide) (hts (.fieldLink RX2 15 "MissedPoints$Net" "size" "I") (by decide +kernel)) (fun _ h9 => h9) rfl dX2_dealAnew_15 ?_
      refine lv_icmp_ge (tgt := 68) hx hb dX2_dealAnew_18 (by decide) (fun c49104 => ?_) (fun c49104 => ?_)
      · subst hAe
        exact W.vret hx hb hr (fun t ht hW => ⟨⟨(y12_ks, y12_kz, u), rfl, ⟨g12_ks, (show y12_ks.toInt = x0.toInt from by have y90 : y12_ks.toInt ≤ y12_l4.toInt := (lz_le _ _).mp c49104; have y91 : Rg 0 12 y12_l4 := g12_l4; have y92 : Rg 0 12 y12_ks := g12_ks; have y93 : Rg 0 12 l_t := p_t; have y94 : Rg 0 12 l_i := p_i; have y95 : Rg 0 120 l_tp := p_tp; have y96 : Rg 0 40 l_n0 := p_n0; have y97 : Rg 0 40 l_n1 := p_n1; have y98 : Rg 0 40 l_n2 := p_n2; have y99 : Rg 0 40 l_n3 := p_n3; have y9c10 : (0 : Int32).toInt = 0 := (by decide); have y9c11 : (1 : Int32).toInt = 1 := (by decide); omega), (zo_1 x12_0.2.1 (by have y90 : y12_ks.toInt ≤ y12_l4.toInt := (lz_le _ _).mp c49104; have y91 : Rg 0 12 y12_l4 := g12_l4; have y92 : Rg 0 12 y12_ks := g12_ks; have y93 : Rg 0 12 l_t := p_t; have y94 : Rg 0 12 l_i := p_i; have y95 : Rg 0 120 l_tp := p_tp; have y96 : Rg 0 40 l_n0 := p_n0; have y97 : Rg 0 40 l_n1 := p_n1; have y98 : Rg 0 40 l_n2 := p_n2; have y99 : Rg 0 40 l_n3 := p_n3; have y9c10 : (0 : Int32).toInt = 0 := (by decide); have y9c11 : (1 : Int32).toInt = 1 := (by decide); omega))⟩, by rw [ht]; exact hP, hD⟩, hS.F ht⟩) hS.2.2 dX2_dealAnew_68
      · have g49105 : Rg 1 12 y12_ks := rg_ltr g12_l4 g12_ks (rg_nle c49104) (by decide)
        have g49106 : Rg 0 11 y12_l4 := rg_ltl g12_l4 g12_ks (rg_nle c49104) (by decide)
        refine lv_iload hx hb dX2_dealAnew_21 (lv_at hl 3 rfl) ?_
        refine lv_iconst (v := 1) hx hb dX2_dealAnew_23 (by decide) ?_
        refine wk_iadd (e1 := 1) (f := 12) hx hb dX2_dealAnew_24 g49106 (by decide : Rg 1 1 (1 : Int32)) (by decide) (fun r49107 hr49107 er49107 qr49107 => ?_)
        refine lv_istore (lv' := [(5, .int r49107), (0, .ref (a 1)), (2, .int x1), (3, .ref (a 20)), (4, .int y12_l4)]) hx hb dX2_dealAnew_25 hl (by decide) rfl (fun ls hl => ?_)
        exact lp27 12 r49107 y12_kz u _ _ ls g49106 hr49107 g49105 (by have y90 : y12_l4.toInt < y12_ks.toInt := (lz_lt _ _).mp (rg_nle c49104); have y91 : Rg 1 12 y12_ks := g49105; have y92 : Rg 0 11 y12_l4 := g49106; have y93 : Rg 0 11 y12_l4 := g49106; have y94 : Rg 1 12 r49107 := hr49107; have y95 : Rg 1 12 y12_ks := g49105; have y96 : Rg 0 12 l_t := p_t; have y97 : Rg 0 12 l_i := p_i; have y98 : Rg 0 120 l_tp := p_tp; have y99 : Rg 0 40 l_n0 := p_n0; have y910 : Rg 0 40 l_n1 := p_n1; have y911 : Rg 0 40 l_n2 := p_n2; have y912 : Rg 0 40 l_n3 := p_n3; have y9c13 : (0 : Int32).toInt = 0 := (by decide); have y9c14 : (1 : Int32).toInt = 1 := (by decide); exact ⟨by omega, zi_0 x12_0.2.1 g12_l4.1 er49107, by omega, by omega⟩) hP hD hS (lv_sub (l' := [(0, .ref (a 1)), (2, .int x1), (3, .ref (a 20)), (4, .int y12_l4), (5, .int r49107)]) hl [1, 2, 3, 4, 0] rfl) (me_i hr49107 (by decide))
  refine lv_aload_n hx hb dX2_dealAnew_0 rfl (lv_at hl 0 rfl) ?_
  refine wk_qv (S := Int32 × SU) (fun q => wX cI cS a na nc N (mkL q.1 l_t l_i l_kp l_iz l_z l_tp l_o0 l_o1 l_o2 l_o3 l_n0 l_n1 l_n2 l_n3) q.2) (l_s, u) (As := []) (rest := []) ⟨hx, hb, hml, hown, hts⟩ (k_X2_empty l D cI cS _ a na nc N l_s l_t l_i l_kp l_iz l_z l_tp l_o0 l_o1 l_o2 l_o3 l_n0 l_n1 l_n2 l_n3 u (show TyX (mkL l_s l_t l_i l_kp l_iz l_z l_tp l_o0 l_o1 l_o2 l_o3 l_n0 l_n1 l_n2 l_n3) from ⟨p_s, p_t, p_i, p_tp, p_n0, p_n1, p_n2, p_n3⟩) hN) hKK hP hD hS hA 1 (ci := 2) rfl rfl (cwV 0 hts gX2_dealAnew_X2_empty rfl rfl rfl (by decide +kernel) ⟨Nat.le_of_ble_eq_true rfl, Nat.le_of_ble_eq_true rfl⟩) rfl hl.1 rfl (Nat.le_of_ble_eq_true rfl) dX2_dealAnew_1 ⟨Nat.le_of_ble_eq_true rfl, Nat.le_of_ble_eq_true rfl⟩ (fun q9 H locs hr49108 hP hD hS => ?_)
  obtain ⟨r49109, u⟩ := q9
  have hr49108 : Rg 0 0 r49109 ∧ (r49109.toInt = 0) := hr49108
  have hP : va_P D cls (wX cI cS a na nc N (mkL r49109 l_t l_i l_kp l_iz l_z l_tp l_o0 l_o1 l_o2 l_o3 l_n0 l_n1 l_n2 l_n3) u) H := hP
  have hD : va_D A (wX cI cS a na nc N (mkL r49109 l_t l_i l_kp l_iz l_z l_tp l_o0 l_o1 l_o2 l_o3 l_n0 l_n1 l_n2 l_n3) u) := hD
  have kr49108_0 := hr49108.2
  refine lv_aload_n hx hb dX2_dealAnew_4 rfl (lv_at hl 0 rfl) ?_
  refine lv_iload_n hx hb dX2_dealAnew_5 rfl (lv_at hl 1 rfl) ?_
  refine wk_qv (S := Int32 × SU) (fun q => wX cI cS a na nc N (mkL q.1 l_t l_i l_kp l_iz l_z l_tp l_o0 l_o1 l_o2 l_o3 l_n0 l_n1 l_n2 l_n3) q.2) (r49109, u) (As := [.int x0]) (rest := []) ⟨hx, hb, hml, hown, hts⟩ (k_X2_add l D cI cS _ a na nc N r49109 l_t l_i l_kp l_iz l_z l_tp l_o0 l_o1 l_o2 l_o3 l_n0 l_n1 l_n2 l_n3 u (show TyX (mkL r49109 l_t l_i l_kp l_iz l_z l_tp l_o0 l_o1 l_o2 l_o3 l_n0 l_n1 l_n2 l_n3) from ⟨(show Rg 0 12 r49109 from rg_w hr49108.1 (by decide) (by decide)), p_t, p_i, p_tp, p_n0, p_n1, p_n2, p_n3⟩) hN x0 px0) hKK hP hD hS hA 1 (ci := 2) rfl rfl (cwV 1 hts gX2_dealAnew_X2_add rfl rfl rfl (by decide +kernel) ⟨Nat.le_of_ble_eq_true rfl, Nat.le_of_ble_eq_true rfl⟩) rfl hl.1 rfl (Nat.le_of_ble_eq_true rfl) dX2_dealAnew_6 ⟨Nat.le_of_ble_eq_true rfl, Nat.le_of_ble_eq_true rfl⟩ (fun q9 H locs hr49110 hP hD hS => ?_)
  obtain ⟨r49111, u⟩ := q9
  have hr49110 : Rg 0 12 r49111 ∧ ((r49109.toInt + x0.toInt ≤ 12 → r49111.toInt = r49109.toInt + x0.toInt)) := hr49110
  have hP : va_P D cls (wX cI cS a na nc N (mkL r49111 l_t l_i l_kp l_iz l_z l_tp l_o0 l_o1 l_o2 l_o3 l_n0 l_n1 l_n2 l_n3) u) H := hP
  have hD : va_D A (wX cI cS a na nc N (mkL r49111 l_t l_i l_kp l_iz l_z l_tp l_o0 l_o1 l_o2 l_o3 l_n0 l_n1 l_n2 l_n3) u) := hD
  have kr49110_0 := hr49110.2
  refine lv_iconst (v := 0) hx hb dX2_dealAnew_9 (by decide) ?_
  refine lv_istore (lv' := [(4, .int 0), (0, .ref (a 1)), (1, .int x0), (2, .int x1), (3, .ref (a 20))]) hx hb dX2_dealAnew_10 hl (by decide) rfl (fun ls hl => ?_)
  exact lp12 13 (0 : Int32) r49111 l_z u _ _ ls (by decide : Rg 0 12 (0 : Int32)) hr49110.1 (by have y90 : Rg 0 12 x0 := px0; have y91 : Rg 0 12 r49111 := hr49110.1; have y92 : Rg 0 12 l_t := p_t; have y93 : Rg 0 12 l_i := p_i; have y94 : Rg 0 120 l_tp := p_tp; have y95 : Rg 0 40 l_n0 := p_n0; have y96 : Rg 0 40 l_n1 := p_n1; have y97 : Rg 0 40 l_n2 := p_n2; have y98 : Rg 0 40 l_n3 := p_n3; have y9c9 : (0 : Int32).toInt = 0 := (by decide); have y9c10 : (1 : Int32).toInt = 1 := (by decide); exact ⟨by omega, zo_0, by omega⟩) hP hD hS (lv_sub (l' := [(0, .ref (a 1)), (2, .int x1), (3, .ref (a 20)), (4, .int 0)]) hl [1, 3, 4, 0] rfl) (me_i (by decide : Rg 0 12 (0 : Int32)) (by decide))
set_option maxHeartbeats 4000000 in
set_option maxRecDepth 100000 in
theorem k_X2_add_3 (l : Launch) (D : va_G) (cI cS : ClassId) (sz : Nat) (a : Nat → Nat) (na nc N : Nat) (l_s l_t l_i l_kp l_iz l_z l_tp l_o0 l_o1 l_o2 l_o3 l_n0 l_n1 l_n2 l_n3 : Int32) (u0 : SU) (hL : TyX (mkL l_s l_t l_i l_kp l_iz l_z l_tp l_o0 l_o1 l_o2 l_o3 l_n0 l_n1 l_n2 l_n3)) (hN : N = 0 ∨ N = 24576) (x0 : Int32) (px0 : Rg 0 12 x0) : Met l yX2_add wsX2_add ({ frames := 1, cells := 0, slots := 0, locals := 40 }) (PQ D cI cS (wX cI cS a na nc N (mkL l_s l_t l_i l_kp l_iz l_z l_tp l_o0 l_o1 l_o2 l_o3 l_n0 l_n1 l_n2 l_n3) u0) sz [.ref (a 3), .int x0]) (QE (S := Int32 × SU) D (wX cI cS a na nc N (mkL l_s l_t l_i l_kp l_iz l_z l_tp l_o0 l_o1 l_o2 l_o3 l_n0 l_n1 l_n2 l_n3) u0) (fun q => wX cI cS a na nc N (mkL l_s q.1 l_i l_kp l_iz l_z l_tp l_o0 l_o1 l_o2 l_o3 l_n0 l_n1 l_n2 l_n3) q.2) sz (fun q => Rg 0 12 q.1 ∧ ((l_t.toInt + x0.toInt ≤ 12 → q.1.toInt = l_t.toInt + x0.toInt)))) 0 0 (va_A (wX cI cS a na nc N (mkL l_s l_t l_i l_kp l_iz l_z l_tp l_o0 l_o1 l_o2 l_o3 l_n0 l_n1 l_n2 l_n3) u0) sz) := by
  refine Met.ofW (cc := cX2_add) (maxL := 2) (ret := none) (by decide) rfl ?_
  intro p e s m args below meth c s₁ B hml hv
  obtain ⟨rfl, hsz, hP, hKK, hD0⟩ := hv
  have hx := B.exec
  have hb := B.bytes
  have hr := B.returns
  have hts := atoms_spec (ws := wsX2_add) B.pre
  have hown : s.vm.findClass RX2 = some m.cls := findClass_of_methodNamed B.named
  have hlocks := B.notSynchronized
  have hK := hKK.1
  have hin2 : ∀ w ∈ wsX20, w ∈ wsX2_add := by decide +kernel
  subst hsz
  have hD := hD0.self (sz := s.heap.size)
  obtain ⟨A, hAe⟩ : ∃ A, A = va_A (wX cI cS a na nc N (mkL l_s l_t l_i l_kp l_iz l_z l_tp l_o0 l_o1 l_o2 l_o3 l_n0 l_n1 l_n2 l_n3) u0) s.heap.size := ⟨_, rfl⟩
  rw [← hAe] at hD
  have hA : ∀ q : Nat, s.heap.size ≤ q → A q := fun q h => by rw [hAe]; exact Or.inr h
  have hS : va_S A s.heap s.heap [] := va_S.rf
  have hl := lv_entry ([.ref (a 3), .int x0]) (n := 2) (Nat.le_of_ble_eq_true rfl)
  rw [lg_entry_eq]
  generalize (lg_sl ([.ref (a 3), .int x0]) ++ List.replicate (2 - (lg_sl ([.ref (a 3), .int x0])).length) Slot.unset).toArray = ls at hl ⊢
  have hl : lv_has ls 2 [(0, .ref (a 3)), (1, .int x0)] := hl
  obtain ⟨u, hu9⟩ : ∃ u : SU, u = u0 := ⟨_, rfl⟩
  rw [← hu9] at hP hD
  have p_s : Rg 0 12 l_s := hL.1
  have p_t : Rg 0 12 l_t := hL.2.1
  have p_i : Rg 0 12 l_i := hL.2.2.1
  have p_tp : Rg 0 120 l_tp := hL.2.2.2.1
  have p_n0 : Rg 0 40 l_n0 := hL.2.2.2.2.1
  have p_n1 : Rg 0 40 l_n1 := hL.2.2.2.2.2.1
  have p_n2 : Rg 0 40 l_n2 := hL.2.2.2.2.2.2.1
  have p_n3 : Rg 0 40 l_n3 := hL.2.2.2.2.2.2.2
  refine lv_aload_n hx hb dX2_add_0 rfl (lv_at hl 0 rfl) ?_
  refine lv_aload_n hx hb dX2_add_1 rfl (lv_at hl 0 rfl) ?_
  refine va_get (D := D) (ci := 2) (v := .int l_t) (C := RX2) (T := TX2) (N := 3) hx hb hts hin2 hown hK hP 3 rfl rfl 1 (by decide) (hts (.fieldLink RX2 15 "MissedPoints$Net" "size" "I") (by decide +kernel)) (fun _ h9 => h9) rfl dX2_add_2 ?_
  refine lv_iload_n hx hb dX2_add_5 rfl (lv_at hl 1 rfl) ?_
  refine wk_iadd (e1 := 0) (f := 24) hx hb dX2_add_6 p_t px0 (by decide) (fun r49116 hr49116 er49116 qr49116 => ?_)
  refine lv_bipush (v := 12) hx hb dX2_add_7 (by decide) ?_
  refine va_mmin hx hb (by rw [hml]; exact hl.1.symm) hown (hts (.methodLink RX2 27 Lib.Math.min.name) (by decide +kernel)) (hts (.static Lib.Math.min.name) (by decide +kernel)) (hts (.initialized "java/lang/Math") (by decide +kernel)) (hts (.code Lib.Math.min.name Lib.Math.min.code 2 (some .int)) (by decide +kernel)) (Nat.le_of_ble_eq_true rfl) (Nat.le_of_ble_eq_true rfl) (Nat.le_of_ble_eq_true rfl) (Nat.le_of_ble_eq_true rfl) dX2_add_9 ?_
  refine wk_topP (P := fun r => Rg 0 12 r ∧ (r.toInt ≤ r49116.toInt ∧ r.toInt ≤ (12 : Int32).toInt) ∧ (r.toInt = r49116.toInt ∨ r.toInt = (12 : Int32).toInt)) ⟨wk_min hr49116 (by decide : Rg 12 12 (12 : Int32)) (by decide), ⟨⟨wk_minE.1, wk_minE.2.1⟩, wk_minE.2.2⟩⟩ (fun r49117 hr49117 => ?_)
  refine va_put (D := D) (ci := 2) (v := .int r49117) (ty := .int) (C := RX2) (T := TX2) (N := 3) hx hb hts hin2 tyX2 tyX2_ok nmX2 hown hK hP hD hS 3 rfl rfl 1 (by decide) (hts (.fieldLink RX2 15 "MissedPoints$Net" "size" "I") (by decide +kernel)) (fun _ h9 => h9) rfl (by decide +kernel) rfl rfl (Nat.le_of_ble_eq_true rfl) dX2_add_12 (fun H locs hP hD hS => ?_)
  have hP : va_P D cls (wX cI cS a na nc N (mkL l_s r49117 l_i l_kp l_iz l_z l_tp l_o0 l_o1 l_o2 l_o3 l_n0 l_n1 l_n2 l_n3) u) H := hP
  have hD : va_D A (wX cI cS a na nc N (mkL l_s r49117 l_i l_kp l_iz l_z l_tp l_o0 l_o1 l_o2 l_o3 l_n0 l_n1 l_n2 l_n3) u) := hD
  refine lv_aload_n hx hb dX2_add_15 rfl (lv_at hl 0 rfl) ?_
  refine lv_dup hx hb dX2_add_16 rfl ?_
  refine va_get (D := D) (ci := 2) (v := .int (u 3 2)) (C := RX2) (T := TX2) (N := 3) hx hb hts hin2 hown hK hP 3 rfl rfl 2 (by decide) (hts (.fieldLink RX2 33 "MissedPoints$Net" "changes" "I") (by decide +kernel)) (fun _ h9 => h9) rfl dX2_add_17 ?_
  refine wk_any (fun r49118 => ?_)
  refine lv_iconst (v := 1) hx hb dX2_add_20 (by decide) ?_
  refine lv_iadd hx hb dX2_add_21 ?_
  refine wk_topP (P := fun r => r = r49118 + (1 : Int32)) rfl (fun r49119 qr49119 => ?_)
  refine va_put (D := D) (ci := 2) (v := .int r49119) (ty := .int) (C := RX2) (T := TX2) (N := 3) hx hb hts hin2 tyX2 tyX2_ok nmX2 hown hK hP hD hS 3 rfl rfl 2 (by decide) (hts (.fieldLink RX2 33 "MissedPoints$Net" "changes" "I") (by decide +kernel)) (fun _ h9 => h9) rfl (by decide +kernel) rfl rfl (Nat.le_of_ble_eq_true rfl) dX2_add_22 (fun H locs hP hD hS => ?_)
  rw [sxf_3_2] at hP hD
  generalize sU u 3 _ = u at hP hD
  subst hAe
  exact W.vret hx hb hr (fun t ht hW => ⟨⟨(r49117, u), rfl, ⟨hr49117.1, (show (l_t.toInt + x0.toInt ≤ 12 → r49117.toInt = l_t.toInt + x0.toInt) from by have y90 : Rg 0 12 x0 := px0; have y91 : Rg 0 12 l_s := p_s; have y92 : Rg 0 12 r49117 := hr49117.1; have y93 : Rg 0 12 l_i := p_i; have y94 : Rg 0 120 l_tp := p_tp; have y95 : Rg 0 40 l_n0 := p_n0; have y96 : Rg 0 40 l_n1 := p_n1; have y97 : Rg 0 40 l_n2 := p_n2; have y98 : Rg 0 40 l_n3 := p_n3; have y9c9 : (0 : Int32).toInt = 0 := (by decide); have y9c10 : (1 : Int32).toInt = 1 := (by decide); have y9c11 : (12 : Int32).toInt = 12 := (by decide); omega)⟩, by rw [ht]; exact hP, hD⟩, hS.F ht⟩) hS.2.2 dX2_add_25
set_option maxHeartbeats 4000000 in
set_option maxRecDepth 100000 in
theorem k_X2_empty_3 (l : Launch) (D : va_G) (cI cS : ClassId) (sz : Nat) (a : Nat → Nat) (na nc N : Nat) (l_s l_t l_i l_kp l_iz l_z l_tp l_o0 l_o1 l_o2 l_o3 l_n0 l_n1 l_n2 l_n3 : Int32) (u0 : SU) (hL : TyX (mkL l_s l_t l_i l_kp l_iz l_z l_tp l_o0 l_o1 l_o2 l_o3 l_n0 l_n1 l_n2 l_n3)) (hN : N = 0 ∨ N = 24576) : Met l yX2_empty wsX2_empty ({ frames := 0, cells := 0, slots := 0, locals := 0 }) (PQ D cI cS (wX cI cS a na nc N (mkL l_s l_t l_i l_kp l_iz l_z l_tp l_o0 l_o1 l_o2 l_o3 l_n0 l_n1 l_n2 l_n3) u0) sz [.ref (a 3)]) (QE (S := Int32 × SU) D (wX cI cS a na nc N (mkL l_s l_t l_i l_kp l_iz l_z l_tp l_o0 l_o1 l_o2 l_o3 l_n0 l_n1 l_n2 l_n3) u0) (fun q => wX cI cS a na nc N (mkL l_s q.1 l_i l_kp l_iz l_z l_tp l_o0 l_o1 l_o2 l_o3 l_n0 l_n1 l_n2 l_n3) q.2) sz (fun q => Rg 0 0 q.1 ∧ (q.1.toInt = 0))) 0 0 (va_A (wX cI cS a na nc N (mkL l_s l_t l_i l_kp l_iz l_z l_tp l_o0 l_o1 l_o2 l_o3 l_n0 l_n1 l_n2 l_n3) u0) sz) := by
  refine Met.ofW (cc := cX2_empty) (maxL := 2) (ret := none) (by decide) rfl ?_
  intro p e s m args below meth c s₁ B hml hv
  obtain ⟨rfl, hsz, hP, hKK, hD0⟩ := hv
  have hx := B.exec
  have hb := B.bytes
  have hr := B.returns
  have hts := atoms_spec (ws := wsX2_empty) B.pre
  have hown : s.vm.findClass RX2 = some m.cls := findClass_of_methodNamed B.named
  have hlocks := B.notSynchronized
  have hK := hKK.1
  have hin2 : ∀ w ∈ wsX20, w ∈ wsX2_empty := by decide +kernel
  subst hsz
  have hD := hD0.self (sz := s.heap.size)
  obtain ⟨A, hAe⟩ : ∃ A, A = va_A (wX cI cS a na nc N (mkL l_s l_t l_i l_kp l_iz l_z l_tp l_o0 l_o1 l_o2 l_o3 l_n0 l_n1 l_n2 l_n3) u0) s.heap.size := ⟨_, rfl⟩
  rw [← hAe] at hD
  have hA : ∀ q : Nat, s.heap.size ≤ q → A q := fun q h => by rw [hAe]; exact Or.inr h
  have hS : va_S A s.heap s.heap [] := va_S.rf
  have hl := lv_entry ([.ref (a 3)]) (n := 2) (Nat.le_of_ble_eq_true rfl)
  rw [lg_entry_eq]
  generalize (lg_sl ([.ref (a 3)]) ++ List.replicate (2 - (lg_sl ([.ref (a 3)])).length) Slot.unset).toArray = ls at hl ⊢
  have hl : lv_has ls 2 [(0, .ref (a 3))] := hl
  obtain ⟨u, hu9⟩ : ∃ u : SU, u = u0 := ⟨_, rfl⟩
  rw [← hu9] at hP hD
  have p_s : Rg 0 12 l_s := hL.1
  have p_t : Rg 0 12 l_t := hL.2.1
  have p_i : Rg 0 12 l_i := hL.2.2.1
  have p_tp : Rg 0 120 l_tp := hL.2.2.2.1
  have p_n0 : Rg 0 40 l_n0 := hL.2.2.2.2.1
  have p_n1 : Rg 0 40 l_n1 := hL.2.2.2.2.2.1
  have p_n2 : Rg 0 40 l_n2 := hL.2.2.2.2.2.2.1
  have p_n3 : Rg 0 40 l_n3 := hL.2.2.2.2.2.2.2
  have lp2 : ∀ (n2 : Nat) (y2_l1 : Int32) (u : SU) (H : Heap) (locs : List Loc) (ls : Array Slot), Rg 0 12 y2_l1 → Rg 0 12 l_t → va_P D cls (wX cI cS a na nc N (mkL l_s l_t l_i l_kp l_iz l_z l_tp l_o0 l_o1 l_o2 l_o3 l_n0 l_n1 l_n2 l_n3) u) H → va_D A (wX cI cS a na nc N (mkL l_s l_t l_i l_kp l_iz l_z l_tp l_o0 l_o1 l_o2 l_o3 l_n0 l_n1 l_n2 l_n3) u) → va_S A s.heap H locs → lv_has ls 2 [(0, .ref (a 3)), (1, .int y2_l1)] → 12 - y2_l1.toInt < (n2 : Int) → W p l e (headSpec wsX2_empty ({ frames := 0, cells := 0, slots := 0, locals := 0 })).room s m ([.ref (a 3)]).toArray below meth c H locs 0 0 (MQ below (QE (S := Int32 × SU) D (wX cI cS a na nc N (mkL l_s l_t l_i l_kp l_iz l_z l_tp l_o0 l_o1 l_o2 l_o3 l_n0 l_n1 l_n2 l_n3) u0) (fun q => wX cI cS a na nc N (mkL l_s q.1 l_i l_kp l_iz l_z l_tp l_o0 l_o1 l_o2 l_o3 l_n0 l_n1 l_n2 l_n3) q.2) s.heap.size (fun q => Rg 0 0 q.1 ∧ (q.1.toInt = 0))) ([.ref (a 3)]).toArray s 0 0 (va_A (wX cI cS a na nc N (mkL l_s l_t l_i l_kp l_iz l_z l_tp l_o0 l_o1 l_o2 l_o3 l_n0 l_n1 l_n2 l_n3) u0) s.heap.size)) (F0 m 2 ls []) := by
    intro n2
    induction n2 with
    | zero =>
      intro y2_l1 u H locs ls g2_l1 g2_kt hP hD hS hl hm2
      exact absurd rfl (me_z g2_l1 hm2)
    | succ n2 ih2 =>
      intro y2_l1 u H locs ls g2_l1 g2_kt hP hD hS hl hm2
      refine lv_iload_n hx hb dX2_empty_2 rfl (lv_at hl 1 rfl) ?_
      refine lv_bipush (v := 12) hx hb dX2_empty_3 (by decide) ?_
      refine lv_icmp_ge (tgt := 21) hx hb dX2_empty_5 (by decide) (fun c49142 => ?_) (fun c49142 => ?_)
      · have g49143 : Rg 12 12 y2_l1 := rg_ler (by decide : Rg 12 12 (12 : Int32)) g2_l1 c49142 (by decide)
        refine lv_aload_n hx hb dX2_empty_21 rfl (lv_at hl 0 rfl) ?_
        refine lv_iconst (v := 0) hx hb dX2_empty_22 (by decide) ?_
        refine va_put (D := D) (ci := 2) (v := .int 0) (ty := .int) (C := RX2) (T := TX2) (N := 3) hx hb hts hin2 tyX2 tyX2_ok nmX2 hown hK hP hD hS 3 rfl rfl 1 (by decide) (hts (.fieldLink RX2 15 "MissedPoints$Net" "size" "I") (by decide +kernel)) (fun _ h9 => h9) rfl (by decide +kernel) rfl rfl (Nat.le_of_ble_eq_true rfl) dX2_empty_23 (fun H locs hP hD hS => ?_)
        have hP : va_P D cls (wX cI cS a na nc N (mkL l_s (0 : Int32) l_i l_kp l_iz l_z l_tp l_o0 l_o1 l_o2 l_o3 l_n0 l_n1 l_n2 l_n3) u) H := hP
        have hD : va_D A (wX cI cS a na nc N (mkL l_s (0 : Int32) l_i l_kp l_iz l_z l_tp l_o0 l_o1 l_o2 l_o3 l_n0 l_n1 l_n2 l_n3) u) := hD
        refine lv_aload_n hx hb dX2_empty_26 rfl (lv_at hl 0 rfl) ?_
        refine lv_dup hx hb dX2_empty_27 rfl ?_
        refine va_get (D := D) (ci := 2) (v := .int (u 3 2)) (C := RX2) (T := TX2) (N := 3) hx hb hts hin2 hown hK hP 3 rfl rfl 2 (by decide) (hts (.fieldLink RX2 33 "MissedPoints$Net" "changes" "I") (by decide +kernel)) (fun _ h9 => h9) rfl dX2_empty_28 ?_
        refine wk_any (fun r49144 => ?_)
        refine lv_iconst (v := 1) hx hb dX2_empty_31 (by decide) ?_
        refine lv_iadd hx hb dX2_empty_32 ?_
        refine wk_topP (P := fun r => r = r49144 + (1 : Int32)) rfl (fun r49145 qr49145 => ?_)
        refine va_put (D := D) (ci := 2) (v := .int r49145) (ty := .int) (C := RX2) (T := TX2) (N := 3) hx hb hts hin2 tyX2 tyX2_ok nmX2 hown hK hP hD hS 3 rfl rfl 2 (by decide) (hts (.fieldLink RX2 33 "MissedPoints$Net" "changes" "I") (by decide +kernel)) (fun _ h9 => h9) rfl (by decide +kernel) rfl rfl (Nat.le_of_ble_eq_true rfl) dX2_empty_33 (fun H locs hP hD hS => ?_)
        rw [sxf_3_2] at hP hD
        generalize sU u 3 _ = u at hP hD
        subst hAe
        exact W.vret hx hb hr (fun t ht hW => ⟨⟨((0 : Int32), u), rfl, ⟨(by decide : Rg 0 0 (0 : Int32)), (show (0 : Int32).toInt = 0 from by have y90 : (12 : Int32).toInt ≤ y2_l1.toInt := (lz_le _ _).mp c49142; have y91 : Rg 12 12 y2_l1 := g49143; have y92 : Rg 12 12 y2_l1 := g49143; have y93 : Rg 0 12 l_s := p_s; have y94 : Rg 0 12 l_i := p_i; have y95 : Rg 0 120 l_tp := p_tp; have y96 : Rg 0 40 l_n0 := p_n0; have y97 : Rg 0 40 l_n1 := p_n1; have y98 : Rg 0 40 l_n2 := p_n2; have y99 : Rg 0 40 l_n3 := p_n3; have y9c10 : (0 : Int32).toInt = 0 := (by decide); have y9c11 : (1 : Int32).toInt = 1 := (by decide); have y9c12 : (12 : Int32).toInt = 12 := (by decide); omega)⟩, by rw [ht]; exact hP, hD⟩, hS.F ht⟩) hS.2.2 dX2_empty_36
      · have g49146 : Rg 0 11 y2_l1 := rg_ltl g2_l1 (by decide : Rg 12 12 (12 : Int32)) (rg_nle c49142) (by decide)
        refine lv_aload_n hx hb dX2_empty_8 rfl (lv_at hl 0 rfl) ?_
        refine va_get (D := D) (ci := 2) (v := .ref (a 4)) (C := RX2) (T := TX2) (N := 3) hx hb hts hin2 hown hK hP 3 rfl rfl 0 (by decide) (hts (.fieldLink RX2 9 "MissedPoints$Net" "links" "[I") (by decide +kernel)) (fun _ h9 => h9) rfl dX2_empty_9 ?_
        refine lv_iload_n hx hb dX2_empty_12 rfl (lv_at hl 1 rfl) ?_
        refine lv_iconst (v := 0) hx hb dX2_empty_13 (by decide) ?_
        refine ks_ast hx hb hK hP hD hS rfl (k := 4) rfl sx_4 (rg_in g49146 (by decide) (by decide)) dX2_empty_14 (fun u H locs hP hD hS => ?_)
        refine wk_iinc (lv' := fun r => [(1, .int r), (0, .ref (a 3))]) (e1 := 1) (f := 12) hx hb dX2_empty_15 hl (k := 1) rfl (by decide) g49146 (by decide) (fun _ => rfl) (fun r49147 ls hr49147 er49147 hl => ?_)
        refine lv_goto (tgt := 2) hx hb dX2_empty_18 (by decide) ?_
        exact ih2 r49147 u _ _ ls (show Rg 0 12 r49147 from rg_w hr49147 (by decide) (by decide)) g2_kt hP hD hS (lv_sub (l' := [(0, .ref (a 3)), (1, .int r49147)]) hl [1, 0] rfl) (me_up hm2 er49147 (by decide))
  refine lv_iconst (v := 0) hx hb dX2_empty_0 (by decide) ?_
  refine lv_istore_n (lv' := [(1, .int 0), (0, .ref (a 3))]) hx hb dX2_empty_1 rfl hl (by decide) rfl (fun ls hl => ?_)
  exact lp2 13 (0 : Int32) u _ _ ls (by decide : Rg 0 12 (0 : Int32)) p_t hP hD hS (lv_sub (l' := [(0, .ref (a 3)), (1, .int 0)]) hl [1, 0] rfl) (me_i (by decide : Rg 0 12 (0 : Int32)) (by decide))
