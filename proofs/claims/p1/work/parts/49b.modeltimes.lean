theorem Sym.like {k : Nat} {f g : Nat → Int32} (e : Like k f g) (h : Sym k g) : Sym k f := fun a b ha hb => by rw [e a ha, e b hb]; exact h a b ha hb
def zN (od : Int32) (k : Nat) : Nat → Int32
  | 0 => 1
  | i + 1 => (dO od k (zN od k i) k).2
def lkN (od : Int32) (k i : Nat) : Int32 := nI k - (2 : Int32) * nI (nuS k (dO od k (zN od k i) k).1 (2 ^ k - 1))
def cT (od kk : Int32) (k : Nat) : Nat → Int32
  | 0 => 0
  | i + 1 => cT od kk k i + (if lkN od k i = kk then 1 else 0)
/-- what times answers on a new object -/
def timesR (x0 x1 x2 x3 : Int32) : Int32 := if x0 < 1 then -2 else if 20 < x0 then -2 else if x1 < 0 then -2 else if 12 < x1 then -2 else if x2 < 0 then -2 else if 10 < x2 then -2 else if x3 < 0 then -2 else if 12 < x3 then -2 else cT x2 x3 x1.toNatClampNeg x0.toNatClampNeg
set_option maxHeartbeats 4000000 in
set_option maxRecDepth 100000 in
theorem c_X12_in_16 (l : Launch) (D : va_G) (cI cS : ClassId) (x0 : Int32) : Met l yX12_in wsX12_in ({ frames := 0, cells := 0, slots := 0, locals := 0 }) (PS D cI cS [] [.int x0, .int 1, .int 20]) (vp_Si (fun r => r = if x0 < 1 then (0 : Int32) else (if (20 : Int32) < x0 then (0 : Int32) else (1 : Int32)))) 0 0 (fun _ => False) := by
  refine Met.ofW (cc := cX12_in) (maxL := 3) (ret := (some .boolean)) (by decide) rfl ?_
  intro p e s m args below meth c s₁ B hml hv
  obtain ⟨rfl, hP, hKK⟩ := hv
  have hx := B.exec
  have hb := B.bytes
  have hr := B.returns
  have hts := atoms_spec (ws := wsX12_in) B.pre
  have hown : s.vm.findClass RX12 = some m.cls := findClass_of_methodNamed B.named
  have hlocks := B.notSynchronized
  have hK := hKK.1
  have hN := hKK.2
  have hl := lv_entry ([.int x0, .int 1, .int 20]) (n := 3) (Nat.le_of_ble_eq_true rfl)
  rw [lg_entry_eq]
  generalize (lg_sl ([.int x0, .int 1, .int 20]) ++ List.replicate (3 - (lg_sl ([.int x0, .int 1, .int 20])).length) Slot.unset).toArray = ls at hl ⊢
  have hl : lv_has ls 3 [(0, .int x0), (1, .int 1), (2, .int 20)] := hl
  refine lv_iload_n hx hb dX12_in_0 rfl (lv_at hl 0 rfl) ?_
  refine lv_iload_n hx hb dX12_in_1 rfl (lv_at hl 1 rfl) ?_
  refine lv_icmp_lt (tgt := 14) hx hb dX12_in_2 (by decide) (fun c5153 => ?_) (fun c5153 => ?_)
  · refine lv_iconst (v := 0) hx hb dX12_in_14 (by decide) ?_
    exact W.zret (v := 0) hx hb hr (by decide) (fun t ht hW => ⟨_, rfl, by rw [if_pos c5153], ht⟩) (fun q hq => absurd hq List.not_mem_nil) dX12_in_15
  · refine lv_iload_n hx hb dX12_in_5 rfl (lv_at hl 0 rfl) ?_
    refine lv_iload_n hx hb dX12_in_6 rfl (lv_at hl 2 rfl) ?_
    refine lv_icmp_gt (tgt := 14) hx hb dX12_in_7 (by decide) (fun c5154 => ?_) (fun c5154 => ?_)
    · refine lv_iconst (v := 0) hx hb dX12_in_14 (by decide) ?_
      exact W.zret (v := 0) hx hb hr (by decide) (fun t ht hW => ⟨_, rfl, by rw [if_neg c5153, if_pos c5154], ht⟩) (fun q hq => absurd hq List.not_mem_nil) dX12_in_15
    · refine lv_iconst (v := 1) hx hb dX12_in_10 (by decide) ?_
      refine lv_goto (tgt := 15) hx hb dX12_in_11 (by decide) ?_
      exact W.zret (v := 1) hx hb hr (by decide) (fun t ht hW => ⟨_, rfl, by rw [if_neg c5153, if_neg c5154], ht⟩) (fun q hq => absurd hq List.not_mem_nil) dX12_in_15
set_option maxHeartbeats 4000000 in
set_option maxRecDepth 100000 in
theorem c_X12_keeps_2 (l : Launch) (D : va_G) (cI cS : ClassId) (sz : Nat) (h0 h1 h2 h3 h4 h5 h6 h7 h8 h9 h10 h11 h12 h13 h14 h15 : Nat) : Met l yX12_keeps wsX12_keeps ({ frames := 0, cells := 0, slots := 0, locals := 0 }) (PQ D cI cS [(h0, .inr (12, [.int 0, .int 1, .ref h1, .ref h2, .ref h3, .ref h4, .ref h5, .ref h6, .ref h7, .ref h8, .int 0, .int 0, .int 0, .int 0, .int 0, .int 0, .ref h9, .ref h10, .ref h11, .ref h12, .ref h13, .ref h14, .ref h15, .int 0])), (h1, .inl (cI, 12, .inl (fun _ => 0))), (h15, .inl (cI, 28, .inl (fun _ => 0)))] sz [.ref h0, .int 1]) (QV D [(h0, .inr (12, [.int 0, .int 1, .ref h1, .ref h2, .ref h3, .ref h4, .ref h5, .ref h6, .ref h7, .ref h8, .int 0, .int 0, .int 0, .int 0, .int 0, .int 0, .ref h9, .ref h10, .ref h11, .ref h12, .ref h13, .ref h14, .ref h15, .int 0])), (h1, .inl (cI, 12, .inl (fun _ => 0))), (h15, .inl (cI, 28, .inl (fun _ => 0)))] [(h0, .inr (12, [.int 0, .int 1, .ref h1, .ref h2, .ref h3, .ref h4, .ref h5, .ref h6, .ref h7, .ref h8, .int 0, .int 0, .int 0, .int 0, .int 0, .int 0, .ref h9, .ref h10, .ref h11, .ref h12, .ref h13, .ref h14, .ref h15, .int 0])), (h1, .inl (cI, 12, .inl (fun _ => 0))), (h15, .inl (cI, 28, .inl (upd (upd (upd (upd (upd (upd (upd (upd (upd (upd (upd (upd (upd (fun _ => 0) 15 1) 16 0) 17 0) 18 0) 19 0) 20 0) 21 0) 22 0) 23 0) 24 0) 25 0) 26 0) 27 0)))] sz) 0 0 (va_A [(h0, .inr (12, [.int 0, .int 1, .ref h1, .ref h2, .ref h3, .ref h4, .ref h5, .ref h6, .ref h7, .ref h8, .int 0, .int 0, .int 0, .int 0, .int 0, .int 0, .ref h9, .ref h10, .ref h11, .ref h12, .ref h13, .ref h14, .ref h15, .int 0])), (h1, .inl (cI, 12, .inl (fun _ => 0))), (h15, .inl (cI, 28, .inl (fun _ => 0)))] sz) := by
  refine Met.ofW (cc := cX12_keeps) (maxL := 4) (ret := none) (by decide) rfl ?_
  intro p e s m args below meth c s₁ B hml hv
  obtain ⟨rfl, hsz, hP, hKK, hD0⟩ := hv
  have hx := B.exec
  have hb := B.bytes
  have hr := B.returns
  have hts := atoms_spec (ws := wsX12_keeps) B.pre
  have hown : s.vm.findClass RX12 = some m.cls := findClass_of_methodNamed B.named
  have hlocks := B.notSynchronized
  have hK := hKK.1
  have hN := hKK.2
  have hin12 : ∀ w ∈ wsX120, w ∈ wsX12_keeps := by decide +kernel
  subst hsz
  have hD := hD0.self (sz := s.heap.size)
  obtain ⟨A, hAe⟩ : ∃ A, A = va_A [(h0, .inr (12, [.int 0, .int 1, .ref h1, .ref h2, .ref h3, .ref h4, .ref h5, .ref h6, .ref h7, .ref h8, .int 0, .int 0, .int 0, .int 0, .int 0, .int 0, .ref h9, .ref h10, .ref h11, .ref h12, .ref h13, .ref h14, .ref h15, .int 0])), (h1, .inl (cI, 12, .inl (fun _ => 0))), (h15, .inl (cI, 28, .inl (fun _ => 0)))] s.heap.size := ⟨_, rfl⟩
  rw [← hAe] at hD
  have hA : ∀ q : Nat, s.heap.size ≤ q → A q := fun q h => by rw [hAe]; exact Or.inr h
  have hS : va_S A s.heap s.heap [] := va_S.rf
  have hl := lv_entry ([.ref h0, .int 1]) (n := 4) (Nat.le_of_ble_eq_true rfl)
  rw [lg_entry_eq]
  generalize (lg_sl ([.ref h0, .int 1]) ++ List.replicate (4 - (lg_sl ([.ref h0, .int 1])).length) Slot.unset).toArray = ls at hl ⊢
  have hl : lv_has ls 4 [(0, .ref h0), (1, .int 1)] := hl
  refine lv_iload_n hx hb dX12_keeps_0 rfl (lv_at hl 1 rfl) ?_
  refine lv_bipush (v := 14) hx hb dX12_keeps_1 (by decide) ?_
  refine lv_imul hx hb dX12_keeps_3 ?_
  refine lz_top (y := 14) (by decide) ?_
  refine lv_istore_n (lv' := [(2, .int 14), (0, .ref h0), (1, .int 1)]) hx hb dX12_keeps_4 rfl hl (by decide) rfl (fun ls hl => ?_)
  refine lv_aload_n hx hb dX12_keeps_5 rfl (lv_at hl 1 rfl) ?_
  refine va_get (D := D) (ci := 12) (v := .ref h15) (C := RX12) (T := TX12) (N := 24) hx hb hts hin12 hown hK hP 0 rfl rfl 22 (by decide) (hts (.fieldLink RX12 56 "MissedPointsModel" "kept" "[I") (by decide +kernel)) (fun _ h9 => h9) rfl dX12_keeps_6 ?_
  refine lv_iload_n hx hb dX12_keeps_9 rfl (lv_at hl 0 rfl) ?_
  refine lv_aload_n hx hb dX12_keeps_10 rfl (lv_at hl 1 rfl) ?_
  refine va_get (D := D) (ci := 12) (v := .int 0) (C := RX12) (T := TX12) (N := 24) hx hb hts hin12 hown hK hP 0 rfl rfl 0 (by decide) (hts (.fieldLink RX12 63 "MissedPointsModel" "many" "I") (by decide +kernel)) (fun _ h9 => h9) rfl dX12_keeps_11 ?_
  refine lz_astc hx hb hK hP hD hS 2 0 rfl rfl (lz_vp (x := 14) (n := 28) (by decide) (by decide)) dX12_keeps_14 (fun H locs hP hD hS => ?_)
  refine lv_aload_n hx hb dX12_keeps_15 rfl (lv_at hl 1 rfl) ?_
  refine va_get (D := D) (ci := 12) (v := .ref h15) (C := RX12) (T := TX12) (N := 24) hx hb hts hin12 hown hK hP 0 rfl rfl 22 (by decide) (hts (.fieldLink RX12 56 "MissedPointsModel" "kept" "[I") (by decide +kernel)) (fun _ h9 => h9) rfl dX12_keeps_16 ?_
  refine lv_iload_n hx hb dX12_keeps_19 rfl (lv_at hl 0 rfl) ?_
  refine lv_iconst (v := 1) hx hb dX12_keeps_20 (by decide) ?_
  refine lv_iadd hx hb dX12_keeps_21 ?_
  refine lz_top (y := 15) (by decide) ?_
  refine lv_aload_n hx hb dX12_keeps_22 rfl (lv_at hl 1 rfl) ?_
  refine va_get (D := D) (ci := 12) (v := .int 1) (C := RX12) (T := TX12) (N := 24) hx hb hts hin12 hown hK hP 0 rfl rfl 1 (by decide) (hts (.fieldLink RX12 7 "MissedPointsModel" "z" "I") (by decide +kernel)) (fun _ h9 => h9) rfl dX12_keeps_23 ?_
  refine va_iast hx hb hK hP hD hS 2 0 rfl rfl (lz_vp (x := 15) (n := 28) (by decide) (by decide)) dX12_keeps_26 (fun H locs hP hD hS => ?_)
  have hP : va_P D cls [(h0, .inr (12, [.int 0, .int 1, .ref h1, .ref h2, .ref h3, .ref h4, .ref h5, .ref h6, .ref h7, .ref h8, .int 0, .int 0, .int 0, .int 0, .int 0, .int 0, .ref h9, .ref h10, .ref h11, .ref h12, .ref h13, .ref h14, .ref h15, .int 0])), (h1, .inl (cI, 12, .inl (fun _ => 0))), (h15, .inl (cI, 28, .inl (upd (fun _ => 0) 15 1)))] H := hP
  have hD : va_D A [(h0, .inr (12, [.int 0, .int 1, .ref h1, .ref h2, .ref h3, .ref h4, .ref h5, .ref h6, .ref h7, .ref h8, .int 0, .int 0, .int 0, .int 0, .int 0, .int 0, .ref h9, .ref h10, .ref h11, .ref h12, .ref h13, .ref h14, .ref h15, .int 0])), (h1, .inl (cI, 12, .inl (fun _ => 0))), (h15, .inl (cI, 28, .inl (upd (fun _ => 0) 15 1)))] := hD
  refine lv_iconst (v := 0) hx hb dX12_keeps_27 (by decide) ?_
  refine lv_istore_n (lv' := [(3, .int 0), (2, .int 14), (0, .ref h0), (1, .int 1)]) hx hb dX12_keeps_28 rfl hl (by decide) rfl (fun ls hl => ?_)
  refine lv_iload_n hx hb dX12_keeps_29 rfl (lv_at hl 0 rfl) ?_
  refine lv_bipush (v := 12) hx hb dX12_keeps_30 (by decide) ?_
  refine lv_icmp_ge (tgt := 57) hx hb dX12_keeps_32 (by decide) (fun c5192 => ?_) (fun c5192 => ?_)
  · exact absurd c5192 (by decide)
  · refine lv_aload_n hx hb dX12_keeps_35 rfl (lv_at hl 2 rfl) ?_
    refine va_get (D := D) (ci := 12) (v := .ref h15) (C := RX12) (T := TX12) (N := 24) hx hb hts hin12 hown hK hP 0 rfl rfl 22 (by decide) (hts (.fieldLink RX12 56 "MissedPointsModel" "kept" "[I") (by decide +kernel)) (fun _ h9 => h9) rfl dX12_keeps_36 ?_
    refine lv_iload_n hx hb dX12_keeps_39 rfl (lv_at hl 1 rfl) ?_
    refine lv_iconst (v := 2) hx hb dX12_keeps_40 (by decide) ?_
    refine lv_iadd hx hb dX12_keeps_41 ?_
    refine lz_top (y := 16) (by decide) ?_
    refine lv_iload_n hx hb dX12_keeps_42 rfl (lv_at hl 0 rfl) ?_
    refine lv_iadd hx hb dX12_keeps_43 ?_
    refine lz_top (y := 16) (by decide) ?_
    refine lv_aload_n hx hb dX12_keeps_44 rfl (lv_at hl 2 rfl) ?_
    refine va_get (D := D) (ci := 12) (v := .ref h1) (C := RX12) (T := TX12) (N := 24) hx hb hts hin12 hown hK hP 0 rfl rfl 2 (by decide) (hts (.fieldLink RX12 13 "MissedPointsModel" "near" "[I") (by decide +kernel)) (fun _ h9 => h9) rfl dX12_keeps_45 ?_
    refine lv_iload_n hx hb dX12_keeps_48 rfl (lv_at hl 0 rfl) ?_
    refine va_iald hx hb hK hP 1 0 rfl rfl (lz_vp (x := 0) (n := 12) (by decide) (by decide)) dX12_keeps_49 ?_
    refine lz_top (y := 0) rfl ?_
    refine va_iast hx hb hK hP hD hS 2 0 rfl rfl (lz_vp (x := 16) (n := 28) (by decide) (by decide)) dX12_keeps_50 (fun H locs hP hD hS => ?_)
    have hP : va_P D cls [(h0, .inr (12, [.int 0, .int 1, .ref h1, .ref h2, .ref h3, .ref h4, .ref h5, .ref h6, .ref h7, .ref h8, .int 0, .int 0, .int 0, .int 0, .int 0, .int 0, .ref h9, .ref h10, .ref h11, .ref h12, .ref h13, .ref h14, .ref h15, .int 0])), (h1, .inl (cI, 12, .inl (fun _ => 0))), (h15, .inl (cI, 28, .inl (upd (upd (fun _ => 0) 15 1) 16 0)))] H := hP
    have hD : va_D A [(h0, .inr (12, [.int 0, .int 1, .ref h1, .ref h2, .ref h3, .ref h4, .ref h5, .ref h6, .ref h7, .ref h8, .int 0, .int 0, .int 0, .int 0, .int 0, .int 0, .ref h9, .ref h10, .ref h11, .ref h12, .ref h13, .ref h14, .ref h15, .int 0])), (h1, .inl (cI, 12, .inl (fun _ => 0))), (h15, .inl (cI, 28, .inl (upd (upd (fun _ => 0) 15 1) 16 0)))] := hD
    refine lv_iinc (v := 1) (lv' := [(3, .int 1), (2, .int 14), (0, .ref h0), (1, .int 1)]) hx hb dX12_keeps_51 hl (k := 0) rfl (by decide) (by decide) rfl (fun ls hl => ?_)
    refine lv_goto (tgt := 29) hx hb dX12_keeps_54 (by decide) ?_
    refine lv_iload_n hx hb dX12_keeps_29 rfl (lv_at hl 0 rfl) ?_
    refine lv_bipush (v := 12) hx hb dX12_keeps_30 (by decide) ?_
    refine lv_icmp_ge (tgt := 57) hx hb dX12_keeps_32 (by decide) (fun c5193 => ?_) (fun c5193 => ?_)
    · exact absurd c5193 (by decide)
    · refine lv_aload_n hx hb dX12_keeps_35 rfl (lv_at hl 2 rfl) ?_
      refine va_get (D := D) (ci := 12) (v := .ref h15) (C := RX12) (T := TX12) (N := 24) hx hb hts hin12 hown hK hP 0 rfl rfl 22 (by decide) (hts (.fieldLink RX12 56 "MissedPointsModel" "kept" "[I") (by decide +kernel)) (fun _ h9 => h9) rfl dX12_keeps_36 ?_
      refine lv_iload_n hx hb dX12_keeps_39 rfl (lv_at hl 1 rfl) ?_
      refine lv_iconst (v := 2) hx hb dX12_keeps_40 (by decide) ?_
      refine lv_iadd hx hb dX12_keeps_41 ?_
      refine lz_top (y := 16) (by decide) ?_
      refine lv_iload_n hx hb dX12_keeps_42 rfl (lv_at hl 0 rfl) ?_
      refine lv_iadd hx hb dX12_keeps_43 ?_
      refine lz_top (y := 17) (by decide) ?_
      refine lv_aload_n hx hb dX12_keeps_44 rfl (lv_at hl 2 rfl) ?_
      refine va_get (D := D) (ci := 12) (v := .ref h1) (C := RX12) (T := TX12) (N := 24) hx hb hts hin12 hown hK hP 0 rfl rfl 2 (by decide) (hts (.fieldLink RX12 13 "MissedPointsModel" "near" "[I") (by decide +kernel)) (fun _ h9 => h9) rfl dX12_keeps_45 ?_
      refine lv_iload_n hx hb dX12_keeps_48 rfl (lv_at hl 0 rfl) ?_
      refine va_iald hx hb hK hP 1 0 rfl rfl (lz_vp (x := 1) (n := 12) (by decide) (by decide)) dX12_keeps_49 ?_
      refine lz_top (y := 0) rfl ?_
      refine va_iast hx hb hK hP hD hS 2 0 rfl rfl (lz_vp (x := 17) (n := 28) (by decide) (by decide)) dX12_keeps_50 (fun H locs hP hD hS => ?_)
      have hP : va_P D cls [(h0, .inr (12, [.int 0, .int 1, .ref h1, .ref h2, .ref h3, .ref h4, .ref h5, .ref h6, .ref h7, .ref h8, .int 0, .int 0, .int 0, .int 0, .int 0, .int 0, .ref h9, .ref h10, .ref h11, .ref h12, .ref h13, .ref h14, .ref h15, .int 0])), (h1, .inl (cI, 12, .inl (fun _ => 0))), (h15, .inl (cI, 28, .inl (upd (upd (upd (fun _ => 0) 15 1) 16 0) 17 0)))] H := hP
      have hD : va_D A [(h0, .inr (12, [.int 0, .int 1, .ref h1, .ref h2, .ref h3, .ref h4, .ref h5, .ref h6, .ref h7, .ref h8, .int 0, .int 0, .int 0, .int 0, .int 0, .int 0, .ref h9, .ref h10, .ref h11, .ref h12, .ref h13, .ref h14, .ref h15, .int 0])), (h1, .inl (cI, 12, .inl (fun _ => 0))), (h15, .inl (cI, 28, .inl (upd (upd (upd (fun _ => 0) 15 1) 16 0) 17 0)))] := hD
      refine lv_iinc (v := 2) (lv' := [(3, .int 2), (2, .int 14), (0, .ref h0), (1, .int 1)]) hx hb dX12_keeps_51 hl (k := 0) rfl (by decide) (by decide) rfl (fun ls hl => ?_)
      refine lv_goto (tgt := 29) hx hb dX12_keeps_54 (by decide) ?_
      refine lv_iload_n hx hb dX12_keeps_29 rfl (lv_at hl 0 rfl) ?_
      refine lv_bipush (v := 12) hx hb dX12_keeps_30 (by decide) ?_
      refine lv_icmp_ge (tgt := 57) hx hb dX12_keeps_32 (by decide) (fun c5194 => ?_) (fun c5194 => ?_)
      · exact absurd c5194 (by decide)
      · refine lv_aload_n hx hb dX12_keeps_35 rfl (lv_at hl 2 rfl) ?_
        refine va_get (D := D) (ci := 12) (v := .ref h15) (C := RX12) (T := TX12) (N := 24) hx hb hts hin12 hown hK hP 0 rfl rfl 22 (by decide) (hts (.fieldLink RX12 56 "MissedPointsModel" "kept" "[I") (by decide +kernel)) (fun _ h9 => h9) rfl dX12_keeps_36 ?_
        refine lv_iload_n hx hb dX12_keeps_39 rfl (lv_at hl 1 rfl) ?_
        refine lv_iconst (v := 2) hx hb dX12_keeps_40 (by decide) ?_
        refine lv_iadd hx hb dX12_keeps_41 ?_
        refine lz_top (y := 16) (by decide) ?_
        refine lv_iload_n hx hb dX12_keeps_42 rfl (lv_at hl 0 rfl) ?_
        refine lv_iadd hx hb dX12_keeps_43 ?_
        refine lz_top (y := 18) (by decide) ?_
        refine lv_aload_n hx hb dX12_keeps_44 rfl (lv_at hl 2 rfl) ?_
        refine va_get (D := D) (ci := 12) (v := .ref h1) (C := RX12) (T := TX12) (N := 24) hx hb hts hin12 hown hK hP 0 rfl rfl 2 (by decide) (hts (.fieldLink RX12 13 "MissedPointsModel" "near" "[I") (by decide +kernel)) (fun _ h9 => h9) rfl dX12_keeps_45 ?_
        refine lv_iload_n hx hb dX12_keeps_48 rfl (lv_at hl 0 rfl) ?_
        refine va_iald hx hb hK hP 1 0 rfl rfl (lz_vp (x := 2) (n := 12) (by decide) (by decide)) dX12_keeps_49 ?_
        refine lz_top (y := 0) rfl ?_
        refine va_iast hx hb hK hP hD hS 2 0 rfl rfl (lz_vp (x := 18) (n := 28) (by decide) (by decide)) dX12_keeps_50 (fun H locs hP hD hS => ?_)
        have hP : va_P D cls [(h0, .inr (12, [.int 0, .int 1, .ref h1, .ref h2, .ref h3, .ref h4, .ref h5, .ref h6, .ref h7, .ref h8, .int 0, .int 0, .int 0, .int 0, .int 0, .int 0, .ref h9, .ref h10, .ref h11, .ref h12, .ref h13, .ref h14, .ref h15, .int 0])), (h1, .inl (cI, 12, .inl (fun _ => 0))), (h15, .inl (cI, 28, .inl (upd (upd (upd (upd (fun _ => 0) 15 1) 16 0) 17 0) 18 0)))] H := hP
        have hD : va_D A [(h0, .inr (12, [.int 0, .int 1, .ref h1, .ref h2, .ref h3, .ref h4, .ref h5, .ref h6, .ref h7, .ref h8, .int 0, .int 0, .int 0, .int 0, .int 0, .int 0, .ref h9, .ref h10, .ref h11, .ref h12, .ref h13, .ref h14, .ref h15, .int 0])), (h1, .inl (cI, 12, .inl (fun _ => 0))), (h15, .inl (cI, 28, .inl (upd (upd (upd (upd (fun _ => 0) 15 1) 16 0) 17 0) 18 0)))] := hD
        refine lv_iinc (v := 3) (lv' := [(3, .int 3), (2, .int 14), (0, .ref h0), (1, .int 1)]) hx hb dX12_keeps_51 hl (k := 0) rfl (by decide) (by decide) rfl (fun ls hl => ?_)
        refine lv_goto (tgt := 29) hx hb dX12_keeps_54 (by decide) ?_
        refine lv_iload_n hx hb dX12_keeps_29 rfl (lv_at hl 0 rfl) ?_
        refine lv_bipush (v := 12) hx hb dX12_keeps_30 (by decide) ?_
        refine lv_icmp_ge (tgt := 57) hx hb dX12_keeps_32 (by decide) (fun c5195 => ?_) (fun c5195 => ?_)
        · exact absurd c5195 (by decide)
        · refine lv_aload_n hx hb dX12_keeps_35 rfl (lv_at hl 2 rfl) ?_
          refine va_get (D := D) (ci := 12) (v := .ref h15) (C := RX12) (T := TX12) (N := 24) hx hb hts hin12 hown hK hP 0 rfl rfl 22 (by decide) (hts (.fieldLink RX12 56 "MissedPointsModel" "kept" "[I") (by decide +kernel)) (fun _ h9 => h9) rfl dX12_keeps_36 ?_
          refine lv_iload_n hx hb dX12_keeps_39 rfl (lv_at hl 1 rfl) ?_
          refine lv_iconst (v := 2) hx hb dX12_keeps_40 (by decide) ?_
          refine lv_iadd hx hb dX12_keeps_41 ?_
          refine lz_top (y := 16) (by decide) ?_
          refine lv_iload_n hx hb dX12_keeps_42 rfl (lv_at hl 0 rfl) ?_
          refine lv_iadd hx hb dX12_keeps_43 ?_
          refine lz_top (y := 19) (by decide) ?_
          refine lv_aload_n hx hb dX12_keeps_44 rfl (lv_at hl 2 rfl) ?_
          refine va_get (D := D) (ci := 12) (v := .ref h1) (C := RX12) (T := TX12) (N := 24) hx hb hts hin12 hown hK hP 0 rfl rfl 2 (by decide) (hts (.fieldLink RX12 13 "MissedPointsModel" "near" "[I") (by decide +kernel)) (fun _ h9 => h9) rfl dX12_keeps_45 ?_
          refine lv_iload_n hx hb dX12_keeps_48 rfl (lv_at hl 0 rfl) ?_
          refine va_iald hx hb hK hP 1 0 rfl rfl (lz_vp (x := 3) (n := 12) (by decide) (by decide)) dX12_keeps_49 ?_
          refine lz_top (y := 0) rfl ?_
          refine va_iast hx hb hK hP hD hS 2 0 rfl rfl (lz_vp (x := 19) (n := 28) (by decide) (by decide)) dX12_keeps_50 (fun H locs hP hD hS => ?_)
          have hP : va_P D cls [(h0, .inr (12, [.int 0, .int 1, .ref h1, .ref h2, .ref h3, .ref h4, .ref h5, .ref h6, .ref h7, .ref h8, .int 0, .int 0, .int 0, .int 0, .int 0, .int 0, .ref h9, .ref h10, .ref h11, .ref h12, .ref h13, .ref h14, .ref h15, .int 0])), (h1, .inl (cI, 12, .inl (fun _ => 0))), (h15, .inl (cI, 28, .inl (upd (upd (upd (upd (upd (fun _ => 0) 15 1) 16 0) 17 0) 18 0) 19 0)))] H := hP
          have hD : va_D A [(h0, .inr (12, [.int 0, .int 1, .ref h1, .ref h2, .ref h3, .ref h4, .ref h5, .ref h6, .ref h7, .ref h8, .int 0, .int 0, .int 0, .int 0, .int 0, .int 0, .ref h9, .ref h10, .ref h11, .ref h12, .ref h13, .ref h14, .ref h15, .int 0])), (h1, .inl (cI, 12, .inl (fun _ => 0))), (h15, .inl (cI, 28, .inl (upd (upd (upd (upd (upd (fun _ => 0) 15 1) 16 0) 17 0) 18 0) 19 0)))] := hD
          refine lv_iinc (v := 4) (lv' := [(3, .int 4), (2, .int 14), (0, .ref h0), (1, .int 1)]) hx hb dX12_keeps_51 hl (k := 0) rfl (by decide) (by decide) rfl (fun ls hl => ?_)
          refine lv_goto (tgt := 29) hx hb dX12_keeps_54 (by decide) ?_
          refine lv_iload_n hx hb dX12_keeps_29 rfl (lv_at hl 0 rfl) ?_
          refine lv_bipush (v := 12) hx hb dX12_keeps_30 (by decide) ?_
          refine lv_icmp_ge (tgt := 57) hx hb dX12_keeps_32 (by decide) (fun c5196 => ?_) (fun c5196 => ?_)
          · exact absurd c5196 (by decide)
          · refine lv_aload_n hx hb dX12_keeps_35 rfl (lv_at hl 2 rfl) ?_
            refine va_get (D := D) (ci := 12) (v := .ref h15) (C := RX12) (T := TX12) (N := 24) hx hb hts hin12 hown hK hP 0 rfl rfl 22 (by decide) (hts (.fieldLink RX12 56 "MissedPointsModel" "kept" "[I") (by decide +kernel)) (fun _ h9 => h9) rfl dX12_keeps_36 ?_
            refine lv_iload_n hx hb dX12_keeps_39 rfl (lv_at hl 1 rfl) ?_
            refine lv_iconst (v := 2) hx hb dX12_keeps_40 (by decide) ?_
            refine lv_iadd hx hb dX12_keeps_41 ?_
            refine lz_top (y := 16) (by decide) ?_
            refine lv_iload_n hx hb dX12_keeps_42 rfl (lv_at hl 0 rfl) ?_
            refine lv_iadd hx hb dX12_keeps_43 ?_
            refine lz_top (y := 20) (by decide) ?_
            refine lv_aload_n hx hb dX12_keeps_44 rfl (lv_at hl 2 rfl) ?_
            refine va_get (D := D) (ci := 12) (v := .ref h1) (C := RX12) (T := TX12) (N := 24) hx hb hts hin12 hown hK hP 0 rfl rfl 2 (by decide) (hts (.fieldLink RX12 13 "MissedPointsModel" "near" "[I") (by decide +kernel)) (fun _ h9 => h9) rfl dX12_keeps_45 ?_
            refine lv_iload_n hx hb dX12_keeps_48 rfl (lv_at hl 0 rfl) ?_
            refine va_iald hx hb hK hP 1 0 rfl rfl (lz_vp (x := 4) (n := 12) (by decide) (by decide)) dX12_keeps_49 ?_
            refine lz_top (y := 0) rfl ?_
            refine va_iast hx hb hK hP hD hS 2 0 rfl rfl (lz_vp (x := 20) (n := 28) (by decide) (by decide)) dX12_keeps_50 (fun H locs hP hD hS => ?_)
            have hP : va_P D cls [(h0, .inr (12, [.int 0, .int 1, .ref h1, .ref h2, .ref h3, .ref h4, .ref h5, .ref h6, .ref h7, .ref h8, .int 0, .int 0, .int 0, .int 0, .int 0, .int 0, .ref h9, .ref h10, .ref h11, .ref h12, .ref h13, .ref h14, .ref h15, .int 0])), (h1, .inl (cI, 12, .inl (fun _ => 0))), (h15, .inl (cI, 28, .inl (upd (upd (upd (upd (upd (upd (fun _ => 0) 15 1) 16 0) 17 0) 18 0) 19 0) 20 0)))] H := hP
            have hD : va_D A [(h0, .inr (12, [.int 0, .int 1, .ref h1, .ref h2, .ref h3, .ref h4, .ref h5, .ref h6, .ref h7, .ref h8, .int 0, .int 0, .int 0, .int 0, .int 0, .int 0, .ref h9, .ref h10, .ref h11, .ref h12, .ref h13, .ref h14, .ref h15, .int 0])), (h1, .inl (cI, 12, .inl (fun _ => 0))), (h15, .inl (cI, 28, .inl (upd (upd (upd (upd (upd (upd (fun _ => 0) 15 1) 16 0) 17 0) 18 0) 19 0) 20 0)))] := hD
            refine lv_iinc (v := 5) (lv' := [(3, .int 5), (2, .int 14), (0, .ref h0), (1, .int 1)]) hx hb dX12_keeps_51 hl (k := 0) rfl (by decide) (by decide) rfl (fun ls hl => ?_)
            refine lv_goto (tgt := 29) hx hb dX12_keeps_54 (by decide) ?_
            refine lv_iload_n hx hb dX12_keeps_29 rfl (lv_at hl 0 rfl) ?_
            refine lv_bipush (v := 12) hx hb dX12_keeps_30 (by decide) ?_
            refine lv_icmp_ge (tgt := 57) hx hb dX12_keeps_32 (by decide) (fun c5197 => ?_) (fun c5197 => ?_)
            · exact absurd c5197 (by decide)
            · refine lv_aload_n hx hb dX12_keeps_35 rfl (lv_at hl 2 rfl) ?_
              refine va_get (D := D) (ci := 12) (v := .ref h15) (C := RX12) (T := TX12) (N := 24) hx hb hts hin12 hown hK hP 0 rfl rfl 22 (by decide) (hts (.fieldLink RX12 56 "MissedPointsModel" "kept" "[I") (by decide +kernel)) (fun _ h9 => h9) rfl dX12_keeps_36 ?_
              refine lv_iload_n hx hb dX12_keeps_39 rfl (lv_at hl 1 rfl) ?_
              refine lv_iconst (v := 2) hx hb dX12_keeps_40 (by decide) ?_
              refine lv_iadd hx hb dX12_keeps_41 ?_
              refine lz_top (y := 16) (by decide) ?_
              refine lv_iload_n hx hb dX12_keeps_42 rfl (lv_at hl 0 rfl) ?_
              refine lv_iadd hx hb dX12_keeps_43 ?_
              refine lz_top (y := 21) (by decide) ?_
              refine lv_aload_n hx hb dX12_keeps_44 rfl (lv_at hl 2 rfl) ?_
              refine va_get (D := D) (ci := 12) (v := .ref h1) (C := RX12) (T := TX12) (N := 24) hx hb hts hin12 hown hK hP 0 rfl rfl 2 (by decide) (hts (.fieldLink RX12 13 "MissedPointsModel" "near" "[I") (by decide +kernel)) (fun _ h9 => h9) rfl dX12_keeps_45 ?_
              refine lv_iload_n hx hb dX12_keeps_48 rfl (lv_at hl 0 rfl) ?_
              refine va_iald hx hb hK hP 1 0 rfl rfl (lz_vp (x := 5) (n := 12) (by decide) (by decide)) dX12_keeps_49 ?_
              refine lz_top (y := 0) rfl ?_
              refine va_iast hx hb hK hP hD hS 2 0 rfl rfl (lz_vp (x := 21) (n := 28) (by decide) (by decide)) dX12_keeps_50 (fun H locs hP hD hS => ?_)
              have hP : va_P D cls [(h0, .inr (12, [.int 0, .int 1, .ref h1, .ref h2, .ref h3, .ref h4, .ref h5, .ref h6, .ref h7, .ref h8, .int 0, .int 0, .int 0, .int 0, .int 0, .int 0, .ref h9, .ref h10, .ref h11, .ref h12, .ref h13, .ref h14, .ref h15, .int 0])), (h1, .inl (cI, 12, .inl (fun _ => 0))), (h15, .inl (cI, 28, .inl (upd (upd (upd (upd (upd (upd (upd (fun _ => 0) 15 1) 16 0) 17 0) 18 0) 19 0) 20 0) 21 0)))] H := hP
              have hD : va_D A [(h0, .inr (12, [.int 0, .int 1, .ref h1, .ref h2, .ref h3, .ref h4, .ref h5, .ref h6, .ref h7, .ref h8, .int 0, .int 0, .int 0, .int 0, .int 0, .int 0, .ref h9, .ref h10, .ref h11, .ref h12, .ref h13, .ref h14, .ref h15, .int 0])), (h1, .inl (cI, 12, .inl (fun _ => 0))), (h15, .inl (cI, 28, .inl (upd (upd (upd (upd (upd (upd (upd (fun _ => 0) 15 1) 16 0) 17 0) 18 0) 19 0) 20 0) 21 0)))] := hD
              refine lv_iinc (v := 6) (lv' := [(3, .int 6), (2, .int 14), (0, .ref h0), (1, .int 1)]) hx hb dX12_keeps_51 hl (k := 0) rfl (by decide) (by decide) rfl (fun ls hl => ?_)
              refine lv_goto (tgt := 29) hx hb dX12_keeps_54 (by decide) ?_
              refine lv_iload_n hx hb dX12_keeps_29 rfl (lv_at hl 0 rfl) ?_
              refine lv_bipush (v := 12) hx hb dX12_keeps_30 (by decide) ?_
              refine lv_icmp_ge (tgt := 57) hx hb dX12_keeps_32 (by decide) (fun c5198 => ?_) (fun c5198 => ?_)
              · exact absurd c5198 (by decide)
              · refine lv_aload_n hx hb dX12_keeps_35 rfl (lv_at hl 2 rfl) ?_
                refine va_get (D := D) (ci := 12) (v := .ref h15) (C := RX12) (T := TX12) (N := 24) hx hb hts hin12 hown hK hP 0 rfl rfl 22 (by decide) (hts (.fieldLink RX12 56 "MissedPointsModel" "kept" "[I") (by decide +kernel)) (fun _ h9 => h9) rfl dX12_keeps_36 ?_
                refine lv_iload_n hx hb dX12_keeps_39 rfl (lv_at hl 1 rfl) ?_
                refine lv_iconst (v := 2) hx hb dX12_keeps_40 (by decide) ?_
                refine lv_iadd hx hb dX12_keeps_41 ?_
                refine lz_top (y := 16) (by decide) ?_
                refine lv_iload_n hx hb dX12_keeps_42 rfl (lv_at hl 0 rfl) ?_
                refine lv_iadd hx hb dX12_keeps_43 ?_
                refine lz_top (y := 22) (by decide) ?_
                refine lv_aload_n hx hb dX12_keeps_44 rfl (lv_at hl 2 rfl) ?_
                refine va_get (D := D) (ci := 12) (v := .ref h1) (C := RX12) (T := TX12) (N := 24) hx hb hts hin12 hown hK hP 0 rfl rfl 2 (by decide) (hts (.fieldLink RX12 13 "MissedPointsModel" "near" "[I") (by decide +kernel)) (fun _ h9 => h9) rfl dX12_keeps_45 ?_
                refine lv_iload_n hx hb dX12_keeps_48 rfl (lv_at hl 0 rfl) ?_
                refine va_iald hx hb hK hP 1 0 rfl rfl (lz_vp (x := 6) (n := 12) (by decide) (by decide)) dX12_keeps_49 ?_
                refine lz_top (y := 0) rfl ?_
                refine va_iast hx hb hK hP hD hS 2 0 rfl rfl (lz_vp (x := 22) (n := 28) (by decide) (by decide)) dX12_keeps_50 (fun H locs hP hD hS => ?_)
                have hP : va_P D cls [(h0, .inr (12, [.int 0, .int 1, .ref h1, .ref h2, .ref h3, .ref h4, .ref h5, .ref h6, .ref h7, .ref h8, .int 0, .int 0, .int 0, .int 0, .int 0, .int 0, .ref h9, .ref h10, .ref h11, .ref h12, .ref h13, .ref h14, .ref h15, .int 0])), (h1, .inl (cI, 12, .inl (fun _ => 0))), (h15, .inl (cI, 28, .inl (upd (upd (upd (upd (upd (upd (upd (upd (fun _ => 0) 15 1) 16 0) 17 0) 18 0) 19 0) 20 0) 21 0) 22 0)))] H := hP
                have hD : va_D A [(h0, .inr (12, [.int 0, .int 1, .ref h1, .ref h2, .ref h3, .ref h4, .ref h5, .ref h6, .ref h7, .ref h8, .int 0, .int 0, .int 0, .int 0, .int 0, .int 0, .ref h9, .ref h10, .ref h11, .ref h12, .ref h13, .ref h14, .ref h15, .int 0])), (h1, .inl (cI, 12, .inl (fun _ => 0))), (h15, .inl (cI, 28, .inl (upd (upd (upd (upd (upd (upd (upd (upd (fun _ => 0) 15 1) 16 0) 17 0) 18 0) 19 0) 20 0) 21 0) 22 0)))] := hD
                refine lv_iinc (v := 7) (lv' := [(3, .int 7), (2, .int 14), (0, .ref h0), (1, .int 1)]) hx hb dX12_keeps_51 hl (k := 0) rfl (by decide) (by decide) rfl (fun ls hl => ?_)
                refine lv_goto (tgt := 29) hx hb dX12_keeps_54 (by decide) ?_
                refine lv_iload_n hx hb dX12_keeps_29 rfl (lv_at hl 0 rfl) ?_
                refine lv_bipush (v := 12) hx hb dX12_keeps_30 (by decide) ?_
                refine lv_icmp_ge (tgt := 57) hx hb dX12_keeps_32 (by decide) (fun c5199 => ?_) (fun c5199 => ?_)
                · exact absurd c5199 (by decide)
                · refine lv_aload_n hx hb dX12_keeps_35 rfl (lv_at hl 2 rfl) ?_
                  refine va_get (D := D) (ci := 12) (v := .ref h15) (C := RX12) (T := TX12) (N := 24) hx hb hts hin12 hown hK hP 0 rfl rfl 22 (by decide) (hts (.fieldLink RX12 56 "MissedPointsModel" "kept" "[I") (by decide +kernel)) (fun _ h9 => h9) rfl dX12_keeps_36 ?_
                  refine lv_iload_n hx hb dX12_keeps_39 rfl (lv_at hl 1 rfl) ?_
                  refine lv_iconst (v := 2) hx hb dX12_keeps_40 (by decide) ?_
                  refine lv_iadd hx hb dX12_keeps_41 ?_
                  refine lz_top (y := 16) (by decide) ?_
                  refine lv_iload_n hx hb dX12_keeps_42 rfl (lv_at hl 0 rfl) ?_
                  refine lv_iadd hx hb dX12_keeps_43 ?_
                  refine lz_top (y := 23) (by decide) ?_
                  refine lv_aload_n hx hb dX12_keeps_44 rfl (lv_at hl 2 rfl) ?_
                  refine va_get (D := D) (ci := 12) (v := .ref h1) (C := RX12) (T := TX12) (N := 24) hx hb hts hin12 hown hK hP 0 rfl rfl 2 (by decide) (hts (.fieldLink RX12 13 "MissedPointsModel" "near" "[I") (by decide +kernel)) (fun _ h9 => h9) rfl dX12_keeps_45 ?_
                  refine lv_iload_n hx hb dX12_keeps_48 rfl (lv_at hl 0 rfl) ?_
                  refine va_iald hx hb hK hP 1 0 rfl rfl (lz_vp (x := 7) (n := 12) (by decide) (by decide)) dX12_keeps_49 ?_
                  refine lz_top (y := 0) rfl ?_
                  refine va_iast hx hb hK hP hD hS 2 0 rfl rfl (lz_vp (x := 23) (n := 28) (by decide) (by decide)) dX12_keeps_50 (fun H locs hP hD hS => ?_)
                  have hP : va_P D cls [(h0, .inr (12, [.int 0, .int 1, .ref h1, .ref h2, .ref h3, .ref h4, .ref h5, .ref h6, .ref h7, .ref h8, .int 0, .int 0, .int 0, .int 0, .int 0, .int 0, .ref h9, .ref h10, .ref h11, .ref h12, .ref h13, .ref h14, .ref h15, .int 0])), (h1, .inl (cI, 12, .inl (fun _ => 0))), (h15, .inl (cI, 28, .inl (upd (upd (upd (upd (upd (upd (upd (upd (upd (fun _ => 0) 15 1) 16 0) 17 0) 18 0) 19 0) 20 0) 21 0) 22 0) 23 0)))] H := hP
                  have hD : va_D A [(h0, .inr (12, [.int 0, .int 1, .ref h1, .ref h2, .ref h3, .ref h4, .ref h5, .ref h6, .ref h7, .ref h8, .int 0, .int 0, .int 0, .int 0, .int 0, .int 0, .ref h9, .ref h10, .ref h11, .ref h12, .ref h13, .ref h14, .ref h15, .int 0])), (h1, .inl (cI, 12, .inl (fun _ => 0))), (h15, .inl (cI, 28, .inl (upd (upd (upd (upd (upd (upd (upd (upd (upd (fun _ => 0) 15 1) 16 0) 17 0) 18 0) 19 0) 20 0) 21 0) 22 0) 23 0)))] := hD
                  refine lv_iinc (v := 8) (lv' := [(3, .int 8), (2, .int 14), (0, .ref h0), (1, .int 1)]) hx hb dX12_keeps_51 hl (k := 0) rfl (by decide) (by decide) rfl (fun ls hl => ?_)
                  refine lv_goto (tgt := 29) hx hb dX12_keeps_54 (by decide) ?_
                  refine lv_iload_n hx hb dX12_keeps_29 rfl (lv_at hl 0 rfl) ?_
                  refine lv_bipush (v := 12) hx hb dX12_keeps_30 (by decide) ?_
                  refine lv_icmp_ge (tgt := 57) hx hb dX12_keeps_32 (by decide) (fun c5200 => ?_) (fun c5200 => ?_)
                  · exact absurd c5200 (by decide)
                  · refine lv_aload_n hx hb dX12_keeps_35 rfl (lv_at hl 2 rfl) ?_
                    refine va_get (D := D) (ci := 12) (v := .ref h15) (C := RX12) (T := TX12) (N := 24) hx hb hts hin12 hown hK hP 0 rfl rfl 22 (by decide) (hts (.fieldLink RX12 56 "MissedPointsModel" "kept" "[I") (by decide +kernel)) (fun _ h9 => h9) rfl dX12_keeps_36 ?_
                    refine lv_iload_n hx hb dX12_keeps_39 rfl (lv_at hl 1 rfl) ?_
                    refine lv_iconst (v := 2) hx hb dX12_keeps_40 (by decide) ?_
                    refine lv_iadd hx hb dX12_keeps_41 ?_
                    refine lz_top (y := 16) (by decide) ?_
                    refine lv_iload_n hx hb dX12_keeps_42 rfl (lv_at hl 0 rfl) ?_
                    refine lv_iadd hx hb dX12_keeps_43 ?_
                    refine lz_top (y := 24) (by decide) ?_
                    refine lv_aload_n hx hb dX12_keeps_44 rfl (lv_at hl 2 rfl) ?_
                    refine va_get (D := D) (ci := 12) (v := .ref h1) (C := RX12) (T := TX12) (N := 24) hx hb hts hin12 hown hK hP 0 rfl rfl 2 (by decide) (hts (.fieldLink RX12 13 "MissedPointsModel" "near" "[I") (by decide +kernel)) (fun _ h9 => h9) rfl dX12_keeps_45 ?_
                    refine lv_iload_n hx hb dX12_keeps_48 rfl (lv_at hl 0 rfl) ?_
                    refine va_iald hx hb hK hP 1 0 rfl rfl (lz_vp (x := 8) (n := 12) (by decide) (by decide)) dX12_keeps_49 ?_
                    refine lz_top (y := 0) rfl ?_
                    refine va_iast hx hb hK hP hD hS 2 0 rfl rfl (lz_vp (x := 24) (n := 28) (by decide) (by decide)) dX12_keeps_50 (fun H locs hP hD hS => ?_)
                    have hP : va_P D cls [(h0, .inr (12, [.int 0, .int 1, .ref h1, .ref h2, .ref h3, .ref h4, .ref h5, .ref h6, .ref h7, .ref h8, .int 0, .int 0, .int 0, .int 0, .int 0, .int 0, .ref h9, .ref h10, .ref h11, .ref h12, .ref h13, .ref h14, .ref h15, .int 0])), (h1, .inl (cI, 12, .inl (fun _ => 0))), (h15, .inl (cI, 28, .inl (upd (upd (upd (upd (upd (upd (upd (upd (upd (upd (fun _ => 0) 15 1) 16 0) 17 0) 18 0) 19 0) 20 0) 21 0) 22 0) 23 0) 24 0)))] H := hP
                    have hD : va_D A [(h0, .inr (12, [.int 0, .int 1, .ref h1, .ref h2, .ref h3, .ref h4, .ref h5, .ref h6, .ref h7, .ref h8, .int 0, .int 0, .int 0, .int 0, .int 0, .int 0, .ref h9, .ref h10, .ref h11, .ref h12, .ref h13, .ref h14, .ref h15, .int 0])), (h1, .inl (cI, 12, .inl (fun _ => 0))), (h15, .inl (cI, 28, .inl (upd (upd (upd (upd (upd (upd (upd (upd (upd (upd (fun _ => 0) 15 1) 16 0) 17 0) 18 0) 19 0) 20 0) 21 0) 22 0) 23 0) 24 0)))] := hD
                    refine lv_iinc (v := 9) (lv' := [(3, .int 9), (2, .int 14), (0, .ref h0), (1, .int 1)]) hx hb dX12_keeps_51 hl (k := 0) rfl (by decide) (by decide) rfl (fun ls hl => ?_)
                    refine lv_goto (tgt := 29) hx hb dX12_keeps_54 (by decide) ?_
                    refine lv_iload_n hx hb dX12_keeps_29 rfl (lv_at hl 0 rfl) ?_
                    refine lv_bipush (v := 12) hx hb dX12_keeps_30 (by decide) ?_
                    refine lv_icmp_ge (tgt := 57) hx hb dX12_keeps_32 (by decide) (fun c5201 => ?_) (fun c5201 => ?_)
                    · exact absurd c5201 (by decide)
                    · refine lv_aload_n hx hb dX12_keeps_35 rfl (lv_at hl 2 rfl) ?_
                      refine va_get (D := D) (ci := 12) (v := .ref h15) (C := RX12) (T := TX12) (N := 24) hx hb hts hin12 hown hK hP 0 rfl rfl 22 (by decide) (hts (.fieldLink RX12 56 "MissedPointsModel" "kept" "[I") (by decide +kernel)) (fun _ h9 => h9) rfl dX12_keeps_36 ?_
                      refine lv_iload_n hx hb dX12_keeps_39 rfl (lv_at hl 1 rfl) ?_
                      refine lv_iconst (v := 2) hx hb dX12_keeps_40 (by decide) ?_
                      refine lv_iadd hx hb dX12_keeps_41 ?_
                      refine lz_top (y := 16) (by decide) ?_
                      refine lv_iload_n hx hb dX12_keeps_42 rfl (lv_at hl 0 rfl) ?_
                      refine lv_iadd hx hb dX12_keeps_43 ?_
                      refine lz_top (y := 25) (by decide) ?_
                      refine lv_aload_n hx hb dX12_keeps_44 rfl (lv_at hl 2 rfl) ?_
                      refine va_get (D := D) (ci := 12) (v := .ref h1) (C := RX12) (T := TX12) (N := 24) hx hb hts hin12 hown hK hP 0 rfl rfl 2 (by decide) (hts (.fieldLink RX12 13 "MissedPointsModel" "near" "[I") (by decide +kernel)) (fun _ h9 => h9) rfl dX12_keeps_45 ?_
                      refine lv_iload_n hx hb dX12_keeps_48 rfl (lv_at hl 0 rfl) ?_
                      refine va_iald hx hb hK hP 1 0 rfl rfl (lz_vp (x := 9) (n := 12) (by decide) (by decide)) dX12_keeps_49 ?_
                      refine lz_top (y := 0) rfl ?_
                      refine va_iast hx hb hK hP hD hS 2 0 rfl rfl (lz_vp (x := 25) (n := 28) (by decide) (by decide)) dX12_keeps_50 (fun H locs hP hD hS => ?_)
                      have hP : va_P D cls [(h0, .inr (12, [.int 0, .int 1, .ref h1, .ref h2, .ref h3, .ref h4, .ref h5, .ref h6, .ref h7, .ref h8, .int 0, .int 0, .int 0, .int 0, .int 0, .int 0, .ref h9, .ref h10, .ref h11, .ref h12, .ref h13, .ref h14, .ref h15, .int 0])), (h1, .inl (cI, 12, .inl (fun _ => 0))), (h15, .inl (cI, 28, .inl (upd (upd (upd (upd (upd (upd (upd (upd (upd (upd (upd (fun _ => 0) 15 1) 16 0) 17 0) 18 0) 19 0) 20 0) 21 0) 22 0) 23 0) 24 0) 25 0)))] H := hP
                      have hD : va_D A [(h0, .inr (12, [.int 0, .int 1, .ref h1, .ref h2, .ref h3, .ref h4, .ref h5, .ref h6, .ref h7, .ref h8, .int 0, .int 0, .int 0, .int 0, .int 0, .int 0, .ref h9, .ref h10, .ref h11, .ref h12, .ref h13, .ref h14, .ref h15, .int 0])), (h1, .inl (cI, 12, .inl (fun _ => 0))), (h15, .inl (cI, 28, .inl (upd (upd (upd (upd (upd (upd (upd (upd (upd (upd (upd (fun _ => 0) 15 1) 16 0) 17 0) 18 0) 19 0) 20 0) 21 0) 22 0) 23 0) 24 0) 25 0)))] := hD
                      refine lv_iinc (v := 10) (lv' := [(3, .int 10), (2, .int 14), (0, .ref h0), (1, .int 1)]) hx hb dX12_keeps_51 hl (k := 0) rfl (by decide) (by decide) rfl (fun ls hl => ?_)
                      refine lv_goto (tgt := 29) hx hb dX12_keeps_54 (by decide) ?_
                      refine lv_iload_n hx hb dX12_keeps_29 rfl (lv_at hl 0 rfl) ?_
                      refine lv_bipush (v := 12) hx hb dX12_keeps_30 (by decide) ?_
                      refine lv_icmp_ge (tgt := 57) hx hb dX12_keeps_32 (by decide) (fun c5202 => ?_) (fun c5202 => ?_)
                      · exact absurd c5202 (by decide)
                      · refine lv_aload_n hx hb dX12_keeps_35 rfl (lv_at hl 2 rfl) ?_
                        refine va_get (D := D) (ci := 12) (v := .ref h15) (C := RX12) (T := TX12) (N := 24) hx hb hts hin12 hown hK hP 0 rfl rfl 22 (by decide) (hts (.fieldLink RX12 56 "MissedPointsModel" "kept" "[I") (by decide +kernel)) (fun _ h9 => h9) rfl dX12_keeps_36 ?_
                        refine lv_iload_n hx hb dX12_keeps_39 rfl (lv_at hl 1 rfl) ?_
                        refine lv_iconst (v := 2) hx hb dX12_keeps_40 (by decide) ?_
                        refine lv_iadd hx hb dX12_keeps_41 ?_
                        refine lz_top (y := 16) (by decide) ?_
                        refine lv_iload_n hx hb dX12_keeps_42 rfl (lv_at hl 0 rfl) ?_
                        refine lv_iadd hx hb dX12_keeps_43 ?_
                        refine lz_top (y := 26) (by decide) ?_
                        refine lv_aload_n hx hb dX12_keeps_44 rfl (lv_at hl 2 rfl) ?_
                        refine va_get (D := D) (ci := 12) (v := .ref h1) (C := RX12) (T := TX12) (N := 24) hx hb hts hin12 hown hK hP 0 rfl rfl 2 (by decide) (hts (.fieldLink RX12 13 "MissedPointsModel" "near" "[I") (by decide +kernel)) (fun _ h9 => h9) rfl dX12_keeps_45 ?_
                        refine lv_iload_n hx hb dX12_keeps_48 rfl (lv_at hl 0 rfl) ?_
                        refine va_iald hx hb hK hP 1 0 rfl rfl (lz_vp (x := 10) (n := 12) (by decide) (by decide)) dX12_keeps_49 ?_
                        refine lz_top (y := 0) rfl ?_
                        refine va_iast hx hb hK hP hD hS 2 0 rfl rfl (lz_vp (x := 26) (n := 28) (by decide) (by decide)) dX12_keeps_50 (fun H locs hP hD hS => ?_)
                        have hP : va_P D cls [(h0, .inr (12, [.int 0, .int 1, .ref h1, .ref h2, .ref h3, .ref h4, .ref h5, .ref h6, .ref h7, .ref h8, .int 0, .int 0, .int 0, .int 0, .int 0, .int 0, .ref h9, .ref h10, .ref h11, .ref h12, .ref h13, .ref h14, .ref h15, .int 0])), (h1, .inl (cI, 12, .inl (fun _ => 0))), (h15, .inl (cI, 28, .inl (upd (upd (upd (upd (upd (upd (upd (upd (upd (upd (upd (upd (fun _ => 0) 15 1) 16 0) 17 0) 18 0) 19 0) 20 0) 21 0) 22 0) 23 0) 24 0) 25 0) 26 0)))] H := hP
                        have hD : va_D A [(h0, .inr (12, [.int 0, .int 1, .ref h1, .ref h2, .ref h3, .ref h4, .ref h5, .ref h6, .ref h7, .ref h8, .int 0, .int 0, .int 0, .int 0, .int 0, .int 0, .ref h9, .ref h10, .ref h11, .ref h12, .ref h13, .ref h14, .ref h15, .int 0])), (h1, .inl (cI, 12, .inl (fun _ => 0))), (h15, .inl (cI, 28, .inl (upd (upd (upd (upd (upd (upd (upd (upd (upd (upd (upd (upd (fun _ => 0) 15 1) 16 0) 17 0) 18 0) 19 0) 20 0) 21 0) 22 0) 23 0) 24 0) 25 0) 26 0)))] := hD
                        refine lv_iinc (v := 11) (lv' := [(3, .int 11), (2, .int 14), (0, .ref h0), (1, .int 1)]) hx hb dX12_keeps_51 hl (k := 0) rfl (by decide) (by decide) rfl (fun ls hl => ?_)
                        refine lv_goto (tgt := 29) hx hb dX12_keeps_54 (by decide) ?_
                        refine lv_iload_n hx hb dX12_keeps_29 rfl (lv_at hl 0 rfl) ?_
                        refine lv_bipush (v := 12) hx hb dX12_keeps_30 (by decide) ?_
                        refine lv_icmp_ge (tgt := 57) hx hb dX12_keeps_32 (by decide) (fun c5203 => ?_) (fun c5203 => ?_)
                        · exact absurd c5203 (by decide)
                        · refine lv_aload_n hx hb dX12_keeps_35 rfl (lv_at hl 2 rfl) ?_
                          refine va_get (D := D) (ci := 12) (v := .ref h15) (C := RX12) (T := TX12) (N := 24) hx hb hts hin12 hown hK hP 0 rfl rfl 22 (by decide) (hts (.fieldLink RX12 56 "MissedPointsModel" "kept" "[I") (by decide +kernel)) (fun _ h9 => h9) rfl dX12_keeps_36 ?_
                          refine lv_iload_n hx hb dX12_keeps_39 rfl (lv_at hl 1 rfl) ?_
                          refine lv_iconst (v := 2) hx hb dX12_keeps_40 (by decide) ?_
                          refine lv_iadd hx hb dX12_keeps_41 ?_
                          refine lz_top (y := 16) (by decide) ?_
                          refine lv_iload_n hx hb dX12_keeps_42 rfl (lv_at hl 0 rfl) ?_
                          refine lv_iadd hx hb dX12_keeps_43 ?_
                          refine lz_top (y := 27) (by decide) ?_
                          refine lv_aload_n hx hb dX12_keeps_44 rfl (lv_at hl 2 rfl) ?_
                          refine va_get (D := D) (ci := 12) (v := .ref h1) (C := RX12) (T := TX12) (N := 24) hx hb hts hin12 hown hK hP 0 rfl rfl 2 (by decide) (hts (.fieldLink RX12 13 "MissedPointsModel" "near" "[I") (by decide +kernel)) (fun _ h9 => h9) rfl dX12_keeps_45 ?_
                          refine lv_iload_n hx hb dX12_keeps_48 rfl (lv_at hl 0 rfl) ?_
                          refine va_iald hx hb hK hP 1 0 rfl rfl (lz_vp (x := 11) (n := 12) (by decide) (by decide)) dX12_keeps_49 ?_
                          refine lz_top (y := 0) rfl ?_
                          refine va_iast hx hb hK hP hD hS 2 0 rfl rfl (lz_vp (x := 27) (n := 28) (by decide) (by decide)) dX12_keeps_50 (fun H locs hP hD hS => ?_)
                          have hP : va_P D cls [(h0, .inr (12, [.int 0, .int 1, .ref h1, .ref h2, .ref h3, .ref h4, .ref h5, .ref h6, .ref h7, .ref h8, .int 0, .int 0, .int 0, .int 0, .int 0, .int 0, .ref h9, .ref h10, .ref h11, .ref h12, .ref h13, .ref h14, .ref h15, .int 0])), (h1, .inl (cI, 12, .inl (fun _ => 0))), (h15, .inl (cI, 28, .inl (upd (upd (upd (upd (upd (upd (upd (upd (upd (upd (upd (upd (upd (fun _ => 0) 15 1) 16 0) 17 0) 18 0) 19 0) 20 0) 21 0) 22 0) 23 0) 24 0) 25 0) 26 0) 27 0)))] H := hP
                          have hD : va_D A [(h0, .inr (12, [.int 0, .int 1, .ref h1, .ref h2, .ref h3, .ref h4, .ref h5, .ref h6, .ref h7, .ref h8, .int 0, .int 0, .int 0, .int 0, .int 0, .int 0, .ref h9, .ref h10, .ref h11, .ref h12, .ref h13, .ref h14, .ref h15, .int 0])), (h1, .inl (cI, 12, .inl (fun _ => 0))), (h15, .inl (cI, 28, .inl (upd (upd (upd (upd (upd (upd (upd (upd (upd (upd (upd (upd (upd (fun _ => 0) 15 1) 16 0) 17 0) 18 0) 19 0) 20 0) 21 0) 22 0) 23 0) 24 0) 25 0) 26 0) 27 0)))] := hD
                          refine lv_iinc (v := 12) (lv' := [(3, .int 12), (2, .int 14), (0, .ref h0), (1, .int 1)]) hx hb dX12_keeps_51 hl (k := 0) rfl (by decide) (by decide) rfl (fun ls hl => ?_)
                          refine lv_goto (tgt := 29) hx hb dX12_keeps_54 (by decide) ?_
                          refine lv_iload_n hx hb dX12_keeps_29 rfl (lv_at hl 0 rfl) ?_
                          refine lv_bipush (v := 12) hx hb dX12_keeps_30 (by decide) ?_
                          refine lv_icmp_ge (tgt := 57) hx hb dX12_keeps_32 (by decide) (fun c5204 => ?_) (fun c5204 => ?_)
                          · have hP9 := hP.sub (ws' := [(h0, .inr (12, [.int 0, .int 1, .ref h1, .ref h2, .ref h3, .ref h4, .ref h5, .ref h6, .ref h7, .ref h8, .int 0, .int 0, .int 0, .int 0, .int 0, .int 0, .ref h9, .ref h10, .ref h11, .ref h12, .ref h13, .ref h14, .ref h15, .int 0])), (h1, .inl (cI, 12, .inl (fun _ => 0))), (h15, .inl (cI, 28, .inl (upd (upd (upd (upd (upd (upd (upd (upd (upd (upd (upd (upd (upd (fun _ => 0) 15 1) 16 0) 17 0) 18 0) 19 0) 20 0) 21 0) 22 0) 23 0) 24 0) 25 0) 26 0) 27 0)))]) [0, 1, 2] rfl
                            have hD9 := hD.sub (ws' := [(h0, .inr (12, [.int 0, .int 1, .ref h1, .ref h2, .ref h3, .ref h4, .ref h5, .ref h6, .ref h7, .ref h8, .int 0, .int 0, .int 0, .int 0, .int 0, .int 0, .ref h9, .ref h10, .ref h11, .ref h12, .ref h13, .ref h14, .ref h15, .int 0])), (h1, .inl (cI, 12, .inl (fun _ => 0))), (h15, .inl (cI, 28, .inl (upd (upd (upd (upd (upd (upd (upd (upd (upd (upd (upd (upd (upd (fun _ => 0) 15 1) 16 0) 17 0) 18 0) 19 0) 20 0) 21 0) 22 0) 23 0) 24 0) 25 0) 26 0) 27 0)))]) [0, 1, 2] (by decide) rfl
                            subst hAe
                            exact W.vret hx hb hr (fun t ht hW => ⟨⟨(), rfl, trivial, by rw [ht]; exact hP9, hD9⟩, hS.F ht⟩) hS.2.2 dX12_keeps_57
                          · exact absurd c5204 (by decide)
set_option maxHeartbeats 4000000 in
set_option maxRecDepth 100000 in
theorem c_X12_putsBack_1 (l : Launch) (D : va_G) (cI cS : ClassId) (sz : Nat) (h0 h1 h2 h3 h4 h5 h6 h7 h8 h9 h10 h11 h12 h13 h14 h15 : Nat) (f0 : Nat → Int32) (x0 x1 : Int32) : Met l yX12_putsBack wsX12_putsBack ({ frames := 0, cells := 0, slots := 0, locals := 0 }) (PQ D cI cS [(h0, .inr (12, [.int x0, .int x1, .ref h1, .ref h2, .ref h3, .ref h4, .ref h5, .ref h6, .ref h7, .ref h8, .int 0, .int 0, .int 0, .int 0, .int 0, .int 0, .ref h9, .ref h10, .ref h11, .ref h12, .ref h13, .ref h14, .ref h15, .int 0])), (h1, .inl (cI, 12, .inl f0)), (h15, .inl (cI, 28, .inl (upd (upd (upd (upd (upd (upd (upd (upd (upd (upd (upd (upd (upd (fun _ => 0) 15 1) 16 0) 17 0) 18 0) 19 0) 20 0) 21 0) 22 0) 23 0) 24 0) 25 0) 26 0) 27 0)))] sz [.ref h0, .int 1]) (QV D [(h0, .inr (12, [.int x0, .int x1, .ref h1, .ref h2, .ref h3, .ref h4, .ref h5, .ref h6, .ref h7, .ref h8, .int 0, .int 0, .int 0, .int 0, .int 0, .int 0, .ref h9, .ref h10, .ref h11, .ref h12, .ref h13, .ref h14, .ref h15, .int 0])), (h1, .inl (cI, 12, .inl f0)), (h15, .inl (cI, 28, .inl (upd (upd (upd (upd (upd (upd (upd (upd (upd (upd (upd (upd (upd (fun _ => 0) 15 1) 16 0) 17 0) 18 0) 19 0) 20 0) 21 0) 22 0) 23 0) 24 0) 25 0) 26 0) 27 0)))] [(h0, .inr (12, [.int 0, .int 1, .ref h1, .ref h2, .ref h3, .ref h4, .ref h5, .ref h6, .ref h7, .ref h8, .int 0, .int 0, .int 0, .int 0, .int 0, .int 0, .ref h9, .ref h10, .ref h11, .ref h12, .ref h13, .ref h14, .ref h15, .int 0])), (h1, .inl (cI, 12, .inl (upd (upd (upd (upd (upd (upd (upd (upd (upd (upd (upd (upd f0 0 0) 1 0) 2 0) 3 0) 4 0) 5 0) 6 0) 7 0) 8 0) 9 0) 10 0) 11 0))), (h15, .inl (cI, 28, .inl (upd (upd (upd (upd (upd (upd (upd (upd (upd (upd (upd (upd (upd (fun _ => 0) 15 1) 16 0) 17 0) 18 0) 19 0) 20 0) 21 0) 22 0) 23 0) 24 0) 25 0) 26 0) 27 0)))] sz) 0 0 (va_A [(h0, .inr (12, [.int x0, .int x1, .ref h1, .ref h2, .ref h3, .ref h4, .ref h5, .ref h6, .ref h7, .ref h8, .int 0, .int 0, .int 0, .int 0, .int 0, .int 0, .ref h9, .ref h10, .ref h11, .ref h12, .ref h13, .ref h14, .ref h15, .int 0])), (h1, .inl (cI, 12, .inl f0)), (h15, .inl (cI, 28, .inl (upd (upd (upd (upd (upd (upd (upd (upd (upd (upd (upd (upd (upd (fun _ => 0) 15 1) 16 0) 17 0) 18 0) 19 0) 20 0) 21 0) 22 0) 23 0) 24 0) 25 0) 26 0) 27 0)))] sz) := by
  refine Met.ofW (cc := cX12_putsBack) (maxL := 4) (ret := none) (by decide) rfl ?_
  intro p e s m args below meth c s₁ B hml hv
  obtain ⟨rfl, hsz, hP, hKK, hD0⟩ := hv
  have hx := B.exec
  have hb := B.bytes
  have hr := B.returns
  have hts := atoms_spec (ws := wsX12_putsBack) B.pre
  have hown : s.vm.findClass RX12 = some m.cls := findClass_of_methodNamed B.named
  have hlocks := B.notSynchronized
  have hK := hKK.1
  have hN := hKK.2
  have hin12 : ∀ w ∈ wsX120, w ∈ wsX12_putsBack := by decide +kernel
  subst hsz
  have hD := hD0.self (sz := s.heap.size)
  obtain ⟨A, hAe⟩ : ∃ A, A = va_A [(h0, .inr (12, [.int x0, .int x1, .ref h1, .ref h2, .ref h3, .ref h4, .ref h5, .ref h6, .ref h7, .ref h8, .int 0, .int 0, .int 0, .int 0, .int 0, .int 0, .ref h9, .ref h10, .ref h11, .ref h12, .ref h13, .ref h14, .ref h15, .int 0])), (h1, .inl (cI, 12, .inl f0)), (h15, .inl (cI, 28, .inl (upd (upd (upd (upd (upd (upd (upd (upd (upd (upd (upd (upd (upd (fun _ => 0) 15 1) 16 0) 17 0) 18 0) 19 0) 20 0) 21 0) 22 0) 23 0) 24 0) 25 0) 26 0) 27 0)))] s.heap.size := ⟨_, rfl⟩
  rw [← hAe] at hD
  have hA : ∀ q : Nat, s.heap.size ≤ q → A q := fun q h => by rw [hAe]; exact Or.inr h
  have hS : va_S A s.heap s.heap [] := va_S.rf
  have hl := lv_entry ([.ref h0, .int 1]) (n := 4) (Nat.le_of_ble_eq_true rfl)
  rw [lg_entry_eq]
  generalize (lg_sl ([.ref h0, .int 1]) ++ List.replicate (4 - (lg_sl ([.ref h0, .int 1])).length) Slot.unset).toArray = ls at hl ⊢
  have hl : lv_has ls 4 [(0, .ref h0), (1, .int 1)] := hl
  refine lv_iload_n hx hb dX12_putsBack_0 rfl (lv_at hl 1 rfl) ?_
  refine lv_bipush (v := 14) hx hb dX12_putsBack_1 (by decide) ?_
  refine lv_imul hx hb dX12_putsBack_3 ?_
  refine lz_top (y := 14) (by decide) ?_
  refine lv_istore_n (lv' := [(2, .int 14), (0, .ref h0), (1, .int 1)]) hx hb dX12_putsBack_4 rfl hl (by decide) rfl (fun ls hl => ?_)
  refine lv_aload_n hx hb dX12_putsBack_5 rfl (lv_at hl 1 rfl) ?_
  refine lv_aload_n hx hb dX12_putsBack_6 rfl (lv_at hl 1 rfl) ?_
  refine va_get (D := D) (ci := 12) (v := .ref h15) (C := RX12) (T := TX12) (N := 24) hx hb hts hin12 hown hK hP 0 rfl rfl 22 (by decide) (hts (.fieldLink RX12 56 "MissedPointsModel" "kept" "[I") (by decide +kernel)) (fun _ h9 => h9) rfl dX12_putsBack_7 ?_
  refine lv_iload_n hx hb dX12_putsBack_10 rfl (lv_at hl 0 rfl) ?_
  refine va_iald hx hb hK hP 2 0 rfl rfl (lz_vp (x := 14) (n := 28) (by decide) (by decide)) dX12_putsBack_11 ?_
  refine lz_top (y := 0) (by simp [upd]; try rfl) ?_
  refine va_put (D := D) (ci := 12) (v := .int 0) (ty := .int) (C := RX12) (T := TX12) (N := 24) hx hb hts hin12 tyX12 tyX12_ok nmX12 hown hK hP hD hS 0 rfl rfl 0 (by decide) (hts (.fieldLink RX12 63 "MissedPointsModel" "many" "I") (by decide +kernel)) (fun _ h9 => h9) rfl (by decide +kernel) rfl rfl (Nat.le_of_ble_eq_true rfl) dX12_putsBack_12 (fun H locs hP hD hS => ?_)
  have hP : va_P D cls [(h0, .inr (12, [.int 0, .int x1, .ref h1, .ref h2, .ref h3, .ref h4, .ref h5, .ref h6, .ref h7, .ref h8, .int 0, .int 0, .int 0, .int 0, .int 0, .int 0, .ref h9, .ref h10, .ref h11, .ref h12, .ref h13, .ref h14, .ref h15, .int 0])), (h1, .inl (cI, 12, .inl f0)), (h15, .inl (cI, 28, .inl (upd (upd (upd (upd (upd (upd (upd (upd (upd (upd (upd (upd (upd (fun _ => 0) 15 1) 16 0) 17 0) 18 0) 19 0) 20 0) 21 0) 22 0) 23 0) 24 0) 25 0) 26 0) 27 0)))] H := hP
  have hD : va_D A [(h0, .inr (12, [.int 0, .int x1, .ref h1, .ref h2, .ref h3, .ref h4, .ref h5, .ref h6, .ref h7, .ref h8, .int 0, .int 0, .int 0, .int 0, .int 0, .int 0, .ref h9, .ref h10, .ref h11, .ref h12, .ref h13, .ref h14, .ref h15, .int 0])), (h1, .inl (cI, 12, .inl f0)), (h15, .inl (cI, 28, .inl (upd (upd (upd (upd (upd (upd (upd (upd (upd (upd (upd (upd (upd (fun _ => 0) 15 1) 16 0) 17 0) 18 0) 19 0) 20 0) 21 0) 22 0) 23 0) 24 0) 25 0) 26 0) 27 0)))] := hD
  refine lv_aload_n hx hb dX12_putsBack_15 rfl (lv_at hl 1 rfl) ?_
  refine lv_aload_n hx hb dX12_putsBack_16 rfl (lv_at hl 1 rfl) ?_
  refine va_get (D := D) (ci := 12) (v := .ref h15) (C := RX12) (T := TX12) (N := 24) hx hb hts hin12 hown hK hP 0 rfl rfl 22 (by decide) (hts (.fieldLink RX12 56 "MissedPointsModel" "kept" "[I") (by decide +kernel)) (fun _ h9 => h9) rfl dX12_putsBack_17 ?_
  refine lv_iload_n hx hb dX12_putsBack_20 rfl (lv_at hl 0 rfl) ?_
  refine lv_iconst (v := 1) hx hb dX12_putsBack_21 (by decide) ?_
  refine lv_iadd hx hb dX12_putsBack_22 ?_
  refine lz_top (y := 15) (by decide) ?_
  refine va_iald hx hb hK hP 2 0 rfl rfl (lz_vp (x := 15) (n := 28) (by decide) (by decide)) dX12_putsBack_23 ?_
  refine lz_top (y := 1) (by simp [upd]; try rfl) ?_
  refine va_put (D := D) (ci := 12) (v := .int 1) (ty := .int) (C := RX12) (T := TX12) (N := 24) hx hb hts hin12 tyX12 tyX12_ok nmX12 hown hK hP hD hS 0 rfl rfl 1 (by decide) (hts (.fieldLink RX12 7 "MissedPointsModel" "z" "I") (by decide +kernel)) (fun _ h9 => h9) rfl (by decide +kernel) rfl rfl (Nat.le_of_ble_eq_true rfl) dX12_putsBack_24 (fun H locs hP hD hS => ?_)
  have hP : va_P D cls [(h0, .inr (12, [.int 0, .int 1, .ref h1, .ref h2, .ref h3, .ref h4, .ref h5, .ref h6, .ref h7, .ref h8, .int 0, .int 0, .int 0, .int 0, .int 0, .int 0, .ref h9, .ref h10, .ref h11, .ref h12, .ref h13, .ref h14, .ref h15, .int 0])), (h1, .inl (cI, 12, .inl f0)), (h15, .inl (cI, 28, .inl (upd (upd (upd (upd (upd (upd (upd (upd (upd (upd (upd (upd (upd (fun _ => 0) 15 1) 16 0) 17 0) 18 0) 19 0) 20 0) 21 0) 22 0) 23 0) 24 0) 25 0) 26 0) 27 0)))] H := hP
  have hD : va_D A [(h0, .inr (12, [.int 0, .int 1, .ref h1, .ref h2, .ref h3, .ref h4, .ref h5, .ref h6, .ref h7, .ref h8, .int 0, .int 0, .int 0, .int 0, .int 0, .int 0, .ref h9, .ref h10, .ref h11, .ref h12, .ref h13, .ref h14, .ref h15, .int 0])), (h1, .inl (cI, 12, .inl f0)), (h15, .inl (cI, 28, .inl (upd (upd (upd (upd (upd (upd (upd (upd (upd (upd (upd (upd (upd (fun _ => 0) 15 1) 16 0) 17 0) 18 0) 19 0) 20 0) 21 0) 22 0) 23 0) 24 0) 25 0) 26 0) 27 0)))] := hD
  refine lv_iconst (v := 0) hx hb dX12_putsBack_27 (by decide) ?_
  refine lv_istore_n (lv' := [(3, .int 0), (2, .int 14), (0, .ref h0), (1, .int 1)]) hx hb dX12_putsBack_28 rfl hl (by decide) rfl (fun ls hl => ?_)
  refine lv_iload_n hx hb dX12_putsBack_29 rfl (lv_at hl 0 rfl) ?_
  refine lv_bipush (v := 12) hx hb dX12_putsBack_30 (by decide) ?_
  refine lv_icmp_ge (tgt := 57) hx hb dX12_putsBack_32 (by decide) (fun c5220 => ?_) (fun c5220 => ?_)
  · exact absurd c5220 (by decide)
  · refine lv_aload_n hx hb dX12_putsBack_35 rfl (lv_at hl 2 rfl) ?_
    refine va_get (D := D) (ci := 12) (v := .ref h1) (C := RX12) (T := TX12) (N := 24) hx hb hts hin12 hown hK hP 0 rfl rfl 2 (by decide) (hts (.fieldLink RX12 13 "MissedPointsModel" "near" "[I") (by decide +kernel)) (fun _ h9 => h9) rfl dX12_putsBack_36 ?_
    refine lv_iload_n hx hb dX12_putsBack_39 rfl (lv_at hl 0 rfl) ?_
    refine lv_aload_n hx hb dX12_putsBack_40 rfl (lv_at hl 2 rfl) ?_
    refine va_get (D := D) (ci := 12) (v := .ref h15) (C := RX12) (T := TX12) (N := 24) hx hb hts hin12 hown hK hP 0 rfl rfl 22 (by decide) (hts (.fieldLink RX12 56 "MissedPointsModel" "kept" "[I") (by decide +kernel)) (fun _ h9 => h9) rfl dX12_putsBack_41 ?_
    refine lv_iload_n hx hb dX12_putsBack_44 rfl (lv_at hl 1 rfl) ?_
    refine lv_iconst (v := 2) hx hb dX12_putsBack_45 (by decide) ?_
    refine lv_iadd hx hb dX12_putsBack_46 ?_
    refine lz_top (y := 16) (by decide) ?_
    refine lv_iload_n hx hb dX12_putsBack_47 rfl (lv_at hl 0 rfl) ?_
    refine lv_iadd hx hb dX12_putsBack_48 ?_
    refine lz_top (y := 16) (by decide) ?_
    refine va_iald hx hb hK hP 2 0 rfl rfl (lz_vp (x := 16) (n := 28) (by decide) (by decide)) dX12_putsBack_49 ?_
    refine lz_top (y := 0) (by simp [upd]; try rfl) ?_
    refine va_iast hx hb hK hP hD hS 1 0 rfl rfl (lz_vp (x := 0) (n := 12) (by decide) (by decide)) dX12_putsBack_50 (fun H locs hP hD hS => ?_)
    have hP : va_P D cls [(h0, .inr (12, [.int 0, .int 1, .ref h1, .ref h2, .ref h3, .ref h4, .ref h5, .ref h6, .ref h7, .ref h8, .int 0, .int 0, .int 0, .int 0, .int 0, .int 0, .ref h9, .ref h10, .ref h11, .ref h12, .ref h13, .ref h14, .ref h15, .int 0])), (h1, .inl (cI, 12, .inl (upd f0 0 0))), (h15, .inl (cI, 28, .inl (upd (upd (upd (upd (upd (upd (upd (upd (upd (upd (upd (upd (upd (fun _ => 0) 15 1) 16 0) 17 0) 18 0) 19 0) 20 0) 21 0) 22 0) 23 0) 24 0) 25 0) 26 0) 27 0)))] H := hP
    have hD : va_D A [(h0, .inr (12, [.int 0, .int 1, .ref h1, .ref h2, .ref h3, .ref h4, .ref h5, .ref h6, .ref h7, .ref h8, .int 0, .int 0, .int 0, .int 0, .int 0, .int 0, .ref h9, .ref h10, .ref h11, .ref h12, .ref h13, .ref h14, .ref h15, .int 0])), (h1, .inl (cI, 12, .inl (upd f0 0 0))), (h15, .inl (cI, 28, .inl (upd (upd (upd (upd (upd (upd (upd (upd (upd (upd (upd (upd (upd (fun _ => 0) 15 1) 16 0) 17 0) 18 0) 19 0) 20 0) 21 0) 22 0) 23 0) 24 0) 25 0) 26 0) 27 0)))] := hD
    refine lv_iinc (v := 1) (lv' := [(3, .int 1), (2, .int 14), (0, .ref h0), (1, .int 1)]) hx hb dX12_putsBack_51 hl (k := 0) rfl (by decide) (by decide) rfl (fun ls hl => ?_)
    refine lv_goto (tgt := 29) hx hb dX12_putsBack_54 (by decide) ?_
    refine lv_iload_n hx hb dX12_putsBack_29 rfl (lv_at hl 0 rfl) ?_
    refine lv_bipush (v := 12) hx hb dX12_putsBack_30 (by decide) ?_
    refine lv_icmp_ge (tgt := 57) hx hb dX12_putsBack_32 (by decide) (fun c5221 => ?_) (fun c5221 => ?_)
    · exact absurd c5221 (by decide)
    · refine lv_aload_n hx hb dX12_putsBack_35 rfl (lv_at hl 2 rfl) ?_
      refine va_get (D := D) (ci := 12) (v := .ref h1) (C := RX12) (T := TX12) (N := 24) hx hb hts hin12 hown hK hP 0 rfl rfl 2 (by decide) (hts (.fieldLink RX12 13 "MissedPointsModel" "near" "[I") (by decide +kernel)) (fun _ h9 => h9) rfl dX12_putsBack_36 ?_
      refine lv_iload_n hx hb dX12_putsBack_39 rfl (lv_at hl 0 rfl) ?_
      refine lv_aload_n hx hb dX12_putsBack_40 rfl (lv_at hl 2 rfl) ?_
      refine va_get (D := D) (ci := 12) (v := .ref h15) (C := RX12) (T := TX12) (N := 24) hx hb hts hin12 hown hK hP 0 rfl rfl 22 (by decide) (hts (.fieldLink RX12 56 "MissedPointsModel" "kept" "[I") (by decide +kernel)) (fun _ h9 => h9) rfl dX12_putsBack_41 ?_
      refine lv_iload_n hx hb dX12_putsBack_44 rfl (lv_at hl 1 rfl) ?_
      refine lv_iconst (v := 2) hx hb dX12_putsBack_45 (by decide) ?_
      refine lv_iadd hx hb dX12_putsBack_46 ?_
      refine lz_top (y := 16) (by decide) ?_
      refine lv_iload_n hx hb dX12_putsBack_47 rfl (lv_at hl 0 rfl) ?_
      refine lv_iadd hx hb dX12_putsBack_48 ?_
      refine lz_top (y := 17) (by decide) ?_
      refine va_iald hx hb hK hP 2 0 rfl rfl (lz_vp (x := 17) (n := 28) (by decide) (by decide)) dX12_putsBack_49 ?_
      refine lz_top (y := 0) (by simp [upd]; try rfl) ?_
      refine va_iast hx hb hK hP hD hS 1 0 rfl rfl (lz_vp (x := 1) (n := 12) (by decide) (by decide)) dX12_putsBack_50 (fun H locs hP hD hS => ?_)
      have hP : va_P D cls [(h0, .inr (12, [.int 0, .int 1, .ref h1, .ref h2, .ref h3, .ref h4, .ref h5, .ref h6, .ref h7, .ref h8, .int 0, .int 0, .int 0, .int 0, .int 0, .int 0, .ref h9, .ref h10, .ref h11, .ref h12, .ref h13, .ref h14, .ref h15, .int 0])), (h1, .inl (cI, 12, .inl (upd (upd f0 0 0) 1 0))), (h15, .inl (cI, 28, .inl (upd (upd (upd (upd (upd (upd (upd (upd (upd (upd (upd (upd (upd (fun _ => 0) 15 1) 16 0) 17 0) 18 0) 19 0) 20 0) 21 0) 22 0) 23 0) 24 0) 25 0) 26 0) 27 0)))] H := hP
      have hD : va_D A [(h0, .inr (12, [.int 0, .int 1, .ref h1, .ref h2, .ref h3, .ref h4, .ref h5, .ref h6, .ref h7, .ref h8, .int 0, .int 0, .int 0, .int 0, .int 0, .int 0, .ref h9, .ref h10, .ref h11, .ref h12, .ref h13, .ref h14, .ref h15, .int 0])), (h1, .inl (cI, 12, .inl (upd (upd f0 0 0) 1 0))), (h15, .inl (cI, 28, .inl (upd (upd (upd (upd (upd (upd (upd (upd (upd (upd (upd (upd (upd (fun _ => 0) 15 1) 16 0) 17 0) 18 0) 19 0) 20 0) 21 0) 22 0) 23 0) 24 0) 25 0) 26 0) 27 0)))] := hD
      refine lv_iinc (v := 2) (lv' := [(3, .int 2), (2, .int 14), (0, .ref h0), (1, .int 1)]) hx hb dX12_putsBack_51 hl (k := 0) rfl (by decide) (by decide) rfl (fun ls hl => ?_)
      refine lv_goto (tgt := 29) hx hb dX12_putsBack_54 (by decide) ?_
      refine lv_iload_n hx hb dX12_putsBack_29 rfl (lv_at hl 0 rfl) ?_
      refine lv_bipush (v := 12) hx hb dX12_putsBack_30 (by decide) ?_
      refine lv_icmp_ge (tgt := 57) hx hb dX12_putsBack_32 (by decide) (fun c5222 => ?_) (fun c5222 => ?_)
      · exact absurd c5222 (by decide)
      · refine lv_aload_n hx hb dX12_putsBack_35 rfl (lv_at hl 2 rfl) ?_
        refine va_get (D := D) (ci := 12) (v := .ref h1) (C := RX12) (T := TX12) (N := 24) hx hb hts hin12 hown hK hP 0 rfl rfl 2 (by decide) (hts (.fieldLink RX12 13 "MissedPointsModel" "near" "[I") (by decide +kernel)) (fun _ h9 => h9) rfl dX12_putsBack_36 ?_
        refine lv_iload_n hx hb dX12_putsBack_39 rfl (lv_at hl 0 rfl) ?_
        refine lv_aload_n hx hb dX12_putsBack_40 rfl (lv_at hl 2 rfl) ?_
        refine va_get (D := D) (ci := 12) (v := .ref h15) (C := RX12) (T := TX12) (N := 24) hx hb hts hin12 hown hK hP 0 rfl rfl 22 (by decide) (hts (.fieldLink RX12 56 "MissedPointsModel" "kept" "[I") (by decide +kernel)) (fun _ h9 => h9) rfl dX12_putsBack_41 ?_
        refine lv_iload_n hx hb dX12_putsBack_44 rfl (lv_at hl 1 rfl) ?_
        refine lv_iconst (v := 2) hx hb dX12_putsBack_45 (by decide) ?_
        refine lv_iadd hx hb dX12_putsBack_46 ?_
        refine lz_top (y := 16) (by decide) ?_
        refine lv_iload_n hx hb dX12_putsBack_47 rfl (lv_at hl 0 rfl) ?_
        refine lv_iadd hx hb dX12_putsBack_48 ?_
        refine lz_top (y := 18) (by decide) ?_
        refine va_iald hx hb hK hP 2 0 rfl rfl (lz_vp (x := 18) (n := 28) (by decide) (by decide)) dX12_putsBack_49 ?_
        refine lz_top (y := 0) (by simp [upd]; try rfl) ?_
        refine va_iast hx hb hK hP hD hS 1 0 rfl rfl (lz_vp (x := 2) (n := 12) (by decide) (by decide)) dX12_putsBack_50 (fun H locs hP hD hS => ?_)
        have hP : va_P D cls [(h0, .inr (12, [.int 0, .int 1, .ref h1, .ref h2, .ref h3, .ref h4, .ref h5, .ref h6, .ref h7, .ref h8, .int 0, .int 0, .int 0, .int 0, .int 0, .int 0, .ref h9, .ref h10, .ref h11, .ref h12, .ref h13, .ref h14, .ref h15, .int 0])), (h1, .inl (cI, 12, .inl (upd (upd (upd f0 0 0) 1 0) 2 0))), (h15, .inl (cI, 28, .inl (upd (upd (upd (upd (upd (upd (upd (upd (upd (upd (upd (upd (upd (fun _ => 0) 15 1) 16 0) 17 0) 18 0) 19 0) 20 0) 21 0) 22 0) 23 0) 24 0) 25 0) 26 0) 27 0)))] H := hP
        have hD : va_D A [(h0, .inr (12, [.int 0, .int 1, .ref h1, .ref h2, .ref h3, .ref h4, .ref h5, .ref h6, .ref h7, .ref h8, .int 0, .int 0, .int 0, .int 0, .int 0, .int 0, .ref h9, .ref h10, .ref h11, .ref h12, .ref h13, .ref h14, .ref h15, .int 0])), (h1, .inl (cI, 12, .inl (upd (upd (upd f0 0 0) 1 0) 2 0))), (h15, .inl (cI, 28, .inl (upd (upd (upd (upd (upd (upd (upd (upd (upd (upd (upd (upd (upd (fun _ => 0) 15 1) 16 0) 17 0) 18 0) 19 0) 20 0) 21 0) 22 0) 23 0) 24 0) 25 0) 26 0) 27 0)))] := hD
        refine lv_iinc (v := 3) (lv' := [(3, .int 3), (2, .int 14), (0, .ref h0), (1, .int 1)]) hx hb dX12_putsBack_51 hl (k := 0) rfl (by decide) (by decide) rfl (fun ls hl => ?_)
        refine lv_goto (tgt := 29) hx hb dX12_putsBack_54 (by decide) ?_
        refine lv_iload_n hx hb dX12_putsBack_29 rfl (lv_at hl 0 rfl) ?_
        refine lv_bipush (v := 12) hx hb dX12_putsBack_30 (by decide) ?_
        refine lv_icmp_ge (tgt := 57) hx hb dX12_putsBack_32 (by decide) (fun c5223 => ?_) (fun c5223 => ?_)
        · exact absurd c5223 (by decide)
        · refine lv_aload_n hx hb dX12_putsBack_35 rfl (lv_at hl 2 rfl) ?_
          refine va_get (D := D) (ci := 12) (v := .ref h1) (C := RX12) (T := TX12) (N := 24) hx hb hts hin12 hown hK hP 0 rfl rfl 2 (by decide) (hts (.fieldLink RX12 13 "MissedPointsModel" "near" "[I") (by decide +kernel)) (fun _ h9 => h9) rfl dX12_putsBack_36 ?_
          refine lv_iload_n hx hb dX12_putsBack_39 rfl (lv_at hl 0 rfl) ?_
          refine lv_aload_n hx hb dX12_putsBack_40 rfl (lv_at hl 2 rfl) ?_
          refine va_get (D := D) (ci := 12) (v := .ref h15) (C := RX12) (T := TX12) (N := 24) hx hb hts hin12 hown hK hP 0 rfl rfl 22 (by decide) (hts (.fieldLink RX12 56 "MissedPointsModel" "kept" "[I") (by decide +kernel)) (fun _ h9 => h9) rfl dX12_putsBack_41 ?_
          refine lv_iload_n hx hb dX12_putsBack_44 rfl (lv_at hl 1 rfl) ?_
          refine lv_iconst (v := 2) hx hb dX12_putsBack_45 (by decide) ?_
          refine lv_iadd hx hb dX12_putsBack_46 ?_
          refine lz_top (y := 16) (by decide) ?_
          refine lv_iload_n hx hb dX12_putsBack_47 rfl (lv_at hl 0 rfl) ?_
          refine lv_iadd hx hb dX12_putsBack_48 ?_
          refine lz_top (y := 19) (by decide) ?_
          refine va_iald hx hb hK hP 2 0 rfl rfl (lz_vp (x := 19) (n := 28) (by decide) (by decide)) dX12_putsBack_49 ?_
          refine lz_top (y := 0) (by simp [upd]; try rfl) ?_
          refine va_iast hx hb hK hP hD hS 1 0 rfl rfl (lz_vp (x := 3) (n := 12) (by decide) (by decide)) dX12_putsBack_50 (fun H locs hP hD hS => ?_)
          have hP : va_P D cls [(h0, .inr (12, [.int 0, .int 1, .ref h1, .ref h2, .ref h3, .ref h4, .ref h5, .ref h6, .ref h7, .ref h8, .int 0, .int 0, .int 0, .int 0, .int 0, .int 0, .ref h9, .ref h10, .ref h11, .ref h12, .ref h13, .ref h14, .ref h15, .int 0])), (h1, .inl (cI, 12, .inl (upd (upd (upd (upd f0 0 0) 1 0) 2 0) 3 0))), (h15, .inl (cI, 28, .inl (upd (upd (upd (upd (upd (upd (upd (upd (upd (upd (upd (upd (upd (fun _ => 0) 15 1) 16 0) 17 0) 18 0) 19 0) 20 0) 21 0) 22 0) 23 0) 24 0) 25 0) 26 0) 27 0)))] H := hP
          have hD : va_D A [(h0, .inr (12, [.int 0, .int 1, .ref h1, .ref h2, .ref h3, .ref h4, .ref h5, .ref h6, .ref h7, .ref h8, .int 0, .int 0, .int 0, .int 0, .int 0, .int 0, .ref h9, .ref h10, .ref h11, .ref h12, .ref h13, .ref h14, .ref h15, .int 0])), (h1, .inl (cI, 12, .inl (upd (upd (upd (upd f0 0 0) 1 0) 2 0) 3 0))), (h15, .inl (cI, 28, .inl (upd (upd (upd (upd (upd (upd (upd (upd (upd (upd (upd (upd (upd (fun _ => 0) 15 1) 16 0) 17 0) 18 0) 19 0) 20 0) 21 0) 22 0) 23 0) 24 0) 25 0) 26 0) 27 0)))] := hD
          refine lv_iinc (v := 4) (lv' := [(3, .int 4), (2, .int 14), (0, .ref h0), (1, .int 1)]) hx hb dX12_putsBack_51 hl (k := 0) rfl (by decide) (by decide) rfl (fun ls hl => ?_)
          refine lv_goto (tgt := 29) hx hb dX12_putsBack_54 (by decide) ?_
          refine lv_iload_n hx hb dX12_putsBack_29 rfl (lv_at hl 0 rfl) ?_
          refine lv_bipush (v := 12) hx hb dX12_putsBack_30 (by decide) ?_
          refine lv_icmp_ge (tgt := 57) hx hb dX12_putsBack_32 (by decide) (fun c5224 => ?_) (fun c5224 => ?_)
          · exact absurd c5224 (by decide)
          · refine lv_aload_n hx hb dX12_putsBack_35 rfl (lv_at hl 2 rfl) ?_
            refine va_get (D := D) (ci := 12) (v := .ref h1) (C := RX12) (T := TX12) (N := 24) hx hb hts hin12 hown hK hP 0 rfl rfl 2 (by decide) (hts (.fieldLink RX12 13 "MissedPointsModel" "near" "[I") (by decide +kernel)) (fun _ h9 => h9) rfl dX12_putsBack_36 ?_
            refine lv_iload_n hx hb dX12_putsBack_39 rfl (lv_at hl 0 rfl) ?_
            refine lv_aload_n hx hb dX12_putsBack_40 rfl (lv_at hl 2 rfl) ?_
            refine va_get (D := D) (ci := 12) (v := .ref h15) (C := RX12) (T := TX12) (N := 24) hx hb hts hin12 hown hK hP 0 rfl rfl 22 (by decide) (hts (.fieldLink RX12 56 "MissedPointsModel" "kept" "[I") (by decide +kernel)) (fun _ h9 => h9) rfl dX12_putsBack_41 ?_
            refine lv_iload_n hx hb dX12_putsBack_44 rfl (lv_at hl 1 rfl) ?_
            refine lv_iconst (v := 2) hx hb dX12_putsBack_45 (by decide) ?_
            refine lv_iadd hx hb dX12_putsBack_46 ?_
            refine lz_top (y := 16) (by decide) ?_
            refine lv_iload_n hx hb dX12_putsBack_47 rfl (lv_at hl 0 rfl) ?_
            refine lv_iadd hx hb dX12_putsBack_48 ?_
            refine lz_top (y := 20) (by decide) ?_
            refine va_iald hx hb hK hP 2 0 rfl rfl (lz_vp (x := 20) (n := 28) (by decide) (by decide)) dX12_putsBack_49 ?_
            refine lz_top (y := 0) (by simp [upd]; try rfl) ?_
            refine va_iast hx hb hK hP hD hS 1 0 rfl rfl (lz_vp (x := 4) (n := 12) (by decide) (by decide)) dX12_putsBack_50 (fun H locs hP hD hS => ?_)
            have hP : va_P D cls [(h0, .inr (12, [.int 0, .int 1, .ref h1, .ref h2, .ref h3, .ref h4, .ref h5, .ref h6, .ref h7, .ref h8, .int 0, .int 0, .int 0, .int 0, .int 0, .int 0, .ref h9, .ref h10, .ref h11, .ref h12, .ref h13, .ref h14, .ref h15, .int 0])), (h1, .inl (cI, 12, .inl (upd (upd (upd (upd (upd f0 0 0) 1 0) 2 0) 3 0) 4 0))), (h15, .inl (cI, 28, .inl (upd (upd (upd (upd (upd (upd (upd (upd (upd (upd (upd (upd (upd (fun _ => 0) 15 1) 16 0) 17 0) 18 0) 19 0) 20 0) 21 0) 22 0) 23 0) 24 0) 25 0) 26 0) 27 0)))] H := hP
            have hD : va_D A [(h0, .inr (12, [.int 0, .int 1, .ref h1, .ref h2, .ref h3, .ref h4, .ref h5, .ref h6, .ref h7, .ref h8, .int 0, .int 0, .int 0, .int 0, .int 0, .int 0, .ref h9, .ref h10, .ref h11, .ref h12, .ref h13, .ref h14, .ref h15, .int 0])), (h1, .inl (cI, 12, .inl (upd (upd (upd (upd (upd f0 0 0) 1 0) 2 0) 3 0) 4 0))), (h15, .inl (cI, 28, .inl (upd (upd (upd (upd (upd (upd (upd (upd (upd (upd (upd (upd (upd (fun _ => 0) 15 1) 16 0) 17 0) 18 0) 19 0) 20 0) 21 0) 22 0) 23 0) 24 0) 25 0) 26 0) 27 0)))] := hD
            refine lv_iinc (v := 5) (lv' := [(3, .int 5), (2, .int 14), (0, .ref h0), (1, .int 1)]) hx hb dX12_putsBack_51 hl (k := 0) rfl (by decide) (by decide) rfl (fun ls hl => ?_)
            refine lv_goto (tgt := 29) hx hb dX12_putsBack_54 (by decide) ?_
            refine lv_iload_n hx hb dX12_putsBack_29 rfl (lv_at hl 0 rfl) ?_
            refine lv_bipush (v := 12) hx hb dX12_putsBack_30 (by decide) ?_
            refine lv_icmp_ge (tgt := 57) hx hb dX12_putsBack_32 (by decide) (fun c5225 => ?_) (fun c5225 => ?_)
            · exact absurd c5225 (by decide)
            · refine lv_aload_n hx hb dX12_putsBack_35 rfl (lv_at hl 2 rfl) ?_
              refine va_get (D := D) (ci := 12) (v := .ref h1) (C := RX12) (T := TX12) (N := 24) hx hb hts hin12 hown hK hP 0 rfl rfl 2 (by decide) (hts (.fieldLink RX12 13 "MissedPointsModel" "near" "[I") (by decide +kernel)) (fun _ h9 => h9) rfl dX12_putsBack_36 ?_
              refine lv_iload_n hx hb dX12_putsBack_39 rfl (lv_at hl 0 rfl) ?_
              refine lv_aload_n hx hb dX12_putsBack_40 rfl (lv_at hl 2 rfl) ?_
              refine va_get (D := D) (ci := 12) (v := .ref h15) (C := RX12) (T := TX12) (N := 24) hx hb hts hin12 hown hK hP 0 rfl rfl 22 (by decide) (hts (.fieldLink RX12 56 "MissedPointsModel" "kept" "[I") (by decide +kernel)) (fun _ h9 => h9) rfl dX12_putsBack_41 ?_
              refine lv_iload_n hx hb dX12_putsBack_44 rfl (lv_at hl 1 rfl) ?_
              refine lv_iconst (v := 2) hx hb dX12_putsBack_45 (by decide) ?_
              refine lv_iadd hx hb dX12_putsBack_46 ?_
              refine lz_top (y := 16) (by decide) ?_
              refine lv_iload_n hx hb dX12_putsBack_47 rfl (lv_at hl 0 rfl) ?_
              refine lv_iadd hx hb dX12_putsBack_48 ?_
              refine lz_top (y := 21) (by decide) ?_
              refine va_iald hx hb hK hP 2 0 rfl rfl (lz_vp (x := 21) (n := 28) (by decide) (by decide)) dX12_putsBack_49 ?_
              refine lz_top (y := 0) (by simp [upd]; try rfl) ?_
              refine va_iast hx hb hK hP hD hS 1 0 rfl rfl (lz_vp (x := 5) (n := 12) (by decide) (by decide)) dX12_putsBack_50 (fun H locs hP hD hS => ?_)
              have hP : va_P D cls [(h0, .inr (12, [.int 0, .int 1, .ref h1, .ref h2, .ref h3, .ref h4, .ref h5, .ref h6, .ref h7, .ref h8, .int 0, .int 0, .int 0, .int 0, .int 0, .int 0, .ref h9, .ref h10, .ref h11, .ref h12, .ref h13, .ref h14, .ref h15, .int 0])), (h1, .inl (cI, 12, .inl (upd (upd (upd (upd (upd (upd f0 0 0) 1 0) 2 0) 3 0) 4 0) 5 0))), (h15, .inl (cI, 28, .inl (upd (upd (upd (upd (upd (upd (upd (upd (upd (upd (upd (upd (upd (fun _ => 0) 15 1) 16 0) 17 0) 18 0) 19 0) 20 0) 21 0) 22 0) 23 0) 24 0) 25 0) 26 0) 27 0)))] H := hP
              have hD : va_D A [(h0, .inr (12, [.int 0, .int 1, .ref h1, .ref h2, .ref h3, .ref h4, .ref h5, .ref h6, .ref h7, .ref h8, .int 0, .int 0, .int 0, .int 0, .int 0, .int 0, .ref h9, .ref h10, .ref h11, .ref h12, .ref h13, .ref h14, .ref h15, .int 0])), (h1, .inl (cI, 12, .inl (upd (upd (upd (upd (upd (upd f0 0 0) 1 0) 2 0) 3 0) 4 0) 5 0))), (h15, .inl (cI, 28, .inl (upd (upd (upd (upd (upd (upd (upd (upd (upd (upd (upd (upd (upd (fun _ => 0) 15 1) 16 0) 17 0) 18 0) 19 0) 20 0) 21 0) 22 0) 23 0) 24 0) 25 0) 26 0) 27 0)))] := hD
              refine lv_iinc (v := 6) (lv' := [(3, .int 6), (2, .int 14), (0, .ref h0), (1, .int 1)]) hx hb dX12_putsBack_51 hl (k := 0) rfl (by decide) (by decide) rfl (fun ls hl => ?_)
              refine lv_goto (tgt := 29) hx hb dX12_putsBack_54 (by decide) ?_
              refine lv_iload_n hx hb dX12_putsBack_29 rfl (lv_at hl 0 rfl) ?_
              refine lv_bipush (v := 12) hx hb dX12_putsBack_30 (by decide) ?_
              refine lv_icmp_ge (tgt := 57) hx hb dX12_putsBack_32 (by decide) (fun c5226 => ?_) (fun c5226 => ?_)
              · exact absurd c5226 (by decide)
              · refine lv_aload_n hx hb dX12_putsBack_35 rfl (lv_at hl 2 rfl) ?_
                refine va_get (D := D) (ci := 12) (v := .ref h1) (C := RX12) (T := TX12) (N := 24) hx hb hts hin12 hown hK hP 0 rfl rfl 2 (by decide) (hts (.fieldLink RX12 13 "MissedPointsModel" "near" "[I") (by decide +kernel)) (fun _ h9 => h9) rfl dX12_putsBack_36 ?_
                refine lv_iload_n hx hb dX12_putsBack_39 rfl (lv_at hl 0 rfl) ?_
                refine lv_aload_n hx hb dX12_putsBack_40 rfl (lv_at hl 2 rfl) ?_
                refine va_get (D := D) (ci := 12) (v := .ref h15) (C := RX12) (T := TX12) (N := 24) hx hb hts hin12 hown hK hP 0 rfl rfl 22 (by decide) (hts (.fieldLink RX12 56 "MissedPointsModel" "kept" "[I") (by decide +kernel)) (fun _ h9 => h9) rfl dX12_putsBack_41 ?_
                refine lv_iload_n hx hb dX12_putsBack_44 rfl (lv_at hl 1 rfl) ?_
                refine lv_iconst (v := 2) hx hb dX12_putsBack_45 (by decide) ?_
                refine lv_iadd hx hb dX12_putsBack_46 ?_
                refine lz_top (y := 16) (by decide) ?_
                refine lv_iload_n hx hb dX12_putsBack_47 rfl (lv_at hl 0 rfl) ?_
                refine lv_iadd hx hb dX12_putsBack_48 ?_
                refine lz_top (y := 22) (by decide) ?_
                refine va_iald hx hb hK hP 2 0 rfl rfl (lz_vp (x := 22) (n := 28) (by decide) (by decide)) dX12_putsBack_49 ?_
                refine lz_top (y := 0) (by simp [upd]; try rfl) ?_
                refine va_iast hx hb hK hP hD hS 1 0 rfl rfl (lz_vp (x := 6) (n := 12) (by decide) (by decide)) dX12_putsBack_50 (fun H locs hP hD hS => ?_)
                have hP : va_P D cls [(h0, .inr (12, [.int 0, .int 1, .ref h1, .ref h2, .ref h3, .ref h4, .ref h5, .ref h6, .ref h7, .ref h8, .int 0, .int 0, .int 0, .int 0, .int 0, .int 0, .ref h9, .ref h10, .ref h11, .ref h12, .ref h13, .ref h14, .ref h15, .int 0])), (h1, .inl (cI, 12, .inl (upd (upd (upd (upd (upd (upd (upd f0 0 0) 1 0) 2 0) 3 0) 4 0) 5 0) 6 0))), (h15, .inl (cI, 28, .inl (upd (upd (upd (upd (upd (upd (upd (upd (upd (upd (upd (upd (upd (fun _ => 0) 15 1) 16 0) 17 0) 18 0) 19 0) 20 0) 21 0) 22 0) 23 0) 24 0) 25 0) 26 0) 27 0)))] H := hP
                have hD : va_D A [(h0, .inr (12, [.int 0, .int 1, .ref h1, .ref h2, .ref h3, .ref h4, .ref h5, .ref h6, .ref h7, .ref h8, .int 0, .int 0, .int 0, .int 0, .int 0, .int 0, .ref h9, .ref h10, .ref h11, .ref h12, .ref h13, .ref h14, .ref h15, .int 0])), (h1, .inl (cI, 12, .inl (upd (upd (upd (upd (upd (upd (upd f0 0 0) 1 0) 2 0) 3 0) 4 0) 5 0) 6 0))), (h15, .inl (cI, 28, .inl (upd (upd (upd (upd (upd (upd (upd (upd (upd (upd (upd (upd (upd (fun _ => 0) 15 1) 16 0) 17 0) 18 0) 19 0) 20 0) 21 0) 22 0) 23 0) 24 0) 25 0) 26 0) 27 0)))] := hD
                refine lv_iinc (v := 7) (lv' := [(3, .int 7), (2, .int 14), (0, .ref h0), (1, .int 1)]) hx hb dX12_putsBack_51 hl (k := 0) rfl (by decide) (by decide) rfl (fun ls hl => ?_)
                refine lv_goto (tgt := 29) hx hb dX12_putsBack_54 (by decide) ?_
                refine lv_iload_n hx hb dX12_putsBack_29 rfl (lv_at hl 0 rfl) ?_
                refine lv_bipush (v := 12) hx hb dX12_putsBack_30 (by decide) ?_
                refine lv_icmp_ge (tgt := 57) hx hb dX12_putsBack_32 (by decide) (fun c5227 => ?_) (fun c5227 => ?_)
                · exact absurd c5227 (by decide)
                · refine lv_aload_n hx hb dX12_putsBack_35 rfl (lv_at hl 2 rfl) ?_
                  refine va_get (D := D) (ci := 12) (v := .ref h1) (C := RX12) (T := TX12) (N := 24) hx hb hts hin12 hown hK hP 0 rfl rfl 2 (by decide) (hts (.fieldLink RX12 13 "MissedPointsModel" "near" "[I") (by decide +kernel)) (fun _ h9 => h9) rfl dX12_putsBack_36 ?_
                  refine lv_iload_n hx hb dX12_putsBack_39 rfl (lv_at hl 0 rfl) ?_
                  refine lv_aload_n hx hb dX12_putsBack_40 rfl (lv_at hl 2 rfl) ?_
                  refine va_get (D := D) (ci := 12) (v := .ref h15) (C := RX12) (T := TX12) (N := 24) hx hb hts hin12 hown hK hP 0 rfl rfl 22 (by decide) (hts (.fieldLink RX12 56 "MissedPointsModel" "kept" "[I") (by decide +kernel)) (fun _ h9 => h9) rfl dX12_putsBack_41 ?_
                  refine lv_iload_n hx hb dX12_putsBack_44 rfl (lv_at hl 1 rfl) ?_
                  refine lv_iconst (v := 2) hx hb dX12_putsBack_45 (by decide) ?_
                  refine lv_iadd hx hb dX12_putsBack_46 ?_
                  refine lz_top (y := 16) (by decide) ?_
                  refine lv_iload_n hx hb dX12_putsBack_47 rfl (lv_at hl 0 rfl) ?_
                  refine lv_iadd hx hb dX12_putsBack_48 ?_
                  refine lz_top (y := 23) (by decide) ?_
                  refine va_iald hx hb hK hP 2 0 rfl rfl (lz_vp (x := 23) (n := 28) (by decide) (by decide)) dX12_putsBack_49 ?_
                  refine lz_top (y := 0) (by simp [upd]; try rfl) ?_
                  refine va_iast hx hb hK hP hD hS 1 0 rfl rfl (lz_vp (x := 7) (n := 12) (by decide) (by decide)) dX12_putsBack_50 (fun H locs hP hD hS => ?_)
                  have hP : va_P D cls [(h0, .inr (12, [.int 0, .int 1, .ref h1, .ref h2, .ref h3, .ref h4, .ref h5, .ref h6, .ref h7, .ref h8, .int 0, .int 0, .int 0, .int 0, .int 0, .int 0, .ref h9, .ref h10, .ref h11, .ref h12, .ref h13, .ref h14, .ref h15, .int 0])), (h1, .inl (cI, 12, .inl (upd (upd (upd (upd (upd (upd (upd (upd f0 0 0) 1 0) 2 0) 3 0) 4 0) 5 0) 6 0) 7 0))), (h15, .inl (cI, 28, .inl (upd (upd (upd (upd (upd (upd (upd (upd (upd (upd (upd (upd (upd (fun _ => 0) 15 1) 16 0) 17 0) 18 0) 19 0) 20 0) 21 0) 22 0) 23 0) 24 0) 25 0) 26 0) 27 0)))] H := hP
                  have hD : va_D A [(h0, .inr (12, [.int 0, .int 1, .ref h1, .ref h2, .ref h3, .ref h4, .ref h5, .ref h6, .ref h7, .ref h8, .int 0, .int 0, .int 0, .int 0, .int 0, .int 0, .ref h9, .ref h10, .ref h11, .ref h12, .ref h13, .ref h14, .ref h15, .int 0])), (h1, .inl (cI, 12, .inl (upd (upd (upd (upd (upd (upd (upd (upd f0 0 0) 1 0) 2 0) 3 0) 4 0) 5 0) 6 0) 7 0))), (h15, .inl (cI, 28, .inl (upd (upd (upd (upd (upd (upd (upd (upd (upd (upd (upd (upd (upd (fun _ => 0) 15 1) 16 0) 17 0) 18 0) 19 0) 20 0) 21 0) 22 0) 23 0) 24 0) 25 0) 26 0) 27 0)))] := hD
                  refine lv_iinc (v := 8) (lv' := [(3, .int 8), (2, .int 14), (0, .ref h0), (1, .int 1)]) hx hb dX12_putsBack_51 hl (k := 0) rfl (by decide) (by decide) rfl (fun ls hl => ?_)
                  refine lv_goto (tgt := 29) hx hb dX12_putsBack_54 (by decide) ?_
                  refine lv_iload_n hx hb dX12_putsBack_29 rfl (lv_at hl 0 rfl) ?_
                  refine lv_bipush (v := 12) hx hb dX12_putsBack_30 (by decide) ?_
                  refine lv_icmp_ge (tgt := 57) hx hb dX12_putsBack_32 (by decide) (fun c5228 => ?_) (fun c5228 => ?_)
                  · exact absurd c5228 (by decide)
                  · refine lv_aload_n hx hb dX12_putsBack_35 rfl (lv_at hl 2 rfl) ?_
                    refine va_get (D := D) (ci := 12) (v := .ref h1) (C := RX12) (T := TX12) (N := 24) hx hb hts hin12 hown hK hP 0 rfl rfl 2 (by decide) (hts (.fieldLink RX12 13 "MissedPointsModel" "near" "[I") (by decide +kernel)) (fun _ h9 => h9) rfl dX12_putsBack_36 ?_
                    refine lv_iload_n hx hb dX12_putsBack_39 rfl (lv_at hl 0 rfl) ?_
                    refine lv_aload_n hx hb dX12_putsBack_40 rfl (lv_at hl 2 rfl) ?_
                    refine va_get (D := D) (ci := 12) (v := .ref h15) (C := RX12) (T := TX12) (N := 24) hx hb hts hin12 hown hK hP 0 rfl rfl 22 (by decide) (hts (.fieldLink RX12 56 "MissedPointsModel" "kept" "[I") (by decide +kernel)) (fun _ h9 => h9) rfl dX12_putsBack_41 ?_
                    refine lv_iload_n hx hb dX12_putsBack_44 rfl (lv_at hl 1 rfl) ?_
                    refine lv_iconst (v := 2) hx hb dX12_putsBack_45 (by decide) ?_
                    refine lv_iadd hx hb dX12_putsBack_46 ?_
                    refine lz_top (y := 16) (by decide) ?_
                    refine lv_iload_n hx hb dX12_putsBack_47 rfl (lv_at hl 0 rfl) ?_
                    refine lv_iadd hx hb dX12_putsBack_48 ?_
                    refine lz_top (y := 24) (by decide) ?_
                    refine va_iald hx hb hK hP 2 0 rfl rfl (lz_vp (x := 24) (n := 28) (by decide) (by decide)) dX12_putsBack_49 ?_
                    refine lz_top (y := 0) (by simp [upd]; try rfl) ?_
                    refine va_iast hx hb hK hP hD hS 1 0 rfl rfl (lz_vp (x := 8) (n := 12) (by decide) (by decide)) dX12_putsBack_50 (fun H locs hP hD hS => ?_)
                    have hP : va_P D cls [(h0, .inr (12, [.int 0, .int 1, .ref h1, .ref h2, .ref h3, .ref h4, .ref h5, .ref h6, .ref h7, .ref h8, .int 0, .int 0, .int 0, .int 0, .int 0, .int 0, .ref h9, .ref h10, .ref h11, .ref h12, .ref h13, .ref h14, .ref h15, .int 0])), (h1, .inl (cI, 12, .inl (upd (upd (upd (upd (upd (upd (upd (upd (upd f0 0 0) 1 0) 2 0) 3 0) 4 0) 5 0) 6 0) 7 0) 8 0))), (h15, .inl (cI, 28, .inl (upd (upd (upd (upd (upd (upd (upd (upd (upd (upd (upd (upd (upd (fun _ => 0) 15 1) 16 0) 17 0) 18 0) 19 0) 20 0) 21 0) 22 0) 23 0) 24 0) 25 0) 26 0) 27 0)))] H := hP
                    have hD : va_D A [(h0, .inr (12, [.int 0, .int 1, .ref h1, .ref h2, .ref h3, .ref h4, .ref h5, .ref h6, .ref h7, .ref h8, .int 0, .int 0, .int 0, .int 0, .int 0, .int 0, .ref h9, .ref h10, .ref h11, .ref h12, .ref h13, .ref h14, .ref h15, .int 0])), (h1, .inl (cI, 12, .inl (upd (upd (upd (upd (upd (upd (upd (upd (upd f0 0 0) 1 0) 2 0) 3 0) 4 0) 5 0) 6 0) 7 0) 8 0))), (h15, .inl (cI, 28, .inl (upd (upd (upd (upd (upd (upd (upd (upd (upd (upd (upd (upd (upd (fun _ => 0) 15 1) 16 0) 17 0) 18 0) 19 0) 20 0) 21 0) 22 0) 23 0) 24 0) 25 0) 26 0) 27 0)))] := hD
                    refine lv_iinc (v := 9) (lv' := [(3, .int 9), (2, .int 14), (0, .ref h0), (1, .int 1)]) hx hb dX12_putsBack_51 hl (k := 0) rfl (by decide) (by decide) rfl (fun ls hl => ?_)
                    refine lv_goto (tgt := 29) hx hb dX12_putsBack_54 (by decide) ?_
                    refine lv_iload_n hx hb dX12_putsBack_29 rfl (lv_at hl 0 rfl) ?_
                    refine lv_bipush (v := 12) hx hb dX12_putsBack_30 (by decide) ?_
                    refine lv_icmp_ge (tgt := 57) hx hb dX12_putsBack_32 (by decide) (fun c5229 => ?_) (fun c5229 => ?_)
                    · exact absurd c5229 (by decide)
                    · refine lv_aload_n hx hb dX12_putsBack_35 rfl (lv_at hl 2 rfl) ?_
                      refine va_get (D := D) (ci := 12) (v := .ref h1) (C := RX12) (T := TX12) (N := 24) hx hb hts hin12 hown hK hP 0 rfl rfl 2 (by decide) (hts (.fieldLink RX12 13 "MissedPointsModel" "near" "[I") (by decide +kernel)) (fun _ h9 => h9) rfl dX12_putsBack_36 ?_
                      refine lv_iload_n hx hb dX12_putsBack_39 rfl (lv_at hl 0 rfl) ?_
                      refine lv_aload_n hx hb dX12_putsBack_40 rfl (lv_at hl 2 rfl) ?_
                      refine va_get (D := D) (ci := 12) (v := .ref h15) (C := RX12) (T := TX12) (N := 24) hx hb hts hin12 hown hK hP 0 rfl rfl 22 (by decide) (hts (.fieldLink RX12 56 "MissedPointsModel" "kept" "[I") (by decide +kernel)) (fun _ h9 => h9) rfl dX12_putsBack_41 ?_
                      refine lv_iload_n hx hb dX12_putsBack_44 rfl (lv_at hl 1 rfl) ?_
                      refine lv_iconst (v := 2) hx hb dX12_putsBack_45 (by decide) ?_
                      refine lv_iadd hx hb dX12_putsBack_46 ?_
                      refine lz_top (y := 16) (by decide) ?_
                      refine lv_iload_n hx hb dX12_putsBack_47 rfl (lv_at hl 0 rfl) ?_
                      refine lv_iadd hx hb dX12_putsBack_48 ?_
                      refine lz_top (y := 25) (by decide) ?_
                      refine va_iald hx hb hK hP 2 0 rfl rfl (lz_vp (x := 25) (n := 28) (by decide) (by decide)) dX12_putsBack_49 ?_
                      refine lz_top (y := 0) (by simp [upd]; try rfl) ?_
                      refine va_iast hx hb hK hP hD hS 1 0 rfl rfl (lz_vp (x := 9) (n := 12) (by decide) (by decide)) dX12_putsBack_50 (fun H locs hP hD hS => ?_)
                      have hP : va_P D cls [(h0, .inr (12, [.int 0, .int 1, .ref h1, .ref h2, .ref h3, .ref h4, .ref h5, .ref h6, .ref h7, .ref h8, .int 0, .int 0, .int 0, .int 0, .int 0, .int 0, .ref h9, .ref h10, .ref h11, .ref h12, .ref h13, .ref h14, .ref h15, .int 0])), (h1, .inl (cI, 12, .inl (upd (upd (upd (upd (upd (upd (upd (upd (upd (upd f0 0 0) 1 0) 2 0) 3 0) 4 0) 5 0) 6 0) 7 0) 8 0) 9 0))), (h15, .inl (cI, 28, .inl (upd (upd (upd (upd (upd (upd (upd (upd (upd (upd (upd (upd (upd (fun _ => 0) 15 1) 16 0) 17 0) 18 0) 19 0) 20 0) 21 0) 22 0) 23 0) 24 0) 25 0) 26 0) 27 0)))] H := hP
                      have hD : va_D A [(h0, .inr (12, [.int 0, .int 1, .ref h1, .ref h2, .ref h3, .ref h4, .ref h5, .ref h6, .ref h7, .ref h8, .int 0, .int 0, .int 0, .int 0, .int 0, .int 0, .ref h9, .ref h10, .ref h11, .ref h12, .ref h13, .ref h14, .ref h15, .int 0])), (h1, .inl (cI, 12, .inl (upd (upd (upd (upd (upd (upd (upd (upd (upd (upd f0 0 0) 1 0) 2 0) 3 0) 4 0) 5 0) 6 0) 7 0) 8 0) 9 0))), (h15, .inl (cI, 28, .inl (upd (upd (upd (upd (upd (upd (upd (upd (upd (upd (upd (upd (upd (fun _ => 0) 15 1) 16 0) 17 0) 18 0) 19 0) 20 0) 21 0) 22 0) 23 0) 24 0) 25 0) 26 0) 27 0)))] := hD
                      refine lv_iinc (v := 10) (lv' := [(3, .int 10), (2, .int 14), (0, .ref h0), (1, .int 1)]) hx hb dX12_putsBack_51 hl (k := 0) rfl (by decide) (by decide) rfl (fun ls hl => ?_)
                      refine lv_goto (tgt := 29) hx hb dX12_putsBack_54 (by decide) ?_
                      refine lv_iload_n hx hb dX12_putsBack_29 rfl (lv_at hl 0 rfl) ?_
                      refine lv_bipush (v := 12) hx hb dX12_putsBack_30 (by decide) ?_
                      refine lv_icmp_ge (tgt := 57) hx hb dX12_putsBack_32 (by decide) (fun c5230 => ?_) (fun c5230 => ?_)
                      · exact absurd c5230 (by decide)
                      · refine lv_aload_n hx hb dX12_putsBack_35 rfl (lv_at hl 2 rfl) ?_
                        refine va_get (D := D) (ci := 12) (v := .ref h1) (C := RX12) (T := TX12) (N := 24) hx hb hts hin12 hown hK hP 0 rfl rfl 2 (by decide) (hts (.fieldLink RX12 13 "MissedPointsModel" "near" "[I") (by decide +kernel)) (fun _ h9 => h9) rfl dX12_putsBack_36 ?_
                        refine lv_iload_n hx hb dX12_putsBack_39 rfl (lv_at hl 0 rfl) ?_
                        refine lv_aload_n hx hb dX12_putsBack_40 rfl (lv_at hl 2 rfl) ?_
                        refine va_get (D := D) (ci := 12) (v := .ref h15) (C := RX12) (T := TX12) (N := 24) hx hb hts hin12 hown hK hP 0 rfl rfl 22 (by decide) (hts (.fieldLink RX12 56 "MissedPointsModel" "kept" "[I") (by decide +kernel)) (fun _ h9 => h9) rfl dX12_putsBack_41 ?_
                        refine lv_iload_n hx hb dX12_putsBack_44 rfl (lv_at hl 1 rfl) ?_
                        refine lv_iconst (v := 2) hx hb dX12_putsBack_45 (by decide) ?_
                        refine lv_iadd hx hb dX12_putsBack_46 ?_
                        refine lz_top (y := 16) (by decide) ?_
                        refine lv_iload_n hx hb dX12_putsBack_47 rfl (lv_at hl 0 rfl) ?_
                        refine lv_iadd hx hb dX12_putsBack_48 ?_
                        refine lz_top (y := 26) (by decide) ?_
                        refine va_iald hx hb hK hP 2 0 rfl rfl (lz_vp (x := 26) (n := 28) (by decide) (by decide)) dX12_putsBack_49 ?_
                        refine lz_top (y := 0) (by simp [upd]; try rfl) ?_
                        refine va_iast hx hb hK hP hD hS 1 0 rfl rfl (lz_vp (x := 10) (n := 12) (by decide) (by decide)) dX12_putsBack_50 (fun H locs hP hD hS => ?_)
                        have hP : va_P D cls [(h0, .inr (12, [.int 0, .int 1, .ref h1, .ref h2, .ref h3, .ref h4, .ref h5, .ref h6, .ref h7, .ref h8, .int 0, .int 0, .int 0, .int 0, .int 0, .int 0, .ref h9, .ref h10, .ref h11, .ref h12, .ref h13, .ref h14, .ref h15, .int 0])), (h1, .inl (cI, 12, .inl (upd (upd (upd (upd (upd (upd (upd (upd (upd (upd (upd f0 0 0) 1 0) 2 0) 3 0) 4 0) 5 0) 6 0) 7 0) 8 0) 9 0) 10 0))), (h15, .inl (cI, 28, .inl (upd (upd (upd (upd (upd (upd (upd (upd (upd (upd (upd (upd (upd (fun _ => 0) 15 1) 16 0) 17 0) 18 0) 19 0) 20 0) 21 0) 22 0) 23 0) 24 0) 25 0) 26 0) 27 0)))] H := hP
                        have hD : va_D A [(h0, .inr (12, [.int 0, .int 1, .ref h1, .ref h2, .ref h3, .ref h4, .ref h5, .ref h6, .ref h7, .ref h8, .int 0, .int 0, .int 0, .int 0, .int 0, .int 0, .ref h9, .ref h10, .ref h11, .ref h12, .ref h13, .ref h14, .ref h15, .int 0])), (h1, .inl (cI, 12, .inl (upd (upd (upd (upd (upd (upd (upd (upd (upd (upd (upd f0 0 0) 1 0) 2 0) 3 0) 4 0) 5 0) 6 0) 7 0) 8 0) 9 0) 10 0))), (h15, .inl (cI, 28, .inl (upd (upd (upd (upd (upd (upd (upd (upd (upd (upd (upd (upd (upd (fun _ => 0) 15 1) 16 0) 17 0) 18 0) 19 0) 20 0) 21 0) 22 0) 23 0) 24 0) 25 0) 26 0) 27 0)))] := hD
                        refine lv_iinc (v := 11) (lv' := [(3, .int 11), (2, .int 14), (0, .ref h0), (1, .int 1)]) hx hb dX12_putsBack_51 hl (k := 0) rfl (by decide) (by decide) rfl (fun ls hl => ?_)
                        refine lv_goto (tgt := 29) hx hb dX12_putsBack_54 (by decide) ?_
                        refine lv_iload_n hx hb dX12_putsBack_29 rfl (lv_at hl 0 rfl) ?_
                        refine lv_bipush (v := 12) hx hb dX12_putsBack_30 (by decide) ?_
                        refine lv_icmp_ge (tgt := 57) hx hb dX12_putsBack_32 (by decide) (fun c5231 => ?_) (fun c5231 => ?_)
                        · exact absurd c5231 (by decide)
                        · refine lv_aload_n hx hb dX12_putsBack_35 rfl (lv_at hl 2 rfl) ?_
                          refine va_get (D := D) (ci := 12) (v := .ref h1) (C := RX12) (T := TX12) (N := 24) hx hb hts hin12 hown hK hP 0 rfl rfl 2 (by decide) (hts (.fieldLink RX12 13 "MissedPointsModel" "near" "[I") (by decide +kernel)) (fun _ h9 => h9) rfl dX12_putsBack_36 ?_
                          refine lv_iload_n hx hb dX12_putsBack_39 rfl (lv_at hl 0 rfl) ?_
                          refine lv_aload_n hx hb dX12_putsBack_40 rfl (lv_at hl 2 rfl) ?_
                          refine va_get (D := D) (ci := 12) (v := .ref h15) (C := RX12) (T := TX12) (N := 24) hx hb hts hin12 hown hK hP 0 rfl rfl 22 (by decide) (hts (.fieldLink RX12 56 "MissedPointsModel" "kept" "[I") (by decide +kernel)) (fun _ h9 => h9) rfl dX12_putsBack_41 ?_
                          refine lv_iload_n hx hb dX12_putsBack_44 rfl (lv_at hl 1 rfl) ?_
                          refine lv_iconst (v := 2) hx hb dX12_putsBack_45 (by decide) ?_
                          refine lv_iadd hx hb dX12_putsBack_46 ?_
                          refine lz_top (y := 16) (by decide) ?_
                          refine lv_iload_n hx hb dX12_putsBack_47 rfl (lv_at hl 0 rfl) ?_
                          refine lv_iadd hx hb dX12_putsBack_48 ?_
                          refine lz_top (y := 27) (by decide) ?_
                          refine va_iald hx hb hK hP 2 0 rfl rfl (lz_vp (x := 27) (n := 28) (by decide) (by decide)) dX12_putsBack_49 ?_
                          refine lz_top (y := 0) (by simp [upd]; try rfl) ?_
                          refine va_iast hx hb hK hP hD hS 1 0 rfl rfl (lz_vp (x := 11) (n := 12) (by decide) (by decide)) dX12_putsBack_50 (fun H locs hP hD hS => ?_)
                          have hP : va_P D cls [(h0, .inr (12, [.int 0, .int 1, .ref h1, .ref h2, .ref h3, .ref h4, .ref h5, .ref h6, .ref h7, .ref h8, .int 0, .int 0, .int 0, .int 0, .int 0, .int 0, .ref h9, .ref h10, .ref h11, .ref h12, .ref h13, .ref h14, .ref h15, .int 0])), (h1, .inl (cI, 12, .inl (upd (upd (upd (upd (upd (upd (upd (upd (upd (upd (upd (upd f0 0 0) 1 0) 2 0) 3 0) 4 0) 5 0) 6 0) 7 0) 8 0) 9 0) 10 0) 11 0))), (h15, .inl (cI, 28, .inl (upd (upd (upd (upd (upd (upd (upd (upd (upd (upd (upd (upd (upd (fun _ => 0) 15 1) 16 0) 17 0) 18 0) 19 0) 20 0) 21 0) 22 0) 23 0) 24 0) 25 0) 26 0) 27 0)))] H := hP
                          have hD : va_D A [(h0, .inr (12, [.int 0, .int 1, .ref h1, .ref h2, .ref h3, .ref h4, .ref h5, .ref h6, .ref h7, .ref h8, .int 0, .int 0, .int 0, .int 0, .int 0, .int 0, .ref h9, .ref h10, .ref h11, .ref h12, .ref h13, .ref h14, .ref h15, .int 0])), (h1, .inl (cI, 12, .inl (upd (upd (upd (upd (upd (upd (upd (upd (upd (upd (upd (upd f0 0 0) 1 0) 2 0) 3 0) 4 0) 5 0) 6 0) 7 0) 8 0) 9 0) 10 0) 11 0))), (h15, .inl (cI, 28, .inl (upd (upd (upd (upd (upd (upd (upd (upd (upd (upd (upd (upd (upd (fun _ => 0) 15 1) 16 0) 17 0) 18 0) 19 0) 20 0) 21 0) 22 0) 23 0) 24 0) 25 0) 26 0) 27 0)))] := hD
                          refine lv_iinc (v := 12) (lv' := [(3, .int 12), (2, .int 14), (0, .ref h0), (1, .int 1)]) hx hb dX12_putsBack_51 hl (k := 0) rfl (by decide) (by decide) rfl (fun ls hl => ?_)
                          refine lv_goto (tgt := 29) hx hb dX12_putsBack_54 (by decide) ?_
                          refine lv_iload_n hx hb dX12_putsBack_29 rfl (lv_at hl 0 rfl) ?_
                          refine lv_bipush (v := 12) hx hb dX12_putsBack_30 (by decide) ?_
                          refine lv_icmp_ge (tgt := 57) hx hb dX12_putsBack_32 (by decide) (fun c5232 => ?_) (fun c5232 => ?_)
                          · have hP9 := hP.sub (ws' := [(h0, .inr (12, [.int 0, .int 1, .ref h1, .ref h2, .ref h3, .ref h4, .ref h5, .ref h6, .ref h7, .ref h8, .int 0, .int 0, .int 0, .int 0, .int 0, .int 0, .ref h9, .ref h10, .ref h11, .ref h12, .ref h13, .ref h14, .ref h15, .int 0])), (h1, .inl (cI, 12, .inl (upd (upd (upd (upd (upd (upd (upd (upd (upd (upd (upd (upd f0 0 0) 1 0) 2 0) 3 0) 4 0) 5 0) 6 0) 7 0) 8 0) 9 0) 10 0) 11 0))), (h15, .inl (cI, 28, .inl (upd (upd (upd (upd (upd (upd (upd (upd (upd (upd (upd (upd (upd (fun _ => 0) 15 1) 16 0) 17 0) 18 0) 19 0) 20 0) 21 0) 22 0) 23 0) 24 0) 25 0) 26 0) 27 0)))]) [0, 1, 2] rfl
                            have hD9 := hD.sub (ws' := [(h0, .inr (12, [.int 0, .int 1, .ref h1, .ref h2, .ref h3, .ref h4, .ref h5, .ref h6, .ref h7, .ref h8, .int 0, .int 0, .int 0, .int 0, .int 0, .int 0, .ref h9, .ref h10, .ref h11, .ref h12, .ref h13, .ref h14, .ref h15, .int 0])), (h1, .inl (cI, 12, .inl (upd (upd (upd (upd (upd (upd (upd (upd (upd (upd (upd (upd f0 0 0) 1 0) 2 0) 3 0) 4 0) 5 0) 6 0) 7 0) 8 0) 9 0) 10 0) 11 0))), (h15, .inl (cI, 28, .inl (upd (upd (upd (upd (upd (upd (upd (upd (upd (upd (upd (upd (upd (fun _ => 0) 15 1) 16 0) 17 0) 18 0) 19 0) 20 0) 21 0) 22 0) 23 0) 24 0) 25 0) 26 0) 27 0)))]) [0, 1, 2] (by decide) rfl
                            subst hAe
                            exact W.vret hx hb hr (fun t ht hW => ⟨⟨(), rfl, trivial, by rw [ht]; exact hP9, hD9⟩, hS.F ht⟩) hS.2.2 dX12_putsBack_57
                          · exact absurd c5232 (by decide)
set_option maxHeartbeats 4000000 in
set_option maxRecDepth 100000 in
theorem c_greatest (l : Launch) (D : va_G) (cI cS : ClassId) (sz : Nat) (h0 h1 h2 h3 h4 h5 h6 h7 h8 h9 h10 h11 h12 h13 h14 h15 : Nat) (g P0 G0 : Nat → Int32) (zv : Int32) (k : Nat) (hk : k ≤ 12) (hv4 : Lo k g) (hsy : Sym k g) (hP0 : P0 0 = 0) : Met l yX12_greatest wsX12_greatest ({ frames := 3, cells := 0, slots := 0, locals := 120 }) (PQ D cI cS [(h0, .inr (12, [.int (nI k), .int zv, .ref h1, .ref h2, .ref h3, .ref h4, .ref h5, .ref h6, .ref h7, .ref h8, .int 0, .int 0, .int 0, .int 0, .int 0, .int 0, .ref h9, .ref h10, .ref h11, .ref h12, .ref h13, .ref h14, .ref h15, .int 0])), (h1, .inl (cI, 12, .inl g)), (h2, .inl (cI, 4096, .inl P0)), (h3, .inl (cI, 4096, .inl G0))] sz [.ref h0]) (QF (S := (Nat → Int32) × (Nat → Int32)) D [(h0, .inr (12, [.int (nI k), .int zv, .ref h1, .ref h2, .ref h3, .ref h4, .ref h5, .ref h6, .ref h7, .ref h8, .int 0, .int 0, .int 0, .int 0, .int 0, .int 0, .ref h9, .ref h10, .ref h11, .ref h12, .ref h13, .ref h14, .ref h15, .int 0])), (h1, .inl (cI, 12, .inl g)), (h2, .inl (cI, 4096, .inl P0)), (h3, .inl (cI, 4096, .inl G0))] (fun u => [(h0, .inr (12, [.int (nI k), .int zv, .ref h1, .ref h2, .ref h3, .ref h4, .ref h5, .ref h6, .ref h7, .ref h8, .int 0, .int 0, .int 0, .int 0, .int 0, .int 0, .ref h9, .ref h10, .ref h11, .ref h12, .ref h13, .ref h14, .ref h15, .int 0])), (h1, .inl (cI, 12, .inl g)), (h2, .inl (cI, 4096, .inl u.1)), (h3, .inl (cI, 4096, .inl u.2))]) sz (fun r u => r = nI (nuS k g (2 ^ k - 1)) ∧ u.1 0 = 0)) 0 0 (va_A [(h0, .inr (12, [.int (nI k), .int zv, .ref h1, .ref h2, .ref h3, .ref h4, .ref h5, .ref h6, .ref h7, .ref h8, .int 0, .int 0, .int 0, .int 0, .int 0, .int 0, .ref h9, .ref h10, .ref h11, .ref h12, .ref h13, .ref h14, .ref h15, .int 0])), (h1, .inl (cI, 12, .inl g)), (h2, .inl (cI, 4096, .inl P0)), (h3, .inl (cI, 4096, .inl G0))] sz) := by
  refine Met.ofW (cc := cX12_greatest) (maxL := 1) (ret := (some .int)) (by decide) rfl ?_
  intro p e s m args below meth c s₁ B hml hv
  obtain ⟨rfl, hsz, hP, hKK, hD0⟩ := hv
  have hx := B.exec
  have hb := B.bytes
  have hr := B.returns
  have hts := atoms_spec (ws := wsX12_greatest) B.pre
  have hown : s.vm.findClass RX12 = some m.cls := findClass_of_methodNamed B.named
  have hlocks := B.notSynchronized
  have hK := hKK.1
  have hN := hKK.2
  have hin12 : ∀ w ∈ wsX120, w ∈ wsX12_greatest := by decide +kernel
  subst hsz
  have hD := hD0.self (sz := s.heap.size)
  obtain ⟨A, hAe⟩ : ∃ A, A = va_A [(h0, .inr (12, [.int (nI k), .int zv, .ref h1, .ref h2, .ref h3, .ref h4, .ref h5, .ref h6, .ref h7, .ref h8, .int 0, .int 0, .int 0, .int 0, .int 0, .int 0, .ref h9, .ref h10, .ref h11, .ref h12, .ref h13, .ref h14, .ref h15, .int 0])), (h1, .inl (cI, 12, .inl g)), (h2, .inl (cI, 4096, .inl P0)), (h3, .inl (cI, 4096, .inl G0))] s.heap.size := ⟨_, rfl⟩
  rw [← hAe] at hD
  have hA : ∀ q : Nat, s.heap.size ≤ q → A q := fun q h => by rw [hAe]; exact Or.inr h
  have hS : va_S A s.heap s.heap [] := va_S.rf
  have hl := lv_entry ([.ref h0]) (n := 1) (Nat.le_of_ble_eq_true rfl)
  rw [lg_entry_eq]
  generalize (lg_sl ([.ref h0]) ++ List.replicate (1 - (lg_sl ([.ref h0])).length) Slot.unset).toArray = ls at hl ⊢
  have hl : lv_has ls 1 [(0, .ref h0)] := hl
  have h2k : 2 ^ k ≤ 4096 := (Nat.pow_le_pow_right (by decide) hk : 2 ^ k ≤ 2 ^ 12)
  have h1k : 1 ≤ 2 ^ k := Nat.one_le_two_pow
  refine lv_aload_n hx hb dX12_greatest_0 rfl (lv_at hl 0 rfl) ?_
  have hPc := hP.sub (ws' := [(h0, .inr (12, [.int (nI k), .int zv, .ref h1, .ref h2, .ref h3, .ref h4, .ref h5, .ref h6, .ref h7, .ref h8, .int 0, .int 0, .int 0, .int 0, .int 0, .int 0, .ref h9, .ref h10, .ref h11, .ref h12, .ref h13, .ref h14, .ref h15, .int 0])), (h1, .inl (cI, 12, .inl g)), (h2, .inl (cI, 4096, .inl P0)), (h3, .inl (cI, 4096, .inl G0))]) [0, 1, 2, 3] rfl
  have hDc := hD.sub (ws' := [(h0, .inr (12, [.int (nI k), .int zv, .ref h1, .ref h2, .ref h3, .ref h4, .ref h5, .ref h6, .ref h7, .ref h8, .int 0, .int 0, .int 0, .int 0, .int 0, .int 0, .ref h9, .ref h10, .ref h11, .ref h12, .ref h13, .ref h14, .ref h15, .int 0])), (h1, .inl (cI, 12, .inl g)), (h2, .inl (cI, 4096, .inl P0)), (h3, .inl (cI, 4096, .inl G0))]) [0, 1, 2, 3] (by decide) rfl
  refine lz_qe (wr := []) (w1 := fun (u : (Nat → Int32) × (Nat → Int32)) => [(h0, .inr (12, [.int (nI k), .int zv, .ref h1, .ref h2, .ref h3, .ref h4, .ref h5, .ref h6, .ref h7, .ref h8, .int 0, .int 0, .int 0, .int 0, .int 0, .int 0, .ref h9, .ref h10, .ref h11, .ref h12, .ref h13, .ref h14, .ref h15, .int 0])), (h1, .inl (cI, 12, .inl g)), (h2, .inl (cI, 4096, .inl u.1)), (h3, .inl (cI, 4096, .inl u.2))]) (As := []) (rest := []) ⟨hx, hb, hml, hown, hts⟩ (c_reckons l D cI cS _ h0 h1 h2 h3 h4 h5 h6 h7 h8 h9 h10 h11 h12 h13 h14 h15 g P0 G0 zv k hk hv4 hsy hP0) hKK hP hD hS hA [0, 1, 2, 3] [] (by decide) rfl rfl (by decide) (by decide) hPc hDc (ci := 12) rfl rfl (cwV 0 hts gX12_greatest_X12_reckons rfl rfl rfl (by decide +kernel) ⟨Nat.le_of_ble_eq_true rfl, Nat.le_of_ble_eq_true rfl⟩) rfl hl.1 rfl (Nat.le_of_ble_eq_true rfl) dX12_greatest_1 ⟨Nat.le_of_ble_eq_true rfl, Nat.le_of_ble_eq_true rfl⟩ (fun u H locs hu hP hD hS => ?_)
  have hP : va_P D cls [(h0, .inr (12, [.int (nI k), .int zv, .ref h1, .ref h2, .ref h3, .ref h4, .ref h5, .ref h6, .ref h7, .ref h8, .int 0, .int 0, .int 0, .int 0, .int 0, .int 0, .ref h9, .ref h10, .ref h11, .ref h12, .ref h13, .ref h14, .ref h15, .int 0])), (h1, .inl (cI, 12, .inl g)), (h2, .inl (cI, 4096, .inl u.1)), (h3, .inl (cI, 4096, .inl u.2))] H := hP
  have hD : va_D A [(h0, .inr (12, [.int (nI k), .int zv, .ref h1, .ref h2, .ref h3, .ref h4, .ref h5, .ref h6, .ref h7, .ref h8, .int 0, .int 0, .int 0, .int 0, .int 0, .int 0, .ref h9, .ref h10, .ref h11, .ref h12, .ref h13, .ref h14, .ref h15, .int 0])), (h1, .inl (cI, 12, .inl g)), (h2, .inl (cI, 4096, .inl u.1)), (h3, .inl (cI, 4096, .inl u.2))] := hD
  refine lv_aload_n hx hb dX12_greatest_4 rfl (lv_at hl 0 rfl) ?_
  refine va_get (D := D) (ci := 12) (v := .ref h2) (C := RX12) (T := TX12) (N := 24) hx hb hts hin12 hown hK hP 0 rfl rfl 3 (by decide) (hts (.fieldLink RX12 17 "MissedPointsModel" "pairs" "[I") (by decide +kernel)) (fun _ h9 => h9) rfl dX12_greatest_5 ?_
  refine lv_aload_n hx hb dX12_greatest_8 rfl (lv_at hl 0 rfl) ?_
  have hPc := hP.sub (ws' := [(h0, .inr (12, [.int (nI k), .int zv, .ref h1, .ref h2, .ref h3, .ref h4, .ref h5, .ref h6, .ref h7, .ref h8, .int 0, .int 0, .int 0, .int 0, .int 0, .int 0, .ref h9, .ref h10, .ref h11, .ref h12, .ref h13, .ref h14, .ref h15, .int 0]))]) [0] rfl
  refine lz_sv (As := []) (rest := [.ref h2]) ⟨hx, hb, hml, hown, hts⟩ (c_X12_all_3 l D cI cS h0 h1 h2 h3 h4 h5 h6 h7 h8 h9 h10 h11 h12 h13 h14 h15 (nI k) zv) hKK hPc (ci := 12) rfl rfl (cwV 0 hts gX12_greatest_X12_all rfl rfl rfl (by decide +kernel) ⟨Nat.le_of_ble_eq_true rfl, Nat.le_of_ble_eq_true rfl⟩) rfl hl.1 rfl (Nat.le_of_ble_eq_true rfl) dX12_greatest_9 ⟨Nat.le_of_ble_eq_true rfl, Nat.le_of_ble_eq_true rfl⟩ (fun r5150 hw => ?_)
  subst hw
  refine lz_top (y := (nI (2 ^ k - 1))) (all_eq k (by omega)) ?_
  refine lz_ald hx hb hK hP 2 0 rfl rfl (2 ^ k - 1) ⟨by omega, Nat.le_of_ble_eq_true rfl⟩ dX12_greatest_12 ?_
  refine lz_top (y := (nI (nuS k g (2 ^ k - 1)))) (hu _ (by omega)) ?_
  have hP9 := hP.sub (ws' := [(h0, .inr (12, [.int (nI k), .int zv, .ref h1, .ref h2, .ref h3, .ref h4, .ref h5, .ref h6, .ref h7, .ref h8, .int 0, .int 0, .int 0, .int 0, .int 0, .int 0, .ref h9, .ref h10, .ref h11, .ref h12, .ref h13, .ref h14, .ref h15, .int 0])), (h1, .inl (cI, 12, .inl g)), (h2, .inl (cI, 4096, .inl u.1)), (h3, .inl (cI, 4096, .inl u.2))]) [0, 1, 2, 3] rfl
  have hD9 := hD.sub (ws' := [(h0, .inr (12, [.int (nI k), .int zv, .ref h1, .ref h2, .ref h3, .ref h4, .ref h5, .ref h6, .ref h7, .ref h8, .int 0, .int 0, .int 0, .int 0, .int 0, .int 0, .ref h9, .ref h10, .ref h11, .ref h12, .ref h13, .ref h14, .ref h15, .int 0])), (h1, .inl (cI, 12, .inl g)), (h2, .inl (cI, 4096, .inl u.1)), (h3, .inl (cI, 4096, .inl u.2))]) [0, 1, 2, 3] (by decide) rfl
  subst hAe
  exact W.iret (v := (nI (nuS k g (2 ^ k - 1)))) hx hb hr (fun t ht hW => ⟨⟨_, u, rfl, ⟨rfl, by rw [hu 0 (by omega), nuS_small g (by decide)]; rfl⟩, by rw [ht]; exact hP9, hD9⟩, hS.F ht⟩) hS.2.2 dX12_greatest_13
set_option maxHeartbeats 4000000 in
set_option maxRecDepth 100000 in
theorem c_lackM (l : Launch) (D : va_G) (cI cS : ClassId) (sz : Nat) (h0 h1 h2 h3 h4 h5 h6 h7 h8 h9 h10 h11 h12 h13 h14 h15 : Nat) (g P0 G0 : Nat → Int32) (zv : Int32) (k : Nat) (hk : k ≤ 12) (hv4 : Lo k g) (hsy : Sym k g) (hP0 : P0 0 = 0) : Met l yX12_lack wsX12_lack ({ frames := 4, cells := 0, slots := 0, locals := 160 }) (PQ D cI cS [(h0, .inr (12, [.int (nI k), .int zv, .ref h1, .ref h2, .ref h3, .ref h4, .ref h5, .ref h6, .ref h7, .ref h8, .int 0, .int 0, .int 0, .int 0, .int 0, .int 0, .ref h9, .ref h10, .ref h11, .ref h12, .ref h13, .ref h14, .ref h15, .int 0])), (h1, .inl (cI, 12, .inl g)), (h2, .inl (cI, 4096, .inl P0)), (h3, .inl (cI, 4096, .inl G0))] sz [.ref h0]) (QF (S := (Nat → Int32) × (Nat → Int32)) D [(h0, .inr (12, [.int (nI k), .int zv, .ref h1, .ref h2, .ref h3, .ref h4, .ref h5, .ref h6, .ref h7, .ref h8, .int 0, .int 0, .int 0, .int 0, .int 0, .int 0, .ref h9, .ref h10, .ref h11, .ref h12, .ref h13, .ref h14, .ref h15, .int 0])), (h1, .inl (cI, 12, .inl g)), (h2, .inl (cI, 4096, .inl P0)), (h3, .inl (cI, 4096, .inl G0))] (fun u => [(h0, .inr (12, [.int (nI k), .int zv, .ref h1, .ref h2, .ref h3, .ref h4, .ref h5, .ref h6, .ref h7, .ref h8, .int 0, .int 0, .int 0, .int 0, .int 0, .int 0, .ref h9, .ref h10, .ref h11, .ref h12, .ref h13, .ref h14, .ref h15, .int 0])), (h1, .inl (cI, 12, .inl g)), (h2, .inl (cI, 4096, .inl u.1)), (h3, .inl (cI, 4096, .inl u.2))]) sz (fun r u => r = (nI k - (2 : Int32) * nI (nuS k g (2 ^ k - 1))) ∧ u.1 0 = 0)) 0 0 (va_A [(h0, .inr (12, [.int (nI k), .int zv, .ref h1, .ref h2, .ref h3, .ref h4, .ref h5, .ref h6, .ref h7, .ref h8, .int 0, .int 0, .int 0, .int 0, .int 0, .int 0, .ref h9, .ref h10, .ref h11, .ref h12, .ref h13, .ref h14, .ref h15, .int 0])), (h1, .inl (cI, 12, .inl g)), (h2, .inl (cI, 4096, .inl P0)), (h3, .inl (cI, 4096, .inl G0))] sz) := by
  refine Met.ofW (cc := cX12_lack) (maxL := 1) (ret := (some .int)) (by decide) rfl ?_
  intro p e s m args below meth c s₁ B hml hv
  obtain ⟨rfl, hsz, hP, hKK, hD0⟩ := hv
  have hx := B.exec
  have hb := B.bytes
  have hr := B.returns
  have hts := atoms_spec (ws := wsX12_lack) B.pre
  have hown : s.vm.findClass RX12 = some m.cls := findClass_of_methodNamed B.named
  have hlocks := B.notSynchronized
  have hK := hKK.1
  have hN := hKK.2
  have hin12 : ∀ w ∈ wsX120, w ∈ wsX12_lack := by decide +kernel
  subst hsz
  have hD := hD0.self (sz := s.heap.size)
  obtain ⟨A, hAe⟩ : ∃ A, A = va_A [(h0, .inr (12, [.int (nI k), .int zv, .ref h1, .ref h2, .ref h3, .ref h4, .ref h5, .ref h6, .ref h7, .ref h8, .int 0, .int 0, .int 0, .int 0, .int 0, .int 0, .ref h9, .ref h10, .ref h11, .ref h12, .ref h13, .ref h14, .ref h15, .int 0])), (h1, .inl (cI, 12, .inl g)), (h2, .inl (cI, 4096, .inl P0)), (h3, .inl (cI, 4096, .inl G0))] s.heap.size := ⟨_, rfl⟩
  rw [← hAe] at hD
  have hA : ∀ q : Nat, s.heap.size ≤ q → A q := fun q h => by rw [hAe]; exact Or.inr h
  have hS : va_S A s.heap s.heap [] := va_S.rf
  have hl := lv_entry ([.ref h0]) (n := 1) (Nat.le_of_ble_eq_true rfl)
  rw [lg_entry_eq]
  generalize (lg_sl ([.ref h0]) ++ List.replicate (1 - (lg_sl ([.ref h0])).length) Slot.unset).toArray = ls at hl ⊢
  have hl : lv_has ls 1 [(0, .ref h0)] := hl
  refine lv_aload_n hx hb dX12_lack_0 rfl (lv_at hl 0 rfl) ?_
  refine va_get (D := D) (ci := 12) (v := .int (nI k)) (C := RX12) (T := TX12) (N := 24) hx hb hts hin12 hown hK hP 0 rfl rfl 0 (by decide) (hts (.fieldLink RX12 63 "MissedPointsModel" "many" "I") (by decide +kernel)) (fun _ h9 => h9) rfl dX12_lack_1 ?_
  refine lv_iconst (v := 2) hx hb dX12_lack_4 (by decide) ?_
  refine lv_aload_n hx hb dX12_lack_5 rfl (lv_at hl 0 rfl) ?_
  have hPc := hP.sub (ws' := [(h0, .inr (12, [.int (nI k), .int zv, .ref h1, .ref h2, .ref h3, .ref h4, .ref h5, .ref h6, .ref h7, .ref h8, .int 0, .int 0, .int 0, .int 0, .int 0, .int 0, .ref h9, .ref h10, .ref h11, .ref h12, .ref h13, .ref h14, .ref h15, .int 0])), (h1, .inl (cI, 12, .inl g)), (h2, .inl (cI, 4096, .inl P0)), (h3, .inl (cI, 4096, .inl G0))]) [0, 1, 2, 3] rfl
  have hDc := hD.sub (ws' := [(h0, .inr (12, [.int (nI k), .int zv, .ref h1, .ref h2, .ref h3, .ref h4, .ref h5, .ref h6, .ref h7, .ref h8, .int 0, .int 0, .int 0, .int 0, .int 0, .int 0, .ref h9, .ref h10, .ref h11, .ref h12, .ref h13, .ref h14, .ref h15, .int 0])), (h1, .inl (cI, 12, .inl g)), (h2, .inl (cI, 4096, .inl P0)), (h3, .inl (cI, 4096, .inl G0))]) [0, 1, 2, 3] (by decide) rfl
  refine lz_qf (wr := []) (w1 := fun (u : (Nat → Int32) × (Nat → Int32)) => [(h0, .inr (12, [.int (nI k), .int zv, .ref h1, .ref h2, .ref h3, .ref h4, .ref h5, .ref h6, .ref h7, .ref h8, .int 0, .int 0, .int 0, .int 0, .int 0, .int 0, .ref h9, .ref h10, .ref h11, .ref h12, .ref h13, .ref h14, .ref h15, .int 0])), (h1, .inl (cI, 12, .inl g)), (h2, .inl (cI, 4096, .inl u.1)), (h3, .inl (cI, 4096, .inl u.2))]) (As := []) (rest := [.int 2, .int (nI k)]) ⟨hx, hb, hml, hown, hts⟩ (c_greatest l D cI cS _ h0 h1 h2 h3 h4 h5 h6 h7 h8 h9 h10 h11 h12 h13 h14 h15 g P0 G0 zv k hk hv4 hsy hP0) hKK hP hD hS hA [0, 1, 2, 3] [] (by decide) rfl rfl (by decide) (by decide) hPc hDc (ci := 12) rfl rfl (cwV 0 hts gX12_lack_X12_greatest rfl rfl rfl (by decide +kernel) ⟨Nat.le_of_ble_eq_true rfl, Nat.le_of_ble_eq_true rfl⟩) rfl hl.1 rfl (Nat.le_of_ble_eq_true rfl) dX12_lack_6 ⟨Nat.le_of_ble_eq_true rfl, Nat.le_of_ble_eq_true rfl⟩ (fun r9 u H locs hu hP hD hS => ?_)
  have hP : va_P D cls [(h0, .inr (12, [.int (nI k), .int zv, .ref h1, .ref h2, .ref h3, .ref h4, .ref h5, .ref h6, .ref h7, .ref h8, .int 0, .int 0, .int 0, .int 0, .int 0, .int 0, .ref h9, .ref h10, .ref h11, .ref h12, .ref h13, .ref h14, .ref h15, .int 0])), (h1, .inl (cI, 12, .inl g)), (h2, .inl (cI, 4096, .inl u.1)), (h3, .inl (cI, 4096, .inl u.2))] H := hP
  have hD : va_D A [(h0, .inr (12, [.int (nI k), .int zv, .ref h1, .ref h2, .ref h3, .ref h4, .ref h5, .ref h6, .ref h7, .ref h8, .int 0, .int 0, .int 0, .int 0, .int 0, .int 0, .ref h9, .ref h10, .ref h11, .ref h12, .ref h13, .ref h14, .ref h15, .int 0])), (h1, .inl (cI, 12, .inl g)), (h2, .inl (cI, 4096, .inl u.1)), (h3, .inl (cI, 4096, .inl u.2))] := hD
  refine lv_imul hx hb dX12_lack_9 ?_
  refine lv_isub hx hb dX12_lack_10 ?_
  refine lz_top (y := (nI k - (2 : Int32) * nI (nuS k g (2 ^ k - 1)))) (by rw [hu.1]) ?_
  have hP9 := hP.sub (ws' := [(h0, .inr (12, [.int (nI k), .int zv, .ref h1, .ref h2, .ref h3, .ref h4, .ref h5, .ref h6, .ref h7, .ref h8, .int 0, .int 0, .int 0, .int 0, .int 0, .int 0, .ref h9, .ref h10, .ref h11, .ref h12, .ref h13, .ref h14, .ref h15, .int 0])), (h1, .inl (cI, 12, .inl g)), (h2, .inl (cI, 4096, .inl u.1)), (h3, .inl (cI, 4096, .inl u.2))]) [0, 1, 2, 3] rfl
  have hD9 := hD.sub (ws' := [(h0, .inr (12, [.int (nI k), .int zv, .ref h1, .ref h2, .ref h3, .ref h4, .ref h5, .ref h6, .ref h7, .ref h8, .int 0, .int 0, .int 0, .int 0, .int 0, .int 0, .ref h9, .ref h10, .ref h11, .ref h12, .ref h13, .ref h14, .ref h15, .int 0])), (h1, .inl (cI, 12, .inl g)), (h2, .inl (cI, 4096, .inl u.1)), (h3, .inl (cI, 4096, .inl u.2))]) [0, 1, 2, 3] (by decide) rfl
  subst hAe
  exact W.iret (v := (nI k - (2 : Int32) * nI (nuS k g (2 ^ k - 1)))) hx hb hr (fun t ht hW => ⟨⟨_, u, rfl, ⟨rfl, hu.2⟩, by rw [ht]; exact hP9, hD9⟩, hS.F ht⟩) hS.2.2 dX12_lack_11
set_option maxRecDepth 20000 in
theorem ggX12_times_X12_in : GoodIn wsX12_times wsX12_in := goodIn_r _ [4] (by decide +kernel) (by decide +kernel)
set_option maxRecDepth 20000 in
theorem gX12_times_X12_in : GoodIn wsX12_times (va_wsS RX12 66 yX12_in wsX12_in) := goodIn_app (goodIn_of _ (by decide +kernel)) ggX12_times_X12_in
theorem dX12_times_0 : decode cX12_times 0 = .ok (.iload_n 1, 1) := by decide +kernel
theorem dX12_times_1 : decode cX12_times 1 = .ok (.iconst 1, 1) := by decide +kernel
theorem dX12_times_10 : decode cX12_times 10 = .ok (.iload_n 2, 1) := by decide +kernel
theorem dX12_times_11 : decode cX12_times 11 = .ok (.iconst 0, 1) := by decide +kernel
theorem dX12_times_12 : decode cX12_times 12 = .ok (.bipush 12, 2) := by decide +kernel
theorem dX12_times_14 : decode cX12_times 14 = .ok (.invokestatic 66, 3) := by decide +kernel
theorem dX12_times_17 : decode cX12_times 17 = .ok (.ifCond .eq 24, 3) := by decide +kernel
theorem dX12_times_2 : decode cX12_times 2 = .ok (.bipush 20, 2) := by decide +kernel
theorem dX12_times_20 : decode cX12_times 20 = .ok (.iload_n 3, 1) := by decide +kernel
theorem dX12_times_21 : decode cX12_times 21 = .ok (.iconst 0, 1) := by decide +kernel
theorem dX12_times_22 : decode cX12_times 22 = .ok (.bipush 10, 2) := by decide +kernel
theorem dX12_times_24 : decode cX12_times 24 = .ok (.invokestatic 66, 3) := by decide +kernel
theorem dX12_times_27 : decode cX12_times 27 = .ok (.ifCond .eq 14, 3) := by decide +kernel
theorem dX12_times_30 : decode cX12_times 30 = .ok (.iload 4, 2) := by decide +kernel
theorem dX12_times_32 : decode cX12_times 32 = .ok (.iconst 0, 1) := by decide +kernel
theorem dX12_times_33 : decode cX12_times 33 = .ok (.bipush 12, 2) := by decide +kernel
theorem dX12_times_35 : decode cX12_times 35 = .ok (.invokestatic 66, 3) := by decide +kernel
theorem dX12_times_38 : decode cX12_times 38 = .ok (.ifCond .ne 6, 3) := by decide +kernel
theorem dX12_times_4 : decode cX12_times 4 = .ok (.invokestatic 66, 3) := by decide +kernel
theorem dX12_times_41 : decode cX12_times 41 = .ok (.bipush (-2), 2) := by decide +kernel
theorem dX12_times_43 : decode cX12_times 43 = .ok (.ireturn, 1) := by decide +kernel
theorem dX12_times_7 : decode cX12_times 7 = .ok (.ifCond .eq 34, 3) := by decide +kernel
set_option maxRecDepth 20000 in
theorem ggX12_times_X12_keeps : GoodIn wsX12_times wsX12_keeps := goodIn_r _ [8, 9, 10, 11, 12, 54, 55, 56, 57, 58, 59, 60, 61, 62, 63, 64, 65, 66, 67, 68, 69, 70, 71, 72, 73, 74, 75, 76, 77] (by decide +kernel) (by decide +kernel)
set_option maxRecDepth 20000 in
theorem gX12_times_X12_keeps : GoodIn wsX12_times (wsV RX12 205 RX12 yX12_keeps wsX12_keeps) := goodIn_app (goodIn_of _ (by decide +kernel)) ggX12_times_X12_keeps
theorem dX12_times_44 : decode cX12_times 44 = .ok (.aload_n 0, 1) := by decide +kernel
theorem dX12_times_45 : decode cX12_times 45 = .ok (.iconst 1, 1) := by decide +kernel
theorem dX12_times_46 : decode cX12_times 46 = .ok (.invokevirtual 205, 3) := by decide +kernel
theorem dX12_times_49 : decode cX12_times 49 = .ok (.iconst 0, 1) := by decide +kernel
theorem dX12_times_50 : decode cX12_times 50 = .ok (.istore 5, 2) := by decide +kernel
theorem dX12_times_52 : decode cX12_times 52 = .ok (.iconst 0, 1) := by decide +kernel
theorem dX12_times_53 : decode cX12_times 53 = .ok (.istore 6, 2) := by decide +kernel
set_option maxRecDepth 20000 in
theorem ggX12_times_X12_putsBack : GoodIn wsX12_times wsX12_putsBack := goodIn_r _ [53, 9, 10, 11, 12, 54, 55, 56, 57, 58, 59, 60, 61, 62, 63, 64, 65, 66, 67, 68, 69, 70, 71, 72, 73, 74, 75, 76, 77] (by decide +kernel) (by decide +kernel)
set_option maxRecDepth 20000 in
theorem gX12_times_X12_putsBack : GoodIn wsX12_times (wsV RX12 212 RX12 yX12_putsBack wsX12_putsBack) := goodIn_app (goodIn_of _ (by decide +kernel)) ggX12_times_X12_putsBack
theorem dX12_times_55 : decode cX12_times 55 = .ok (.iload 6, 2) := by decide +kernel
theorem dX12_times_57 : decode cX12_times 57 = .ok (.iload_n 1, 1) := by decide +kernel
theorem dX12_times_58 : decode cX12_times 58 = .ok (.if_icmp .ge 34, 3) := by decide +kernel
theorem dX12_times_92 : decode cX12_times 92 = .ok (.aload_n 0, 1) := by decide +kernel
theorem dX12_times_93 : decode cX12_times 93 = .ok (.iconst 1, 1) := by decide +kernel
theorem dX12_times_94 : decode cX12_times 94 = .ok (.invokevirtual 212, 3) := by decide +kernel
theorem dX12_times_97 : decode cX12_times 97 = .ok (.iload 5, 2) := by decide +kernel
theorem dX12_times_99 : decode cX12_times 99 = .ok (.ireturn, 1) := by decide +kernel
set_option maxRecDepth 20000 in
theorem ggX12_times_X12_deals : GoodIn wsX12_times wsX12_deals := goodIn_r _ (16 :: 10 :: 12 :: 17 :: 18 :: 19 :: 3 :: 20 :: 11 :: 21 :: 22 :: 23 :: 24 :: 25 :: 54 :: 55 :: 56 :: 57 :: 58 :: 59 :: 60 :: 61 :: 62 :: 63 :: 64 :: 65 :: 66 :: 67 :: 68 :: 69 :: 70 :: 71 :: 72 :: 73 :: 74 :: 75 :: 76 :: 77 :: []) (by decide +kernel) (by decide +kernel)
set_option maxRecDepth 20000 in
theorem gX12_times_X12_deals : GoodIn wsX12_times (wsV RX12 219 RX12 yX12_deals wsX12_deals) := goodIn_app (goodIn_of _ (by decide +kernel)) ggX12_times_X12_deals
set_option maxRecDepth 20000 in
theorem ggX12_times_X12_lack : GoodIn wsX12_times wsX12_lack := goodIn_r _ (29 :: 10 :: 30 :: 31 :: 32 :: 3 :: 33 :: 34 :: 35 :: 36 :: 37 :: 38 :: 39 :: 12 :: 40 :: 41 :: 42 :: 43 :: 44 :: 45 :: 46 :: 47 :: 48 :: 49 :: 54 :: 55 :: 56 :: 57 :: 58 :: 59 :: 60 :: 61 :: 62 :: 63 :: 64 :: 65 :: 66 :: 67 :: 68 :: 69 :: 70 :: 71 :: 72 :: 73 :: 74 :: 75 :: 76 :: 77 :: []) (by decide +kernel) (by decide +kernel)
set_option maxRecDepth 20000 in
theorem gX12_times_X12_lack : GoodIn wsX12_times (wsV RX12 95 RX12 yX12_lack wsX12_lack) := goodIn_app (goodIn_of _ (by decide +kernel)) ggX12_times_X12_lack
theorem dX12_times_61 : decode cX12_times 61 = .ok (.aload_n 0, 1) := by decide +kernel
theorem dX12_times_62 : decode cX12_times 62 = .ok (.iload_n 2, 1) := by decide +kernel
theorem dX12_times_63 : decode cX12_times 63 = .ok (.iload_n 3, 1) := by decide +kernel
theorem dX12_times_64 : decode cX12_times 64 = .ok (.invokevirtual 219, 3) := by decide +kernel
theorem dX12_times_67 : decode cX12_times 67 = .ok (.iload 5, 2) := by decide +kernel
theorem dX12_times_69 : decode cX12_times 69 = .ok (.aload_n 0, 1) := by decide +kernel
theorem dX12_times_70 : decode cX12_times 70 = .ok (.invokevirtual 95, 3) := by decide +kernel
theorem dX12_times_73 : decode cX12_times 73 = .ok (.iload 4, 2) := by decide +kernel
theorem dX12_times_75 : decode cX12_times 75 = .ok (.if_icmp .ne 7, 3) := by decide +kernel
theorem dX12_times_78 : decode cX12_times 78 = .ok (.iconst 1, 1) := by decide +kernel
theorem dX12_times_79 : decode cX12_times 79 = .ok (.goto 4, 3) := by decide +kernel
theorem dX12_times_82 : decode cX12_times 82 = .ok (.iconst 0, 1) := by decide +kernel
theorem dX12_times_83 : decode cX12_times 83 = .ok (.iadd, 1) := by decide +kernel
theorem dX12_times_84 : decode cX12_times 84 = .ok (.istore 5, 2) := by decide +kernel
theorem dX12_times_86 : decode cX12_times 86 = .ok (.iinc 6 1, 3) := by decide +kernel
theorem dX12_times_89 : decode cX12_times 89 = .ok (.goto (-34), 3) := by decide +kernel
set_option maxHeartbeats 4000000 in
set_option maxRecDepth 100000 in
theorem c_X12_times (l : Launch) (D : va_G) (cI cS : ClassId) (sz : Nat) (h0 h1 h2 h3 h4 h5 h6 h7 h8 h9 h10 h11 h12 h13 h14 h15 : Nat) (x0 x1 x2 x3 : Int32) : Met l yX12_times wsX12_times ({ frames := 6, cells := 0, slots := 0, locals := 240 }) (PQ D cI cS [(h0, .inr (12, [.int 0, .int 1, .ref h1, .ref h2, .ref h3, .ref h4, .ref h5, .ref h6, .ref h7, .ref h8, .int 0, .int 0, .int 0, .int 0, .int 0, .int 0, .ref h9, .ref h10, .ref h11, .ref h12, .ref h13, .ref h14, .ref h15, .int 0])), (h1, .inl (cI, 12, .inl (fun _ => 0))), (h2, .inl (cI, 4096, .inl (fun _ => 0))), (h3, .inl (cI, 4096, .inl (fun _ => 0))), (h15, .inl (cI, 28, .inl (fun _ => 0)))] sz [.ref h0, .int x0, .int x1, .int x2, .int x3]) (QI D [(h0, .inr (12, [.int 0, .int 1, .ref h1, .ref h2, .ref h3, .ref h4, .ref h5, .ref h6, .ref h7, .ref h8, .int 0, .int 0, .int 0, .int 0, .int 0, .int 0, .ref h9, .ref h10, .ref h11, .ref h12, .ref h13, .ref h14, .ref h15, .int 0])), (h1, .inl (cI, 12, .inl (fun _ => 0))), (h2, .inl (cI, 4096, .inl (fun _ => 0))), (h3, .inl (cI, 4096, .inl (fun _ => 0))), (h15, .inl (cI, 28, .inl (fun _ => 0)))] [] sz (fun r => r = timesR x0 x1 x2 x3)) 0 0 (va_A [(h0, .inr (12, [.int 0, .int 1, .ref h1, .ref h2, .ref h3, .ref h4, .ref h5, .ref h6, .ref h7, .ref h8, .int 0, .int 0, .int 0, .int 0, .int 0, .int 0, .ref h9, .ref h10, .ref h11, .ref h12, .ref h13, .ref h14, .ref h15, .int 0])), (h1, .inl (cI, 12, .inl (fun _ => 0))), (h2, .inl (cI, 4096, .inl (fun _ => 0))), (h3, .inl (cI, 4096, .inl (fun _ => 0))), (h15, .inl (cI, 28, .inl (fun _ => 0)))] sz) := by
  refine Met.ofW (cc := cX12_times) (maxL := 7) (ret := (some .int)) (by decide) rfl ?_
  intro p e s m args below meth c s₁ B hml hv
  obtain ⟨rfl, hsz, hP, hKK, hD0⟩ := hv
  have hx := B.exec
  have hb := B.bytes
  have hr := B.returns
  have hts := atoms_spec (ws := wsX12_times) B.pre
  have hown : s.vm.findClass RX12 = some m.cls := findClass_of_methodNamed B.named
  have hlocks := B.notSynchronized
  have hK := hKK.1
  have hN := hKK.2
  have hin12 : ∀ w ∈ wsX120, w ∈ wsX12_times := by decide +kernel
  subst hsz
  have hD := hD0.self (sz := s.heap.size)
  obtain ⟨A, hAe⟩ : ∃ A, A = va_A [(h0, .inr (12, [.int 0, .int 1, .ref h1, .ref h2, .ref h3, .ref h4, .ref h5, .ref h6, .ref h7, .ref h8, .int 0, .int 0, .int 0, .int 0, .int 0, .int 0, .ref h9, .ref h10, .ref h11, .ref h12, .ref h13, .ref h14, .ref h15, .int 0])), (h1, .inl (cI, 12, .inl (fun _ => 0))), (h2, .inl (cI, 4096, .inl (fun _ => 0))), (h3, .inl (cI, 4096, .inl (fun _ => 0))), (h15, .inl (cI, 28, .inl (fun _ => 0)))] s.heap.size := ⟨_, rfl⟩
  rw [← hAe] at hD
  have hA : ∀ q : Nat, s.heap.size ≤ q → A q := fun q h => by rw [hAe]; exact Or.inr h
  have hS : va_S A s.heap s.heap [] := va_S.rf
  have hl := lv_entry ([.ref h0, .int x0, .int x1, .int x2, .int x3]) (n := 7) (Nat.le_of_ble_eq_true rfl)
  rw [lg_entry_eq]
  generalize (lg_sl ([.ref h0, .int x0, .int x1, .int x2, .int x3]) ++ List.replicate (7 - (lg_sl ([.ref h0, .int x0, .int x1, .int x2, .int x3])).length) Slot.unset).toArray = ls at hl ⊢
  have hl : lv_has ls 7 [(0, .ref h0), (1, .int x0), (2, .int x1), (3, .int x2), (4, .int x3)] := hl
  refine lv_iload_n hx hb dX12_times_0 rfl (lv_at hl 1 rfl) ?_
  refine lv_iconst (v := 1) hx hb dX12_times_1 (by decide) ?_
  refine lv_bipush (v := 20) hx hb dX12_times_2 (by decide) ?_
  have hPc := hP.sub (ws' := []) [] rfl
  refine lz_ss (As := [.int x0, .int 1, .int 20]) (rest := []) ⟨hx, hb, hml, hown, hts⟩ (c_X12_in_16 l D cI cS x0) hKK hPc (va_cwS 3 hts gX12_times_X12_in rfl rfl rfl (by decide +kernel) ⟨Nat.le_of_ble_eq_true rfl, Nat.le_of_ble_eq_true rfl⟩) rfl hl.1 rfl (Nat.le_of_ble_eq_true rfl) dX12_times_4 ⟨Nat.le_of_ble_eq_true rfl, Nat.le_of_ble_eq_true rfl⟩ (fun r5155 hw => ?_)
  by_cases k5156 : x0 < 1
  · rw [if_pos k5156] at hw
    subst hw
    refine lv_if_eq (tgt := 41) hx hb dX12_times_7 (by decide) (fun c5157 => ?_) (fun c5157 => ?_)
    · refine lv_bipush (v := (-2)) hx hb dX12_times_41 (by decide) ?_
      have hP9 := hP.sub (ws' := []) [] rfl
      have hD9 := hD.sub (ws' := []) [] (by decide) rfl
      subst hAe
      exact W.iret (v := (-2)) hx hb hr (fun t ht hW => ⟨⟨_, (), rfl, by unfold timesR; rw [if_pos k5156], by rw [ht]; exact hP9, hD9⟩, hS.F ht⟩) hS.2.2 dX12_times_43
    · exact absurd c5157 (by decide)
  · rw [if_neg k5156] at hw
    by_cases k5158 : (20 : Int32) < x0
    · rw [if_pos k5158] at hw
      subst hw
      refine lv_if_eq (tgt := 41) hx hb dX12_times_7 (by decide) (fun c5159 => ?_) (fun c5159 => ?_)
      · refine lv_bipush (v := (-2)) hx hb dX12_times_41 (by decide) ?_
        have hP9 := hP.sub (ws' := []) [] rfl
        have hD9 := hD.sub (ws' := []) [] (by decide) rfl
        subst hAe
        exact W.iret (v := (-2)) hx hb hr (fun t ht hW => ⟨⟨_, (), rfl, by unfold timesR; rw [if_neg k5156, if_pos k5158], by rw [ht]; exact hP9, hD9⟩, hS.F ht⟩) hS.2.2 dX12_times_43
      · exact absurd c5159 (by decide)
    · rw [if_neg k5158] at hw
      subst hw
      refine lv_if_eq (tgt := 41) hx hb dX12_times_7 (by decide) (fun c5160 => ?_) (fun c5160 => ?_)
      · exact absurd c5160 (by decide)
      · refine lv_iload_n hx hb dX12_times_10 rfl (lv_at hl 2 rfl) ?_
        refine lv_iconst (v := 0) hx hb dX12_times_11 (by decide) ?_
        refine lv_bipush (v := 12) hx hb dX12_times_12 (by decide) ?_
        have hPc := hP.sub (ws' := []) [] rfl
        refine lz_ss (As := [.int x1, .int 0, .int 12]) (rest := []) ⟨hx, hb, hml, hown, hts⟩ (c_X12_in_14 l D cI cS x1) hKK hPc (va_cwS 3 hts gX12_times_X12_in rfl rfl rfl (by decide +kernel) ⟨Nat.le_of_ble_eq_true rfl, Nat.le_of_ble_eq_true rfl⟩) rfl hl.1 rfl (Nat.le_of_ble_eq_true rfl) dX12_times_14 ⟨Nat.le_of_ble_eq_true rfl, Nat.le_of_ble_eq_true rfl⟩ (fun r5161 hw => ?_)
        by_cases k5162 : x1 < 0
        · rw [if_pos k5162] at hw
          subst hw
          refine lv_if_eq (tgt := 41) hx hb dX12_times_17 (by decide) (fun c5163 => ?_) (fun c5163 => ?_)
          · refine lv_bipush (v := (-2)) hx hb dX12_times_41 (by decide) ?_
            have hP9 := hP.sub (ws' := []) [] rfl
            have hD9 := hD.sub (ws' := []) [] (by decide) rfl
            subst hAe
            exact W.iret (v := (-2)) hx hb hr (fun t ht hW => ⟨⟨_, (), rfl, by unfold timesR; rw [if_neg k5156, if_neg k5158, if_pos k5162], by rw [ht]; exact hP9, hD9⟩, hS.F ht⟩) hS.2.2 dX12_times_43
          · exact absurd c5163 (by decide)
        · rw [if_neg k5162] at hw
          by_cases k5164 : (12 : Int32) < x1
          · rw [if_pos k5164] at hw
            subst hw
            refine lv_if_eq (tgt := 41) hx hb dX12_times_17 (by decide) (fun c5165 => ?_) (fun c5165 => ?_)
            · refine lv_bipush (v := (-2)) hx hb dX12_times_41 (by decide) ?_
              have hP9 := hP.sub (ws' := []) [] rfl
              have hD9 := hD.sub (ws' := []) [] (by decide) rfl
              subst hAe
              exact W.iret (v := (-2)) hx hb hr (fun t ht hW => ⟨⟨_, (), rfl, by unfold timesR; rw [if_neg k5156, if_neg k5158, if_neg k5162, if_pos k5164], by rw [ht]; exact hP9, hD9⟩, hS.F ht⟩) hS.2.2 dX12_times_43
            · exact absurd c5165 (by decide)
          · rw [if_neg k5164] at hw
            subst hw
            refine lv_if_eq (tgt := 41) hx hb dX12_times_17 (by decide) (fun c5166 => ?_) (fun c5166 => ?_)
            · exact absurd c5166 (by decide)
            · refine lv_iload_n hx hb dX12_times_20 rfl (lv_at hl 3 rfl) ?_
              refine lv_iconst (v := 0) hx hb dX12_times_21 (by decide) ?_
              refine lv_bipush (v := 10) hx hb dX12_times_22 (by decide) ?_
              have hPc := hP.sub (ws' := []) [] rfl
              refine lz_ss (As := [.int x2, .int 0, .int 10]) (rest := []) ⟨hx, hb, hml, hown, hts⟩ (c_X12_in_15 l D cI cS x2) hKK hPc (va_cwS 3 hts gX12_times_X12_in rfl rfl rfl (by decide +kernel) ⟨Nat.le_of_ble_eq_true rfl, Nat.le_of_ble_eq_true rfl⟩) rfl hl.1 rfl (Nat.le_of_ble_eq_true rfl) dX12_times_24 ⟨Nat.le_of_ble_eq_true rfl, Nat.le_of_ble_eq_true rfl⟩ (fun r5167 hw => ?_)
              by_cases k5168 : x2 < 0
              · rw [if_pos k5168] at hw
                subst hw
                refine lv_if_eq (tgt := 41) hx hb dX12_times_27 (by decide) (fun c5169 => ?_) (fun c5169 => ?_)
                · refine lv_bipush (v := (-2)) hx hb dX12_times_41 (by decide) ?_
                  have hP9 := hP.sub (ws' := []) [] rfl
                  have hD9 := hD.sub (ws' := []) [] (by decide) rfl
                  subst hAe
                  exact W.iret (v := (-2)) hx hb hr (fun t ht hW => ⟨⟨_, (), rfl, by unfold timesR; rw [if_neg k5156, if_neg k5158, if_neg k5162, if_neg k5164, if_pos k5168], by rw [ht]; exact hP9, hD9⟩, hS.F ht⟩) hS.2.2 dX12_times_43
                · exact absurd c5169 (by decide)
              · rw [if_neg k5168] at hw
                by_cases k5170 : (10 : Int32) < x2
                · rw [if_pos k5170] at hw
                  subst hw
                  refine lv_if_eq (tgt := 41) hx hb dX12_times_27 (by decide) (fun c5171 => ?_) (fun c5171 => ?_)
                  · refine lv_bipush (v := (-2)) hx hb dX12_times_41 (by decide) ?_
                    have hP9 := hP.sub (ws' := []) [] rfl
                    have hD9 := hD.sub (ws' := []) [] (by decide) rfl
                    subst hAe
                    exact W.iret (v := (-2)) hx hb hr (fun t ht hW => ⟨⟨_, (), rfl, by unfold timesR; rw [if_neg k5156, if_neg k5158, if_neg k5162, if_neg k5164, if_neg k5168, if_pos k5170], by rw [ht]; exact hP9, hD9⟩, hS.F ht⟩) hS.2.2 dX12_times_43
                  · exact absurd c5171 (by decide)
                · rw [if_neg k5170] at hw
                  subst hw
                  refine lv_if_eq (tgt := 41) hx hb dX12_times_27 (by decide) (fun c5172 => ?_) (fun c5172 => ?_)
                  · exact absurd c5172 (by decide)
                  · refine lv_iload hx hb dX12_times_30 (lv_at hl 4 rfl) ?_
                    refine lv_iconst (v := 0) hx hb dX12_times_32 (by decide) ?_
                    refine lv_bipush (v := 12) hx hb dX12_times_33 (by decide) ?_
                    have hPc := hP.sub (ws' := []) [] rfl
                    refine lz_ss (As := [.int x3, .int 0, .int 12]) (rest := []) ⟨hx, hb, hml, hown, hts⟩ (c_X12_in_14 l D cI cS x3) hKK hPc (va_cwS 3 hts gX12_times_X12_in rfl rfl rfl (by decide +kernel) ⟨Nat.le_of_ble_eq_true rfl, Nat.le_of_ble_eq_true rfl⟩) rfl hl.1 rfl (Nat.le_of_ble_eq_true rfl) dX12_times_35 ⟨Nat.le_of_ble_eq_true rfl, Nat.le_of_ble_eq_true rfl⟩ (fun r5173 hw => ?_)
                    by_cases k5174 : x3 < 0
                    · rw [if_pos k5174] at hw
                      subst hw
                      refine lv_if_ne (tgt := 44) hx hb dX12_times_38 (by decide) (fun c5175 => ?_) (fun c5175 => ?_)
                      · exact absurd c5175 (by decide)
                      · refine lv_bipush (v := (-2)) hx hb dX12_times_41 (by decide) ?_
                        have hP9 := hP.sub (ws' := []) [] rfl
                        have hD9 := hD.sub (ws' := []) [] (by decide) rfl
                        subst hAe
                        exact W.iret (v := (-2)) hx hb hr (fun t ht hW => ⟨⟨_, (), rfl, by unfold timesR; rw [if_neg k5156, if_neg k5158, if_neg k5162, if_neg k5164, if_neg k5168, if_neg k5170, if_pos k5174], by rw [ht]; exact hP9, hD9⟩, hS.F ht⟩) hS.2.2 dX12_times_43
                    · rw [if_neg k5174] at hw
                      by_cases k5176 : (12 : Int32) < x3
                      · rw [if_pos k5176] at hw
                        subst hw
                        refine lv_if_ne (tgt := 44) hx hb dX12_times_38 (by decide) (fun c5177 => ?_) (fun c5177 => ?_)
                        · exact absurd c5177 (by decide)
                        · refine lv_bipush (v := (-2)) hx hb dX12_times_41 (by decide) ?_
                          have hP9 := hP.sub (ws' := []) [] rfl
                          have hD9 := hD.sub (ws' := []) [] (by decide) rfl
                          subst hAe
                          exact W.iret (v := (-2)) hx hb hr (fun t ht hW => ⟨⟨_, (), rfl, by unfold timesR; rw [if_neg k5156, if_neg k5158, if_neg k5162, if_neg k5164, if_neg k5168, if_neg k5170, if_neg k5174, if_pos k5176], by rw [ht]; exact hP9, hD9⟩, hS.F ht⟩) hS.2.2 dX12_times_43
                      · rw [if_neg k5176] at hw
                        subst hw
                        refine lv_if_ne (tgt := 44) hx hb dX12_times_38 (by decide) (fun c5178 => ?_) (fun c5178 => ?_)
                        · have hR : timesR x0 x1 x2 x3 = cT x2 x3 x1.toNatClampNeg x0.toNatClampNeg := by unfold timesR; rw [if_neg k5156, if_neg k5158, if_neg k5162, if_neg k5164, if_neg k5168, if_neg k5170, if_neg k5174, if_neg k5176]
                          obtain ⟨k, hk, rfl⟩ := nI_of2 (M := 12) (n := 12) (by decide) k5162 (Int32.not_lt.mp k5164)
                          obtain ⟨nn, hnn, rfl⟩ := nI_of2 (x := x0) (M := 20) (n := 20) (by decide) (fun z => k5156 (by have a9 := (lz_lt _ _).mp z; have b9 : (0 : Int32).toInt = 0 := (by decide); have c9 : (1 : Int32).toInt = 1 := (by decide); rw [lz_lt]; omega)) (Int32.not_lt.mp k5158)
                          rw [nI_clamp (by omega), nI_clamp (by omega)] at hR
                          have lp : ∀ (r i : Nat) (mv : Int32) (g P G : Nat → Int32), i + r = nn → P 0 = 0 → ∀ (ls : Array Slot) (H : Heap) (locs : List Loc), va_P D cls [(h0, .inr (12, [.int mv, .int (zN x2 k i), .ref h1, .ref h2, .ref h3, .ref h4, .ref h5, .ref h6, .ref h7, .ref h8, .int 0, .int 0, .int 0, .int 0, .int 0, .int 0, .ref h9, .ref h10, .ref h11, .ref h12, .ref h13, .ref h14, .ref h15, .int 0])), (h1, .inl (cI, 12, .inl g)), (h2, .inl (cI, 4096, .inl P)), (h3, .inl (cI, 4096, .inl G)), (h15, .inl (cI, 28, .inl (upd (upd (upd (upd (upd (upd (upd (upd (upd (upd (upd (upd (upd (fun _ => 0) 15 1) 16 0) 17 0) 18 0) 19 0) 20 0) 21 0) 22 0) 23 0) 24 0) 25 0) 26 0) 27 0)))] H → va_D A [(h0, .inr (12, [.int mv, .int (zN x2 k i), .ref h1, .ref h2, .ref h3, .ref h4, .ref h5, .ref h6, .ref h7, .ref h8, .int 0, .int 0, .int 0, .int 0, .int 0, .int 0, .ref h9, .ref h10, .ref h11, .ref h12, .ref h13, .ref h14, .ref h15, .int 0])), (h1, .inl (cI, 12, .inl g)), (h2, .inl (cI, 4096, .inl P)), (h3, .inl (cI, 4096, .inl G)), (h15, .inl (cI, 28, .inl (upd (upd (upd (upd (upd (upd (upd (upd (upd (upd (upd (upd (upd (fun _ => 0) 15 1) 16 0) 17 0) 18 0) 19 0) 20 0) 21 0) 22 0) 23 0) 24 0) 25 0) 26 0) 27 0)))] → va_S A s.heap H locs → lv_has ls 7 [(6, .int (nI i)), (5, .int (cT x2 x3 k i)), (0, .ref h0), (1, .int (nI nn)), (2, .int (nI k)), (3, .int x2), (4, .int x3)] → W p l e (headSpec wsX12_times ({ frames := 6, cells := 0, slots := 0, locals := 240 })).room s m ([.ref h0, .int (nI nn), .int (nI k), .int x2, .int x3]).toArray below meth c H locs 0 0 (MQ below (QI D [(h0, .inr (12, [.int 0, .int 1, .ref h1, .ref h2, .ref h3, .ref h4, .ref h5, .ref h6, .ref h7, .ref h8, .int 0, .int 0, .int 0, .int 0, .int 0, .int 0, .ref h9, .ref h10, .ref h11, .ref h12, .ref h13, .ref h14, .ref h15, .int 0])), (h1, .inl (cI, 12, .inl (fun _ => 0))), (h2, .inl (cI, 4096, .inl (fun _ => 0))), (h3, .inl (cI, 4096, .inl (fun _ => 0))), (h15, .inl (cI, 28, .inl (fun _ => 0)))] [] s.heap.size (fun r => r = timesR (nI nn) (nI k) x2 x3)) ([.ref h0, .int (nI nn), .int (nI k), .int x2, .int x3]).toArray s 0 0 (va_A [(h0, .inr (12, [.int 0, .int 1, .ref h1, .ref h2, .ref h3, .ref h4, .ref h5, .ref h6, .ref h7, .ref h8, .int 0, .int 0, .int 0, .int 0, .int 0, .int 0, .ref h9, .ref h10, .ref h11, .ref h12, .ref h13, .ref h14, .ref h15, .int 0])), (h1, .inl (cI, 12, .inl (fun _ => 0))), (h2, .inl (cI, 4096, .inl (fun _ => 0))), (h3, .inl (cI, 4096, .inl (fun _ => 0))), (h15, .inl (cI, 28, .inl (fun _ => 0)))] s.heap.size)) (F0 m 55 ls []) := by
                            intro r
                            induction r with
                            | zero =>
                              intro i mv g P G hi hP0 ls H locs hP hD hS hl
                              obtain rfl : i = nn := by omega
                              refine lv_iload hx hb dX12_times_55 (lv_at hl 0 rfl) ?_
                              refine lv_iload_n hx hb dX12_times_57 rfl (lv_at hl 3 rfl) ?_
                              refine lv_icmp_ge (tgt := 92) hx hb dX12_times_58 (by decide) (fun c5206 => ?_) (fun c5206 => ?_)
                              · refine lv_aload_n hx hb dX12_times_92 rfl (lv_at hl 2 rfl) ?_
                                refine lv_iconst (v := 1) hx hb dX12_times_93 (by decide) ?_
                                have hPc := hP.sub (ws' := [(h0, .inr (12, [.int mv, .int (zN x2 k i), .ref h1, .ref h2, .ref h3, .ref h4, .ref h5, .ref h6, .ref h7, .ref h8, .int 0, .int 0, .int 0, .int 0, .int 0, .int 0, .ref h9, .ref h10, .ref h11, .ref h12, .ref h13, .ref h14, .ref h15, .int 0])), (h1, .inl (cI, 12, .inl g)), (h15, .inl (cI, 28, .inl (upd (upd (upd (upd (upd (upd (upd (upd (upd (upd (upd (upd (upd (fun _ => 0) 15 1) 16 0) 17 0) 18 0) 19 0) 20 0) 21 0) 22 0) 23 0) 24 0) 25 0) 26 0) 27 0)))]) [0, 1, 4] rfl
                                have hDc := hD.sub (ws' := [(h0, .inr (12, [.int mv, .int (zN x2 k i), .ref h1, .ref h2, .ref h3, .ref h4, .ref h5, .ref h6, .ref h7, .ref h8, .int 0, .int 0, .int 0, .int 0, .int 0, .int 0, .ref h9, .ref h10, .ref h11, .ref h12, .ref h13, .ref h14, .ref h15, .int 0])), (h1, .inl (cI, 12, .inl g)), (h15, .inl (cI, 28, .inl (upd (upd (upd (upd (upd (upd (upd (upd (upd (upd (upd (upd (upd (fun _ => 0) 15 1) 16 0) 17 0) 18 0) 19 0) 20 0) 21 0) 22 0) 23 0) 24 0) 25 0) 26 0) 27 0)))]) [0, 1, 4] (by decide) rfl
                                refine lz_qv (wr := [(h2, .inl (cI, 4096, .inl P)), (h3, .inl (cI, 4096, .inl G))]) (w1 := [(h0, .inr (12, [.int 0, .int 1, .ref h1, .ref h2, .ref h3, .ref h4, .ref h5, .ref h6, .ref h7, .ref h8, .int 0, .int 0, .int 0, .int 0, .int 0, .int 0, .ref h9, .ref h10, .ref h11, .ref h12, .ref h13, .ref h14, .ref h15, .int 0])), (h1, .inl (cI, 12, .inl (upd (upd (upd (upd (upd (upd (upd (upd (upd (upd (upd (upd g 0 0) 1 0) 2 0) 3 0) 4 0) 5 0) 6 0) 7 0) 8 0) 9 0) 10 0) 11 0))), (h15, .inl (cI, 28, .inl (upd (upd (upd (upd (upd (upd (upd (upd (upd (upd (upd (upd (upd (fun _ => 0) 15 1) 16 0) 17 0) 18 0) 19 0) 20 0) 21 0) 22 0) 23 0) 24 0) 25 0) 26 0) 27 0)))]) (As := [.int 1]) (rest := []) ⟨hx, hb, hml, hown, hts⟩ (c_X12_putsBack_1 l D cI cS _ h0 h1 h2 h3 h4 h5 h6 h7 h8 h9 h10 h11 h12 h13 h14 h15 (g) mv (zN x2 k i)) hKK hP hD hS hA [0, 1, 4] [2, 3] (by decide) rfl rfl (by decide) (by decide) hPc hDc (ci := 12) rfl rfl (cwV 1 hts gX12_times_X12_putsBack rfl rfl rfl (by decide +kernel) ⟨Nat.le_of_ble_eq_true rfl, Nat.le_of_ble_eq_true rfl⟩) rfl hl.1 rfl (Nat.le_of_ble_eq_true rfl) dX12_times_94 ⟨Nat.le_of_ble_eq_true rfl, Nat.le_of_ble_eq_true rfl⟩ (fun H locs hP hD hS => ?_)
                                have hP : va_P D cls [(h2, .inl (cI, 4096, .inl P)), (h3, .inl (cI, 4096, .inl G)), (h0, .inr (12, [.int 0, .int 1, .ref h1, .ref h2, .ref h3, .ref h4, .ref h5, .ref h6, .ref h7, .ref h8, .int 0, .int 0, .int 0, .int 0, .int 0, .int 0, .ref h9, .ref h10, .ref h11, .ref h12, .ref h13, .ref h14, .ref h15, .int 0])), (h1, .inl (cI, 12, .inl (upd (upd (upd (upd (upd (upd (upd (upd (upd (upd (upd (upd g 0 0) 1 0) 2 0) 3 0) 4 0) 5 0) 6 0) 7 0) 8 0) 9 0) 10 0) 11 0))), (h15, .inl (cI, 28, .inl (upd (upd (upd (upd (upd (upd (upd (upd (upd (upd (upd (upd (upd (fun _ => 0) 15 1) 16 0) 17 0) 18 0) 19 0) 20 0) 21 0) 22 0) 23 0) 24 0) 25 0) 26 0) 27 0)))] H := hP
                                have hD : va_D A [(h2, .inl (cI, 4096, .inl P)), (h3, .inl (cI, 4096, .inl G)), (h0, .inr (12, [.int 0, .int 1, .ref h1, .ref h2, .ref h3, .ref h4, .ref h5, .ref h6, .ref h7, .ref h8, .int 0, .int 0, .int 0, .int 0, .int 0, .int 0, .ref h9, .ref h10, .ref h11, .ref h12, .ref h13, .ref h14, .ref h15, .int 0])), (h1, .inl (cI, 12, .inl (upd (upd (upd (upd (upd (upd (upd (upd (upd (upd (upd (upd g 0 0) 1 0) 2 0) 3 0) 4 0) 5 0) 6 0) 7 0) 8 0) 9 0) 10 0) 11 0))), (h15, .inl (cI, 28, .inl (upd (upd (upd (upd (upd (upd (upd (upd (upd (upd (upd (upd (upd (fun _ => 0) 15 1) 16 0) 17 0) 18 0) 19 0) 20 0) 21 0) 22 0) 23 0) 24 0) 25 0) 26 0) 27 0)))] := hD
                                refine lv_iload hx hb dX12_times_97 (lv_at hl 1 rfl) ?_
                                have hP9 := hP.sub (ws' := []) [] rfl
                                have hD9 := hD.sub (ws' := []) [] (by decide) rfl
                                subst hAe
                                exact W.iret (v := cT x2 x3 k i) hx hb hr (fun t ht hW => ⟨⟨_, (), rfl, hR.symm, by rw [ht]; exact hP9, hD9⟩, hS.F ht⟩) hS.2.2 dX12_times_99
                              · exact absurd (nI_le (Nat.le_refl _) (by omega)) c5206
                            | succ r ih =>
                              intro i mv g P G hi hP0 ls H locs hP hD hS hl
                              refine lv_iload hx hb dX12_times_55 (lv_at hl 0 rfl) ?_
                              refine lv_iload_n hx hb dX12_times_57 rfl (lv_at hl 3 rfl) ?_
                              refine lv_icmp_ge (tgt := 92) hx hb dX12_times_58 (by decide) (fun c5234 => ?_) (fun c5234 => ?_)
                              · exact absurd c5234 (nI_ge (show i < nn by omega) (by omega))
                              · refine lv_aload_n hx hb dX12_times_61 rfl (lv_at hl 2 rfl) ?_
                                refine lv_iload_n hx hb dX12_times_62 rfl (lv_at hl 4 rfl) ?_
                                refine lv_iload_n hx hb dX12_times_63 rfl (lv_at hl 5 rfl) ?_
                                have hPc := hP.sub (ws' := [(h0, .inr (12, [.int mv, .int (zN x2 k i), .ref h1, .ref h2, .ref h3, .ref h4, .ref h5, .ref h6, .ref h7, .ref h8, .int 0, .int 0, .int 0, .int 0, .int 0, .int 0, .ref h9, .ref h10, .ref h11, .ref h12, .ref h13, .ref h14, .ref h15, .int 0])), (h1, .inl (cI, 12, .inl g))]) [0, 1] rfl
                                have hDc := hD.sub (ws' := [(h0, .inr (12, [.int mv, .int (zN x2 k i), .ref h1, .ref h2, .ref h3, .ref h4, .ref h5, .ref h6, .ref h7, .ref h8, .int 0, .int 0, .int 0, .int 0, .int 0, .int 0, .ref h9, .ref h10, .ref h11, .ref h12, .ref h13, .ref h14, .ref h15, .int 0])), (h1, .inl (cI, 12, .inl g))]) [0, 1] (by decide) rfl
                                refine lz_qe (wr := [(h2, .inl (cI, 4096, .inl P)), (h3, .inl (cI, 4096, .inl G)), (h15, .inl (cI, 28, .inl (upd (upd (upd (upd (upd (upd (upd (upd (upd (upd (upd (upd (upd (fun _ => 0) 15 1) 16 0) 17 0) 18 0) 19 0) 20 0) 21 0) 22 0) 23 0) 24 0) 25 0) 26 0) 27 0)))]) (w1 := fun (g : Nat → Int32) => [(h0, .inr (12, [.int (nI k), .int ((dO x2 k (zN x2 k i) k).2), .ref h1, .ref h2, .ref h3, .ref h4, .ref h5, .ref h6, .ref h7, .ref h8, .int 0, .int 0, .int 0, .int 0, .int 0, .int 0, .ref h9, .ref h10, .ref h11, .ref h12, .ref h13, .ref h14, .ref h15, .int 0])), (h1, .inl (cI, 12, .inl g))]) (As := [.int (nI k), .int x2]) (rest := []) ⟨hx, hb, hml, hown, hts⟩ (c_deals l D cI cS _ h0 h1 h2 h3 h4 h5 h6 h7 h8 h9 h10 h11 h12 h13 h14 h15 g mv (zN x2 k i) x2 k hk) hKK hP hD hS hA [0, 1] [2, 3, 4] (by decide) rfl rfl (by decide) (by decide) hPc hDc (ci := 12) rfl rfl (cwV 2 hts gX12_times_X12_deals rfl rfl rfl (by decide +kernel) ⟨Nat.le_of_ble_eq_true rfl, Nat.le_of_ble_eq_true rfl⟩) rfl hl.1 rfl (Nat.le_of_ble_eq_true rfl) dX12_times_64 ⟨Nat.le_of_ble_eq_true rfl, Nat.le_of_ble_eq_true rfl⟩ (fun u H locs hu hP hD hS => ?_)
                                have hP : va_P D cls [(h2, .inl (cI, 4096, .inl P)), (h3, .inl (cI, 4096, .inl G)), (h15, .inl (cI, 28, .inl (upd (upd (upd (upd (upd (upd (upd (upd (upd (upd (upd (upd (upd (fun _ => 0) 15 1) 16 0) 17 0) 18 0) 19 0) 20 0) 21 0) 22 0) 23 0) 24 0) 25 0) 26 0) 27 0))), (h0, .inr (12, [.int (nI k), .int ((dO x2 k (zN x2 k i) k).2), .ref h1, .ref h2, .ref h3, .ref h4, .ref h5, .ref h6, .ref h7, .ref h8, .int 0, .int 0, .int 0, .int 0, .int 0, .int 0, .ref h9, .ref h10, .ref h11, .ref h12, .ref h13, .ref h14, .ref h15, .int 0])), (h1, .inl (cI, 12, .inl u))] H := hP
                                have hD : va_D A [(h2, .inl (cI, 4096, .inl P)), (h3, .inl (cI, 4096, .inl G)), (h15, .inl (cI, 28, .inl (upd (upd (upd (upd (upd (upd (upd (upd (upd (upd (upd (upd (upd (fun _ => 0) 15 1) 16 0) 17 0) 18 0) 19 0) 20 0) 21 0) 22 0) 23 0) 24 0) 25 0) 26 0) 27 0))), (h0, .inr (12, [.int (nI k), .int ((dO x2 k (zN x2 k i) k).2), .ref h1, .ref h2, .ref h3, .ref h4, .ref h5, .ref h6, .ref h7, .ref h8, .int 0, .int 0, .int 0, .int 0, .int 0, .int 0, .ref h9, .ref h10, .ref h11, .ref h12, .ref h13, .ref h14, .ref h15, .int 0])), (h1, .inl (cI, 12, .inl u))] := hD
                                generalize u = g1 at hu hP hD
                                have hg1 := hu
                                have hP : va_P D cls [(h2, .inl (cI, 4096, .inl P)), (h3, .inl (cI, 4096, .inl G)), (h15, .inl (cI, 28, .inl (upd (upd (upd (upd (upd (upd (upd (upd (upd (upd (upd (upd (upd (fun _ => 0) 15 1) 16 0) 17 0) 18 0) 19 0) 20 0) 21 0) 22 0) 23 0) 24 0) 25 0) 26 0) 27 0))), (h0, .inr (12, [.int (nI k), .int ((dO x2 k (zN x2 k i) k).2), .ref h1, .ref h2, .ref h3, .ref h4, .ref h5, .ref h6, .ref h7, .ref h8, .int 0, .int 0, .int 0, .int 0, .int 0, .int 0, .ref h9, .ref h10, .ref h11, .ref h12, .ref h13, .ref h14, .ref h15, .int 0])), (h1, .inl (cI, 12, .inl g1))] H := hP
                                have hD : va_D A [(h2, .inl (cI, 4096, .inl P)), (h3, .inl (cI, 4096, .inl G)), (h15, .inl (cI, 28, .inl (upd (upd (upd (upd (upd (upd (upd (upd (upd (upd (upd (upd (upd (fun _ => 0) 15 1) 16 0) 17 0) 18 0) 19 0) 20 0) 21 0) 22 0) 23 0) 24 0) 25 0) 26 0) 27 0))), (h0, .inr (12, [.int (nI k), .int ((dO x2 k (zN x2 k i) k).2), .ref h1, .ref h2, .ref h3, .ref h4, .ref h5, .ref h6, .ref h7, .ref h8, .int 0, .int 0, .int 0, .int 0, .int 0, .int 0, .ref h9, .ref h10, .ref h11, .ref h12, .ref h13, .ref h14, .ref h15, .int 0])), (h1, .inl (cI, 12, .inl g1))] := hD
                                refine lv_iload hx hb dX12_times_67 (lv_at hl 1 rfl) ?_
                                refine lv_aload_n hx hb dX12_times_69 rfl (lv_at hl 2 rfl) ?_
                                have hPc := hP.sub (ws' := [(h0, .inr (12, [.int (nI k), .int ((dO x2 k (zN x2 k i) k).2), .ref h1, .ref h2, .ref h3, .ref h4, .ref h5, .ref h6, .ref h7, .ref h8, .int 0, .int 0, .int 0, .int 0, .int 0, .int 0, .ref h9, .ref h10, .ref h11, .ref h12, .ref h13, .ref h14, .ref h15, .int 0])), (h1, .inl (cI, 12, .inl g1)), (h2, .inl (cI, 4096, .inl P)), (h3, .inl (cI, 4096, .inl G))]) [3, 4, 0, 1] rfl
                                have hDc := hD.sub (ws' := [(h0, .inr (12, [.int (nI k), .int ((dO x2 k (zN x2 k i) k).2), .ref h1, .ref h2, .ref h3, .ref h4, .ref h5, .ref h6, .ref h7, .ref h8, .int 0, .int 0, .int 0, .int 0, .int 0, .int 0, .ref h9, .ref h10, .ref h11, .ref h12, .ref h13, .ref h14, .ref h15, .int 0])), (h1, .inl (cI, 12, .inl g1)), (h2, .inl (cI, 4096, .inl P)), (h3, .inl (cI, 4096, .inl G))]) [3, 4, 0, 1] (by decide) rfl
                                refine lz_qf (wr := [(h15, .inl (cI, 28, .inl (upd (upd (upd (upd (upd (upd (upd (upd (upd (upd (upd (upd (upd (fun _ => 0) 15 1) 16 0) 17 0) 18 0) 19 0) 20 0) 21 0) 22 0) 23 0) 24 0) 25 0) 26 0) 27 0)))]) (w1 := fun (u : (Nat → Int32) × (Nat → Int32)) => [(h0, .inr (12, [.int (nI k), .int ((dO x2 k (zN x2 k i) k).2), .ref h1, .ref h2, .ref h3, .ref h4, .ref h5, .ref h6, .ref h7, .ref h8, .int 0, .int 0, .int 0, .int 0, .int 0, .int 0, .ref h9, .ref h10, .ref h11, .ref h12, .ref h13, .ref h14, .ref h15, .int 0])), (h1, .inl (cI, 12, .inl g1)), (h2, .inl (cI, 4096, .inl u.1)), (h3, .inl (cI, 4096, .inl u.2))]) (As := []) (rest := [.int (cT x2 x3 k i)]) ⟨hx, hb, hml, hown, hts⟩ (c_lackM l D cI cS _ h0 h1 h2 h3 h4 h5 h6 h7 h8 h9 h10 h11 h12 h13 h14 h15 g1 P G (dO x2 k (zN x2 k i) k).2 k hk ((dO_lo hk k (Nat.le_refl _)).like hg1) (Sym.like hg1 (dO_sym hk k (Nat.le_refl _))) hP0) hKK hP hD hS hA [3, 4, 0, 1] [2] (by decide) rfl rfl (by decide) (by decide) hPc hDc (ci := 12) rfl rfl (cwV 0 hts gX12_times_X12_lack rfl rfl rfl (by decide +kernel) ⟨Nat.le_of_ble_eq_true rfl, Nat.le_of_ble_eq_true rfl⟩) rfl hl.1 rfl (Nat.le_of_ble_eq_true rfl) dX12_times_70 ⟨Nat.le_of_ble_eq_true rfl, Nat.le_of_ble_eq_true rfl⟩ (fun r9 u H locs hq hP hD hS => ?_)
                                have hP : va_P D cls [(h15, .inl (cI, 28, .inl (upd (upd (upd (upd (upd (upd (upd (upd (upd (upd (upd (upd (upd (fun _ => 0) 15 1) 16 0) 17 0) 18 0) 19 0) 20 0) 21 0) 22 0) 23 0) 24 0) 25 0) 26 0) 27 0))), (h0, .inr (12, [.int (nI k), .int ((dO x2 k (zN x2 k i) k).2), .ref h1, .ref h2, .ref h3, .ref h4, .ref h5, .ref h6, .ref h7, .ref h8, .int 0, .int 0, .int 0, .int 0, .int 0, .int 0, .ref h9, .ref h10, .ref h11, .ref h12, .ref h13, .ref h14, .ref h15, .int 0])), (h1, .inl (cI, 12, .inl g1)), (h2, .inl (cI, 4096, .inl u.1)), (h3, .inl (cI, 4096, .inl u.2))] H := hP
                                have hD : va_D A [(h15, .inl (cI, 28, .inl (upd (upd (upd (upd (upd (upd (upd (upd (upd (upd (upd (upd (upd (fun _ => 0) 15 1) 16 0) 17 0) 18 0) 19 0) 20 0) 21 0) 22 0) 23 0) 24 0) 25 0) 26 0) 27 0))), (h0, .inr (12, [.int (nI k), .int ((dO x2 k (zN x2 k i) k).2), .ref h1, .ref h2, .ref h3, .ref h4, .ref h5, .ref h6, .ref h7, .ref h8, .int 0, .int 0, .int 0, .int 0, .int 0, .int 0, .ref h9, .ref h10, .ref h11, .ref h12, .ref h13, .ref h14, .ref h15, .int 0])), (h1, .inl (cI, 12, .inl g1)), (h2, .inl (cI, 4096, .inl u.1)), (h3, .inl (cI, 4096, .inl u.2))] := hD
                                refine lz_top (y := (lkN x2 k i)) (by rw [hq.1]; unfold lkN; rw [nuS_like hg1]) ?_
                                refine lv_iload hx hb dX12_times_73 (lv_at hl 6 rfl) ?_
                                refine lv_icmp_ne (tgt := 82) hx hb dX12_times_75 (by decide) (fun c5235 => ?_) (fun c5235 => ?_)
                                · refine lv_iconst (v := 0) hx hb dX12_times_82 (by decide) ?_
                                  refine lv_iadd hx hb dX12_times_83 ?_
                                  refine lz_top (y := cT x2 x3 k (i + 1)) (by show _ = cT x2 x3 k i + (if lkN x2 k i = x3 then 1 else 0); rw [if_neg c5235]) ?_
                                  refine lv_istore (lv' := [(5, .int (cT x2 x3 k (i + 1))), (6, .int (nI i)), (0, .ref h0), (1, .int (nI nn)), (2, .int (nI k)), (3, .int x2), (4, .int x3)]) hx hb dX12_times_84 hl (by decide) rfl (fun ls hl => ?_)
                                  refine lv_iinc (v := (nI (i + 1))) (lv' := [(6, .int (nI (i + 1))), (5, .int (cT x2 x3 k (i + 1))), (0, .ref h0), (1, .int (nI nn)), (2, .int (nI k)), (3, .int x2), (4, .int x3)]) hx hb dX12_times_86 hl (k := 1) rfl (nI_1 _) (by decide) rfl (fun ls hl => ?_)
                                  refine lv_goto (tgt := 55) hx hb dX12_times_89 (by decide) ?_
                                  exact ih (i + 1) (nI k) g1 u.1 u.2 (by omega) hq.2 ls H locs (hP.sub [1, 2, 3, 4, 0] rfl) (hD.sub [1, 2, 3, 4, 0] (by decide) rfl) hS (lv_sub hl [0, 1, 2, 3, 4, 5, 6] rfl)
                                · refine lv_iconst (v := 1) hx hb dX12_times_78 (by decide) ?_
                                  refine lv_goto (tgt := 83) hx hb dX12_times_79 (by decide) ?_
                                  refine lv_iadd hx hb dX12_times_83 ?_
                                  refine lz_top (y := cT x2 x3 k (i + 1)) (by show _ = cT x2 x3 k i + (if lkN x2 k i = x3 then 1 else 0); rw [if_pos c5235]) ?_
                                  refine lv_istore (lv' := [(5, .int (cT x2 x3 k (i + 1))), (6, .int (nI i)), (0, .ref h0), (1, .int (nI nn)), (2, .int (nI k)), (3, .int x2), (4, .int x3)]) hx hb dX12_times_84 hl (by decide) rfl (fun ls hl => ?_)
                                  refine lv_iinc (v := (nI (i + 1))) (lv' := [(6, .int (nI (i + 1))), (5, .int (cT x2 x3 k (i + 1))), (0, .ref h0), (1, .int (nI nn)), (2, .int (nI k)), (3, .int x2), (4, .int x3)]) hx hb dX12_times_86 hl (k := 1) rfl (nI_1 _) (by decide) rfl (fun ls hl => ?_)
                                  refine lv_goto (tgt := 55) hx hb dX12_times_89 (by decide) ?_
                                  exact ih (i + 1) (nI k) g1 u.1 u.2 (by omega) hq.2 ls H locs (hP.sub [1, 2, 3, 4, 0] rfl) (hD.sub [1, 2, 3, 4, 0] (by decide) rfl) hS (lv_sub hl [0, 1, 2, 3, 4, 5, 6] rfl)
                          refine lv_aload_n hx hb dX12_times_44 rfl (lv_at hl 0 rfl) ?_
                          refine lv_iconst (v := 1) hx hb dX12_times_45 (by decide) ?_
                          have hPc := hP.sub (ws' := [(h0, .inr (12, [.int 0, .int 1, .ref h1, .ref h2, .ref h3, .ref h4, .ref h5, .ref h6, .ref h7, .ref h8, .int 0, .int 0, .int 0, .int 0, .int 0, .int 0, .ref h9, .ref h10, .ref h11, .ref h12, .ref h13, .ref h14, .ref h15, .int 0])), (h1, .inl (cI, 12, .inl (fun _ => 0))), (h15, .inl (cI, 28, .inl (fun _ => 0)))]) [0, 1, 4] rfl
                          have hDc := hD.sub (ws' := [(h0, .inr (12, [.int 0, .int 1, .ref h1, .ref h2, .ref h3, .ref h4, .ref h5, .ref h6, .ref h7, .ref h8, .int 0, .int 0, .int 0, .int 0, .int 0, .int 0, .ref h9, .ref h10, .ref h11, .ref h12, .ref h13, .ref h14, .ref h15, .int 0])), (h1, .inl (cI, 12, .inl (fun _ => 0))), (h15, .inl (cI, 28, .inl (fun _ => 0)))]) [0, 1, 4] (by decide) rfl
                          refine lz_qv (wr := [(h2, .inl (cI, 4096, .inl (fun _ => 0))), (h3, .inl (cI, 4096, .inl (fun _ => 0)))]) (w1 := [(h0, .inr (12, [.int 0, .int 1, .ref h1, .ref h2, .ref h3, .ref h4, .ref h5, .ref h6, .ref h7, .ref h8, .int 0, .int 0, .int 0, .int 0, .int 0, .int 0, .ref h9, .ref h10, .ref h11, .ref h12, .ref h13, .ref h14, .ref h15, .int 0])), (h1, .inl (cI, 12, .inl (fun _ => 0))), (h15, .inl (cI, 28, .inl (upd (upd (upd (upd (upd (upd (upd (upd (upd (upd (upd (upd (upd (fun _ => 0) 15 1) 16 0) 17 0) 18 0) 19 0) 20 0) 21 0) 22 0) 23 0) 24 0) 25 0) 26 0) 27 0)))]) (As := [.int 1]) (rest := []) ⟨hx, hb, hml, hown, hts⟩ (c_X12_keeps_2 l D cI cS _ h0 h1 h2 h3 h4 h5 h6 h7 h8 h9 h10 h11 h12 h13 h14 h15) hKK hP hD hS hA [0, 1, 4] [2, 3] (by decide) rfl rfl (by decide) (by decide) hPc hDc (ci := 12) rfl rfl (cwV 1 hts gX12_times_X12_keeps rfl rfl rfl (by decide +kernel) ⟨Nat.le_of_ble_eq_true rfl, Nat.le_of_ble_eq_true rfl⟩) rfl hl.1 rfl (Nat.le_of_ble_eq_true rfl) dX12_times_46 ⟨Nat.le_of_ble_eq_true rfl, Nat.le_of_ble_eq_true rfl⟩ (fun H locs hP hD hS => ?_)
                          have hP : va_P D cls [(h2, .inl (cI, 4096, .inl (fun _ => 0))), (h3, .inl (cI, 4096, .inl (fun _ => 0))), (h0, .inr (12, [.int 0, .int 1, .ref h1, .ref h2, .ref h3, .ref h4, .ref h5, .ref h6, .ref h7, .ref h8, .int 0, .int 0, .int 0, .int 0, .int 0, .int 0, .ref h9, .ref h10, .ref h11, .ref h12, .ref h13, .ref h14, .ref h15, .int 0])), (h1, .inl (cI, 12, .inl (fun _ => 0))), (h15, .inl (cI, 28, .inl (upd (upd (upd (upd (upd (upd (upd (upd (upd (upd (upd (upd (upd (fun _ => 0) 15 1) 16 0) 17 0) 18 0) 19 0) 20 0) 21 0) 22 0) 23 0) 24 0) 25 0) 26 0) 27 0)))] H := hP
                          have hD : va_D A [(h2, .inl (cI, 4096, .inl (fun _ => 0))), (h3, .inl (cI, 4096, .inl (fun _ => 0))), (h0, .inr (12, [.int 0, .int 1, .ref h1, .ref h2, .ref h3, .ref h4, .ref h5, .ref h6, .ref h7, .ref h8, .int 0, .int 0, .int 0, .int 0, .int 0, .int 0, .ref h9, .ref h10, .ref h11, .ref h12, .ref h13, .ref h14, .ref h15, .int 0])), (h1, .inl (cI, 12, .inl (fun _ => 0))), (h15, .inl (cI, 28, .inl (upd (upd (upd (upd (upd (upd (upd (upd (upd (upd (upd (upd (upd (fun _ => 0) 15 1) 16 0) 17 0) 18 0) 19 0) 20 0) 21 0) 22 0) 23 0) 24 0) 25 0) 26 0) 27 0)))] := hD
                          refine lv_iconst (v := 0) hx hb dX12_times_49 (by decide) ?_
                          refine lv_istore (lv' := [(5, .int 0), (0, .ref h0), (1, .int (nI nn)), (2, .int (nI k)), (3, .int x2), (4, .int x3)]) hx hb dX12_times_50 hl (by decide) rfl (fun ls hl => ?_)
                          refine lv_iconst (v := 0) hx hb dX12_times_52 (by decide) ?_
                          refine lv_istore (lv' := [(6, .int 0), (5, .int 0), (0, .ref h0), (1, .int (nI nn)), (2, .int (nI k)), (3, .int x2), (4, .int x3)]) hx hb dX12_times_53 hl (by decide) rfl (fun ls hl => ?_)
                          exact lp nn 0 0 (fun _ => 0) (fun _ => 0) (fun _ => 0) (by omega) rfl ls H locs (hP.sub [2, 3, 0, 1, 4] rfl) (hD.sub [2, 3, 0, 1, 4] (by decide) rfl) hS (by rw [nI_0]; exact lv_sub hl [0, 1, 2, 3, 4, 5, 6] rfl)
                        · exact absurd c5178 (by decide)
