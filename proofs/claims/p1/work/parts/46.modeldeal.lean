theorem dX12_draw_0 : decode cX12_draw 0 = .ok (.aload_n 0, 1) := by decide +kernel
theorem dX12_draw_1 : decode cX12_draw 1 = .ok (.aload_n 0, 1) := by decide +kernel
theorem dX12_draw_11 : decode cX12_draw 11 = .ok (.iadd, 1) := by decide +kernel
theorem dX12_draw_12 : decode cX12_draw 12 = .ok (.putfield 7, 3) := by decide +kernel
theorem dX12_draw_15 : decode cX12_draw 15 = .ok (.aload_n 0, 1) := by decide +kernel
theorem dX12_draw_16 : decode cX12_draw 16 = .ok (.getfield 7, 3) := by decide +kernel
theorem dX12_draw_19 : decode cX12_draw 19 = .ok (.bipush 16, 2) := by decide +kernel
theorem dX12_draw_2 : decode cX12_draw 2 = .ok (.getfield 7, 3) := by decide +kernel
theorem dX12_draw_21 : decode cX12_draw 21 = .ok (.iushr, 1) := by decide +kernel
theorem dX12_draw_22 : decode cX12_draw 22 = .ok (.ireturn, 1) := by decide +kernel
theorem dX12_draw_5 : decode cX12_draw 5 = .ok (.ldc 215, 2) := by decide +kernel
theorem dX12_draw_7 : decode cX12_draw 7 = .ok (.imul, 1) := by decide +kernel
theorem dX12_draw_8 : decode cX12_draw 8 = .ok (.sipush 12345, 3) := by decide +kernel
set_option maxHeartbeats 4000000 in
set_option maxRecDepth 100000 in
theorem c_X12_draw_0 (l : Launch) (D : va_G) (cI cS : ClassId) (sz : Nat) (h0 h1 h2 h3 h4 h5 h6 h7 h8 h9 h10 h11 h12 h13 h14 h15 : Nat) (x0 x1 : Int32) : Met l yX12_draw wsX12_draw ({ frames := 0, cells := 0, slots := 0, locals := 0 }) (PQ D cI cS [(h0, .inr (12, [.int x0, .int x1, .ref h1, .ref h2, .ref h3, .ref h4, .ref h5, .ref h6, .ref h7, .ref h8, .int 0, .int 0, .int 0, .int 0, .int 0, .int 0, .ref h9, .ref h10, .ref h11, .ref h12, .ref h13, .ref h14, .ref h15, .int 0]))] sz [.ref h0]) (QI D [(h0, .inr (12, [.int x0, .int x1, .ref h1, .ref h2, .ref h3, .ref h4, .ref h5, .ref h6, .ref h7, .ref h8, .int 0, .int 0, .int 0, .int 0, .int 0, .int 0, .ref h9, .ref h10, .ref h11, .ref h12, .ref h13, .ref h14, .ref h15, .int 0]))] [(h0, .inr (12, [.int x0, .int ((x1 * (1103515245 : Int32)) + (12345 : Int32)), .ref h1, .ref h2, .ref h3, .ref h4, .ref h5, .ref h6, .ref h7, .ref h8, .int 0, .int 0, .int 0, .int 0, .int 0, .int 0, .ref h9, .ref h10, .ref h11, .ref h12, .ref h13, .ref h14, .ref h15, .int 0]))] sz (fun r => r = (Int32.toUInt32 ((x1 * (1103515245 : Int32)) + (12345 : Int32)) >>> (Int32.toUInt32 16 &&& Int32.toUInt32 31)).toInt32)) 0 0 (va_A [(h0, .inr (12, [.int x0, .int x1, .ref h1, .ref h2, .ref h3, .ref h4, .ref h5, .ref h6, .ref h7, .ref h8, .int 0, .int 0, .int 0, .int 0, .int 0, .int 0, .ref h9, .ref h10, .ref h11, .ref h12, .ref h13, .ref h14, .ref h15, .int 0]))] sz) := by
  refine Met.ofW (cc := cX12_draw) (maxL := 1) (ret := (some .int)) (by decide) rfl ?_
  intro p e s m args below meth c s₁ B hml hv
  obtain ⟨rfl, hsz, hP, hKK, hD0⟩ := hv
  have hx := B.exec
  have hb := B.bytes
  have hr := B.returns
  have hts := atoms_spec (ws := wsX12_draw) B.pre
  have hown : s.vm.findClass RX12 = some m.cls := findClass_of_methodNamed B.named
  have hlocks := B.notSynchronized
  have hK := hKK.1
  have hN := hKK.2
  have hin12 : ∀ w ∈ wsX120, w ∈ wsX12_draw := by decide +kernel
  subst hsz
  have hD := hD0.self (sz := s.heap.size)
  obtain ⟨A, hAe⟩ : ∃ A, A = va_A [(h0, .inr (12, [.int x0, .int x1, .ref h1, .ref h2, .ref h3, .ref h4, .ref h5, .ref h6, .ref h7, .ref h8, .int 0, .int 0, .int 0, .int 0, .int 0, .int 0, .ref h9, .ref h10, .ref h11, .ref h12, .ref h13, .ref h14, .ref h15, .int 0]))] s.heap.size := ⟨_, rfl⟩
  rw [← hAe] at hD
  have hA : ∀ q : Nat, s.heap.size ≤ q → A q := fun q h => by rw [hAe]; exact Or.inr h
  have hS : va_S A s.heap s.heap [] := va_S.rf
  have hl := lv_entry ([.ref h0]) (n := 1) (Nat.le_of_ble_eq_true rfl)
  rw [lg_entry_eq]
  generalize (lg_sl ([.ref h0]) ++ List.replicate (1 - (lg_sl ([.ref h0])).length) Slot.unset).toArray = ls at hl ⊢
  have hl : lv_has ls 1 [(0, .ref h0)] := hl
  refine lv_aload_n hx hb dX12_draw_0 rfl (lv_at hl 0 rfl) ?_
  refine lv_aload_n hx hb dX12_draw_1 rfl (lv_at hl 0 rfl) ?_
  refine va_get (D := D) (ci := 12) (v := .int x1) (C := RX12) (T := TX12) (N := 24) hx hb hts hin12 hown hK hP 0 rfl rfl 1 (by decide) (hts (.fieldLink RX12 7 "MissedPointsModel" "z" "I") (by decide +kernel)) (fun _ h9 => h9) rfl dX12_draw_2 ?_
  refine lv_ldc hx hb hown (hts (.constant RX12 215 (1103515245)) (by decide +kernel)) dX12_draw_5 ?_
  refine lv_imul hx hb dX12_draw_7 ?_
  refine lv_sipush (v := 12345) hx hb dX12_draw_8 (by decide) ?_
  refine lv_iadd hx hb dX12_draw_11 ?_
  refine va_put (D := D) (ci := 12) (v := .int ((x1 * (1103515245 : Int32)) + (12345 : Int32))) (ty := .int) (C := RX12) (T := TX12) (N := 24) hx hb hts hin12 tyX12 tyX12_ok nmX12 hown hK hP hD hS 0 rfl rfl 1 (by decide) (hts (.fieldLink RX12 7 "MissedPointsModel" "z" "I") (by decide +kernel)) (fun _ h9 => h9) rfl (by decide +kernel) rfl rfl (Nat.le_of_ble_eq_true rfl) dX12_draw_12 (fun H locs hP hD hS => ?_)
  have hP : va_P D cls [(h0, .inr (12, [.int x0, .int ((x1 * (1103515245 : Int32)) + (12345 : Int32)), .ref h1, .ref h2, .ref h3, .ref h4, .ref h5, .ref h6, .ref h7, .ref h8, .int 0, .int 0, .int 0, .int 0, .int 0, .int 0, .ref h9, .ref h10, .ref h11, .ref h12, .ref h13, .ref h14, .ref h15, .int 0]))] H := hP
  have hD : va_D A [(h0, .inr (12, [.int x0, .int ((x1 * (1103515245 : Int32)) + (12345 : Int32)), .ref h1, .ref h2, .ref h3, .ref h4, .ref h5, .ref h6, .ref h7, .ref h8, .int 0, .int 0, .int 0, .int 0, .int 0, .int 0, .ref h9, .ref h10, .ref h11, .ref h12, .ref h13, .ref h14, .ref h15, .int 0]))] := hD
  refine lv_aload_n hx hb dX12_draw_15 rfl (lv_at hl 0 rfl) ?_
  refine va_get (D := D) (ci := 12) (v := .int ((x1 * (1103515245 : Int32)) + (12345 : Int32))) (C := RX12) (T := TX12) (N := 24) hx hb hts hin12 hown hK hP 0 rfl rfl 1 (by decide) (hts (.fieldLink RX12 7 "MissedPointsModel" "z" "I") (by decide +kernel)) (fun _ h9 => h9) rfl dX12_draw_16 ?_
  refine lv_bipush (v := 16) hx hb dX12_draw_19 (by decide) ?_
  refine lv_iushr (v := (Int32.toUInt32 ((x1 * (1103515245 : Int32)) + (12345 : Int32)) >>> (Int32.toUInt32 16 &&& Int32.toUInt32 31)).toInt32) hx hb dX12_draw_21 rfl ?_
  have hP9 := hP.sub (ws' := [(h0, .inr (12, [.int x0, .int ((x1 * (1103515245 : Int32)) + (12345 : Int32)), .ref h1, .ref h2, .ref h3, .ref h4, .ref h5, .ref h6, .ref h7, .ref h8, .int 0, .int 0, .int 0, .int 0, .int 0, .int 0, .ref h9, .ref h10, .ref h11, .ref h12, .ref h13, .ref h14, .ref h15, .int 0]))]) [0] rfl
  have hD9 := hD.sub (ws' := [(h0, .inr (12, [.int x0, .int ((x1 * (1103515245 : Int32)) + (12345 : Int32)), .ref h1, .ref h2, .ref h3, .ref h4, .ref h5, .ref h6, .ref h7, .ref h8, .int 0, .int 0, .int 0, .int 0, .int 0, .int 0, .ref h9, .ref h10, .ref h11, .ref h12, .ref h13, .ref h14, .ref h15, .int 0]))]) [0] (by decide) rfl
  subst hAe
  exact W.iret (v := (Int32.toUInt32 ((x1 * (1103515245 : Int32)) + (12345 : Int32)) >>> (Int32.toUInt32 16 &&& Int32.toUInt32 31)).toInt32) hx hb hr (fun t ht hW => ⟨⟨_, (), rfl, rfl, by rw [ht]; exact hP9, hD9⟩, hS.F ht⟩) hS.2.2 dX12_draw_22
theorem dX12_lays_0 : decode cX12_lays 0 = .ok (.aload_n 0, 1) := by decide +kernel
theorem dX12_lays_1 : decode cX12_lays 1 = .ok (.getfield 13, 3) := by decide +kernel
theorem dX12_lays_10 : decode cX12_lays 10 = .ok (.iaload, 1) := by decide +kernel
theorem dX12_lays_11 : decode cX12_lays 11 = .ok (.iconst 1, 1) := by decide +kernel
theorem dX12_lays_12 : decode cX12_lays 12 = .ok (.iload_n 2, 1) := by decide +kernel
theorem dX12_lays_13 : decode cX12_lays 13 = .ok (.ishl, 1) := by decide +kernel
theorem dX12_lays_14 : decode cX12_lays 14 = .ok (.iconst (-1), 1) := by decide +kernel
theorem dX12_lays_15 : decode cX12_lays 15 = .ok (.ixor, 1) := by decide +kernel
theorem dX12_lays_16 : decode cX12_lays 16 = .ok (.iand, 1) := by decide +kernel
theorem dX12_lays_17 : decode cX12_lays 17 = .ok (.iload_n 3, 1) := by decide +kernel
theorem dX12_lays_18 : decode cX12_lays 18 = .ok (.iload_n 2, 1) := by decide +kernel
theorem dX12_lays_19 : decode cX12_lays 19 = .ok (.ishl, 1) := by decide +kernel
theorem dX12_lays_20 : decode cX12_lays 20 = .ok (.ior, 1) := by decide +kernel
theorem dX12_lays_21 : decode cX12_lays 21 = .ok (.iastore, 1) := by decide +kernel
theorem dX12_lays_22 : decode cX12_lays 22 = .ok (.aload_n 0, 1) := by decide +kernel
theorem dX12_lays_23 : decode cX12_lays 23 = .ok (.getfield 13, 3) := by decide +kernel
theorem dX12_lays_26 : decode cX12_lays 26 = .ok (.iload_n 2, 1) := by decide +kernel
theorem dX12_lays_27 : decode cX12_lays 27 = .ok (.aload_n 0, 1) := by decide +kernel
theorem dX12_lays_28 : decode cX12_lays 28 = .ok (.getfield 13, 3) := by decide +kernel
theorem dX12_lays_31 : decode cX12_lays 31 = .ok (.iload_n 2, 1) := by decide +kernel
theorem dX12_lays_32 : decode cX12_lays 32 = .ok (.iaload, 1) := by decide +kernel
theorem dX12_lays_33 : decode cX12_lays 33 = .ok (.iconst 1, 1) := by decide +kernel
theorem dX12_lays_34 : decode cX12_lays 34 = .ok (.iload_n 1, 1) := by decide +kernel
theorem dX12_lays_35 : decode cX12_lays 35 = .ok (.ishl, 1) := by decide +kernel
theorem dX12_lays_36 : decode cX12_lays 36 = .ok (.iconst (-1), 1) := by decide +kernel
theorem dX12_lays_37 : decode cX12_lays 37 = .ok (.ixor, 1) := by decide +kernel
theorem dX12_lays_38 : decode cX12_lays 38 = .ok (.iand, 1) := by decide +kernel
theorem dX12_lays_39 : decode cX12_lays 39 = .ok (.iload_n 3, 1) := by decide +kernel
theorem dX12_lays_4 : decode cX12_lays 4 = .ok (.iload_n 1, 1) := by decide +kernel
theorem dX12_lays_40 : decode cX12_lays 40 = .ok (.iload_n 1, 1) := by decide +kernel
theorem dX12_lays_41 : decode cX12_lays 41 = .ok (.ishl, 1) := by decide +kernel
theorem dX12_lays_42 : decode cX12_lays 42 = .ok (.ior, 1) := by decide +kernel
theorem dX12_lays_43 : decode cX12_lays 43 = .ok (.iastore, 1) := by decide +kernel
theorem dX12_lays_44 : decode cX12_lays 44 = .ok (.return_, 1) := by decide +kernel
theorem dX12_lays_5 : decode cX12_lays 5 = .ok (.aload_n 0, 1) := by decide +kernel
theorem dX12_lays_6 : decode cX12_lays 6 = .ok (.getfield 13, 3) := by decide +kernel
theorem dX12_lays_9 : decode cX12_lays 9 = .ok (.iload_n 1, 1) := by decide +kernel
set_option maxHeartbeats 4000000 in
set_option maxRecDepth 100000 in
theorem c_lays (l : Launch) (D : va_G) (cI cS : ClassId) (sz : Nat) (h0 h1 h2 h3 h4 h5 h6 h7 h8 h9 h10 h11 h12 h13 h14 h15 : Nat) (f : Nat → Int32) (mv zv : Int32) (a b : Nat) (ha : a < 12) (hb12 : b < 12) : Met l yX12_lays wsX12_lays ({ frames := 0, cells := 0, slots := 0, locals := 0 }) (PQ D cI cS [(h0, .inr (12, [.int mv, .int zv, .ref h1, .ref h2, .ref h3, .ref h4, .ref h5, .ref h6, .ref h7, .ref h8, .int 0, .int 0, .int 0, .int 0, .int 0, .int 0, .ref h9, .ref h10, .ref h11, .ref h12, .ref h13, .ref h14, .ref h15, .int 0])), (h1, .inl (cI, 12, .inl f))] sz [.ref h0, .int (nI a), .int (nI b), .int 1]) (QV D [(h0, .inr (12, [.int mv, .int zv, .ref h1, .ref h2, .ref h3, .ref h4, .ref h5, .ref h6, .ref h7, .ref h8, .int 0, .int 0, .int 0, .int 0, .int 0, .int 0, .ref h9, .ref h10, .ref h11, .ref h12, .ref h13, .ref h14, .ref h15, .int 0])), (h1, .inl (cI, 12, .inl f))] [(h0, .inr (12, [.int mv, .int zv, .ref h1, .ref h2, .ref h3, .ref h4, .ref h5, .ref h6, .ref h7, .ref h8, .int 0, .int 0, .int 0, .int 0, .int 0, .int 0, .ref h9, .ref h10, .ref h11, .ref h12, .ref h13, .ref h14, .ref h15, .int 0])), (h1, .inl (cI, 12, .inl (lay1 f a b)))] sz) 0 0 (va_A [(h0, .inr (12, [.int mv, .int zv, .ref h1, .ref h2, .ref h3, .ref h4, .ref h5, .ref h6, .ref h7, .ref h8, .int 0, .int 0, .int 0, .int 0, .int 0, .int 0, .ref h9, .ref h10, .ref h11, .ref h12, .ref h13, .ref h14, .ref h15, .int 0])), (h1, .inl (cI, 12, .inl f))] sz) := by
  refine Met.ofW (cc := cX12_lays) (maxL := 4) (ret := none) (by decide) rfl ?_
  intro p e s m args below meth c s₁ B hml hv
  obtain ⟨rfl, hsz, hP, hKK, hD0⟩ := hv
  have hx := B.exec
  have hb := B.bytes
  have hr := B.returns
  have hts := atoms_spec (ws := wsX12_lays) B.pre
  have hown : s.vm.findClass RX12 = some m.cls := findClass_of_methodNamed B.named
  have hlocks := B.notSynchronized
  have hK := hKK.1
  have hN := hKK.2
  have hin12 : ∀ w ∈ wsX120, w ∈ wsX12_lays := by decide +kernel
  subst hsz
  have hD := hD0.self (sz := s.heap.size)
  obtain ⟨A, hAe⟩ : ∃ A, A = va_A [(h0, .inr (12, [.int mv, .int zv, .ref h1, .ref h2, .ref h3, .ref h4, .ref h5, .ref h6, .ref h7, .ref h8, .int 0, .int 0, .int 0, .int 0, .int 0, .int 0, .ref h9, .ref h10, .ref h11, .ref h12, .ref h13, .ref h14, .ref h15, .int 0])), (h1, .inl (cI, 12, .inl f))] s.heap.size := ⟨_, rfl⟩
  rw [← hAe] at hD
  have hA : ∀ q : Nat, s.heap.size ≤ q → A q := fun q h => by rw [hAe]; exact Or.inr h
  have hS : va_S A s.heap s.heap [] := va_S.rf
  have hl := lv_entry ([.ref h0, .int (nI a), .int (nI b), .int 1]) (n := 4) (Nat.le_of_ble_eq_true rfl)
  rw [lg_entry_eq]
  generalize (lg_sl ([.ref h0, .int (nI a), .int (nI b), .int 1]) ++ List.replicate (4 - (lg_sl ([.ref h0, .int (nI a), .int (nI b), .int 1])).length) Slot.unset).toArray = ls at hl ⊢
  have hl : lv_has ls 4 [(0, .ref h0), (1, .int (nI a)), (2, .int (nI b)), (3, .int 1)] := hl
  refine lv_aload_n hx hb dX12_lays_0 rfl (lv_at hl 0 rfl) ?_
  refine va_get (D := D) (ci := 12) (v := .ref h1) (C := RX12) (T := TX12) (N := 24) hx hb hts hin12 hown hK hP 0 rfl rfl 2 (by decide) (hts (.fieldLink RX12 13 "MissedPointsModel" "near" "[I") (by decide +kernel)) (fun _ h9 => h9) rfl dX12_lays_1 ?_
  refine lv_iload_n hx hb dX12_lays_4 rfl (lv_at hl 1 rfl) ?_
  refine lv_aload_n hx hb dX12_lays_5 rfl (lv_at hl 0 rfl) ?_
  refine va_get (D := D) (ci := 12) (v := .ref h1) (C := RX12) (T := TX12) (N := 24) hx hb hts hin12 hown hK hP 0 rfl rfl 2 (by decide) (hts (.fieldLink RX12 13 "MissedPointsModel" "near" "[I") (by decide +kernel)) (fun _ h9 => h9) rfl dX12_lays_6 ?_
  refine lv_iload_n hx hb dX12_lays_9 rfl (lv_at hl 1 rfl) ?_
  refine lz_ald hx hb hK hP 1 0 rfl rfl a ⟨ha, Nat.le_of_ble_eq_true rfl⟩ dX12_lays_10 ?_
  refine lv_iconst (v := 1) hx hb dX12_lays_11 (by decide) ?_
  refine lv_iload_n hx hb dX12_lays_12 rfl (lv_at hl 2 rfl) ?_
  refine lv_ishl hx hb dX12_lays_13 ?_
  refine lv_iconst (v := (-1)) hx hb dX12_lays_14 (by decide) ?_
  refine lv_ixor hx hb dX12_lays_15 ?_
  refine lv_iand hx hb dX12_lays_16 ?_
  refine lv_iload_n hx hb dX12_lays_17 rfl (lv_at hl 3 rfl) ?_
  refine lv_iload_n hx hb dX12_lays_18 rfl (lv_at hl 2 rfl) ?_
  refine lv_ishl hx hb dX12_lays_19 ?_
  refine lv_ior hx hb dX12_lays_20 ?_
  refine lz_top (y := (f a ||| bt1 b)) (lz_mask _ _) ?_
  refine lz_ast hx hb hK hP hD hS 1 0 rfl rfl a ⟨ha, Nat.le_of_ble_eq_true rfl⟩ dX12_lays_21 (fun H locs hP hD hS => ?_)
  have hP : va_P D cls [(h0, .inr (12, [.int mv, .int zv, .ref h1, .ref h2, .ref h3, .ref h4, .ref h5, .ref h6, .ref h7, .ref h8, .int 0, .int 0, .int 0, .int 0, .int 0, .int 0, .ref h9, .ref h10, .ref h11, .ref h12, .ref h13, .ref h14, .ref h15, .int 0])), (h1, .inl (cI, 12, .inl (upd f a (f a ||| bt1 b))))] H := hP
  have hD : va_D A [(h0, .inr (12, [.int mv, .int zv, .ref h1, .ref h2, .ref h3, .ref h4, .ref h5, .ref h6, .ref h7, .ref h8, .int 0, .int 0, .int 0, .int 0, .int 0, .int 0, .ref h9, .ref h10, .ref h11, .ref h12, .ref h13, .ref h14, .ref h15, .int 0])), (h1, .inl (cI, 12, .inl (upd f a (f a ||| bt1 b))))] := hD
  refine lv_aload_n hx hb dX12_lays_22 rfl (lv_at hl 0 rfl) ?_
  refine va_get (D := D) (ci := 12) (v := .ref h1) (C := RX12) (T := TX12) (N := 24) hx hb hts hin12 hown hK hP 0 rfl rfl 2 (by decide) (hts (.fieldLink RX12 13 "MissedPointsModel" "near" "[I") (by decide +kernel)) (fun _ h9 => h9) rfl dX12_lays_23 ?_
  refine lv_iload_n hx hb dX12_lays_26 rfl (lv_at hl 2 rfl) ?_
  refine lv_aload_n hx hb dX12_lays_27 rfl (lv_at hl 0 rfl) ?_
  refine va_get (D := D) (ci := 12) (v := .ref h1) (C := RX12) (T := TX12) (N := 24) hx hb hts hin12 hown hK hP 0 rfl rfl 2 (by decide) (hts (.fieldLink RX12 13 "MissedPointsModel" "near" "[I") (by decide +kernel)) (fun _ h9 => h9) rfl dX12_lays_28 ?_
  refine lv_iload_n hx hb dX12_lays_31 rfl (lv_at hl 2 rfl) ?_
  refine lz_ald hx hb hK hP 1 0 rfl rfl b ⟨hb12, Nat.le_of_ble_eq_true rfl⟩ dX12_lays_32 ?_
  refine lv_iconst (v := 1) hx hb dX12_lays_33 (by decide) ?_
  refine lv_iload_n hx hb dX12_lays_34 rfl (lv_at hl 1 rfl) ?_
  refine lv_ishl hx hb dX12_lays_35 ?_
  refine lv_iconst (v := (-1)) hx hb dX12_lays_36 (by decide) ?_
  refine lv_ixor hx hb dX12_lays_37 ?_
  refine lv_iand hx hb dX12_lays_38 ?_
  refine lv_iload_n hx hb dX12_lays_39 rfl (lv_at hl 3 rfl) ?_
  refine lv_iload_n hx hb dX12_lays_40 rfl (lv_at hl 1 rfl) ?_
  refine lv_ishl hx hb dX12_lays_41 ?_
  refine lv_ior hx hb dX12_lays_42 ?_
  refine lz_top (y := (upd f a (f a ||| bt1 b) b ||| bt1 a)) (lz_mask _ _) ?_
  refine lz_ast hx hb hK hP hD hS 1 0 rfl rfl b ⟨hb12, Nat.le_of_ble_eq_true rfl⟩ dX12_lays_43 (fun H locs hP hD hS => ?_)
  have hP : va_P D cls [(h0, .inr (12, [.int mv, .int zv, .ref h1, .ref h2, .ref h3, .ref h4, .ref h5, .ref h6, .ref h7, .ref h8, .int 0, .int 0, .int 0, .int 0, .int 0, .int 0, .ref h9, .ref h10, .ref h11, .ref h12, .ref h13, .ref h14, .ref h15, .int 0])), (h1, .inl (cI, 12, .inl (upd (upd f a (f a ||| bt1 b)) b (upd f a (f a ||| bt1 b) b ||| bt1 a))))] H := hP
  have hD : va_D A [(h0, .inr (12, [.int mv, .int zv, .ref h1, .ref h2, .ref h3, .ref h4, .ref h5, .ref h6, .ref h7, .ref h8, .int 0, .int 0, .int 0, .int 0, .int 0, .int 0, .ref h9, .ref h10, .ref h11, .ref h12, .ref h13, .ref h14, .ref h15, .int 0])), (h1, .inl (cI, 12, .inl (upd (upd f a (f a ||| bt1 b)) b (upd f a (f a ||| bt1 b) b ||| bt1 a))))] := hD
  have hP9 := hP.sub (ws' := [(h0, .inr (12, [.int mv, .int zv, .ref h1, .ref h2, .ref h3, .ref h4, .ref h5, .ref h6, .ref h7, .ref h8, .int 0, .int 0, .int 0, .int 0, .int 0, .int 0, .ref h9, .ref h10, .ref h11, .ref h12, .ref h13, .ref h14, .ref h15, .int 0])), (h1, .inl (cI, 12, .inl (lay1 f a b)))]) [0, 1] rfl
  have hD9 := hD.sub (ws' := [(h0, .inr (12, [.int mv, .int zv, .ref h1, .ref h2, .ref h3, .ref h4, .ref h5, .ref h6, .ref h7, .ref h8, .int 0, .int 0, .int 0, .int 0, .int 0, .int 0, .ref h9, .ref h10, .ref h11, .ref h12, .ref h13, .ref h14, .ref h15, .int 0])), (h1, .inl (cI, 12, .inl (lay1 f a b)))]) [0, 1] (by decide) rfl
  subst hAe
  exact W.vret hx hb hr (fun t ht hW => ⟨⟨(), rfl, trivial, by rw [ht]; exact hP9, hD9⟩, hS.F ht⟩) hS.2.2 dX12_lays_44
theorem dX12_deals_27 : decode cX12_deals 27 = .ok (.iload_n 3, 1) := by decide +kernel
theorem dX12_deals_28 : decode cX12_deals 28 = .ok (.iload_n 1, 1) := by decide +kernel
theorem dX12_deals_29 : decode cX12_deals 29 = .ok (.if_icmp .ge 45, 3) := by decide +kernel
theorem dX12_deals_74 : decode cX12_deals 74 = .ok (.return_, 1) := by decide +kernel
theorem dX12_deals_37 : decode cX12_deals 37 = .ok (.iload 4, 2) := by decide +kernel
theorem dX12_deals_39 : decode cX12_deals 39 = .ok (.iload_n 1, 1) := by decide +kernel
theorem dX12_deals_40 : decode cX12_deals 40 = .ok (.if_icmp .ge 28, 3) := by decide +kernel
theorem dX12_deals_68 : decode cX12_deals 68 = .ok (.iinc 3 1, 3) := by decide +kernel
theorem dX12_deals_71 : decode cX12_deals 71 = .ok (.goto (-44), 3) := by decide +kernel
set_option maxRecDepth 20000 in
theorem ggX12_deals_X12_draw : GoodIn wsX12_deals wsX12_draw := goodIn_r _ [7, 8, 9, 14, 15, 16, 17, 18, 19, 20, 21, 22, 23, 24, 25, 26, 27, 28, 29, 30, 31, 32, 33, 34, 35, 36, 37] (by decide +kernel) (by decide +kernel)
set_option maxRecDepth 20000 in
theorem gX12_deals_X12_draw : GoodIn wsX12_deals (wsV RX12 216 RX12 yX12_draw wsX12_draw) := goodIn_app (goodIn_of _ (by decide +kernel)) ggX12_deals_X12_draw
set_option maxRecDepth 20000 in
theorem ggX12_deals_X12_lays : GoodIn wsX12_deals wsX12_lays := goodIn_r _ [13, 2, 14, 15, 16, 17, 18, 19, 20, 21, 22, 23, 24, 25, 26, 27, 28, 29, 30, 31, 32, 33, 34, 35, 36, 37] (by decide +kernel) (by decide +kernel)
set_option maxRecDepth 20000 in
theorem gX12_deals_X12_lays : GoodIn wsX12_deals (wsV RX12 81 RX12 yX12_lays wsX12_lays) := goodIn_app (goodIn_of _ (by decide +kernel)) ggX12_deals_X12_lays
theorem dX12_deals_43 : decode cX12_deals 43 = .ok (.aload_n 0, 1) := by decide +kernel
theorem dX12_deals_44 : decode cX12_deals 44 = .ok (.invokevirtual 216, 3) := by decide +kernel
theorem dX12_deals_47 : decode cX12_deals 47 = .ok (.bipush 10, 2) := by decide +kernel
theorem dX12_deals_49 : decode cX12_deals 49 = .ok (.irem, 1) := by decide +kernel
theorem dX12_deals_50 : decode cX12_deals 50 = .ok (.iload_n 2, 1) := by decide +kernel
theorem dX12_deals_51 : decode cX12_deals 51 = .ok (.if_icmp .ge 11, 3) := by decide +kernel
theorem dX12_deals_54 : decode cX12_deals 54 = .ok (.aload_n 0, 1) := by decide +kernel
theorem dX12_deals_55 : decode cX12_deals 55 = .ok (.iload_n 3, 1) := by decide +kernel
theorem dX12_deals_56 : decode cX12_deals 56 = .ok (.iload 4, 2) := by decide +kernel
theorem dX12_deals_58 : decode cX12_deals 58 = .ok (.iconst 1, 1) := by decide +kernel
theorem dX12_deals_59 : decode cX12_deals 59 = .ok (.invokevirtual 81, 3) := by decide +kernel
theorem dX12_deals_62 : decode cX12_deals 62 = .ok (.iinc 4 1, 3) := by decide +kernel
theorem dX12_deals_65 : decode cX12_deals 65 = .ok (.goto (-28), 3) := by decide +kernel
theorem dX12_deals_32 : decode cX12_deals 32 = .ok (.iload_n 3, 1) := by decide +kernel
theorem dX12_deals_33 : decode cX12_deals 33 = .ok (.iconst 1, 1) := by decide +kernel
theorem dX12_deals_34 : decode cX12_deals 34 = .ok (.iadd, 1) := by decide +kernel
theorem dX12_deals_35 : decode cX12_deals 35 = .ok (.istore 4, 2) := by decide +kernel
theorem dX12_deals_25 : decode cX12_deals 25 = .ok (.iconst 0, 1) := by decide +kernel
theorem dX12_deals_26 : decode cX12_deals 26 = .ok (.istore_n 3, 1) := by decide +kernel
theorem dX12_deals_7 : decode cX12_deals 7 = .ok (.iload_n 3, 1) := by decide +kernel
theorem dX12_deals_8 : decode cX12_deals 8 = .ok (.iload_n 1, 1) := by decide +kernel
theorem dX12_deals_9 : decode cX12_deals 9 = .ok (.if_icmp .ge 16, 3) := by decide +kernel
theorem dX12_deals_12 : decode cX12_deals 12 = .ok (.aload_n 0, 1) := by decide +kernel
theorem dX12_deals_13 : decode cX12_deals 13 = .ok (.getfield 13, 3) := by decide +kernel
theorem dX12_deals_16 : decode cX12_deals 16 = .ok (.iload_n 3, 1) := by decide +kernel
theorem dX12_deals_17 : decode cX12_deals 17 = .ok (.iconst 0, 1) := by decide +kernel
theorem dX12_deals_18 : decode cX12_deals 18 = .ok (.iastore, 1) := by decide +kernel
theorem dX12_deals_19 : decode cX12_deals 19 = .ok (.iinc 3 1, 3) := by decide +kernel
theorem dX12_deals_22 : decode cX12_deals 22 = .ok (.goto (-15), 3) := by decide +kernel
theorem dX12_deals_0 : decode cX12_deals 0 = .ok (.aload_n 0, 1) := by decide +kernel
theorem dX12_deals_1 : decode cX12_deals 1 = .ok (.iload_n 1, 1) := by decide +kernel
theorem dX12_deals_2 : decode cX12_deals 2 = .ok (.putfield 63, 3) := by decide +kernel
theorem dX12_deals_5 : decode cX12_deals 5 = .ok (.iconst 0, 1) := by decide +kernel
theorem dX12_deals_6 : decode cX12_deals 6 = .ok (.istore_n 3, 1) := by decide +kernel
set_option maxHeartbeats 4000000 in
set_option maxRecDepth 100000 in
theorem c_deals (l : Launch) (D : va_G) (cI cS : ClassId) (sz : Nat) (h0 h1 h2 h3 h4 h5 h6 h7 h8 h9 h10 h11 h12 h13 h14 h15 : Nat) (f : Nat → Int32) (mv zv od : Int32) (k : Nat) (hk : k ≤ 12) : Met l yX12_deals wsX12_deals ({ frames := 1, cells := 0, slots := 0, locals := 40 }) (PQ D cI cS [(h0, .inr (12, [.int mv, .int zv, .ref h1, .ref h2, .ref h3, .ref h4, .ref h5, .ref h6, .ref h7, .ref h8, .int 0, .int 0, .int 0, .int 0, .int 0, .int 0, .ref h9, .ref h10, .ref h11, .ref h12, .ref h13, .ref h14, .ref h15, .int 0])), (h1, .inl (cI, 12, .inl f))] sz [.ref h0, .int (nI k), .int od]) (QE (S := Nat → Int32) D [(h0, .inr (12, [.int mv, .int zv, .ref h1, .ref h2, .ref h3, .ref h4, .ref h5, .ref h6, .ref h7, .ref h8, .int 0, .int 0, .int 0, .int 0, .int 0, .int 0, .ref h9, .ref h10, .ref h11, .ref h12, .ref h13, .ref h14, .ref h15, .int 0])), (h1, .inl (cI, 12, .inl f))] (fun g => [(h0, .inr (12, [.int (nI k), .int ((dO od k zv k).2), .ref h1, .ref h2, .ref h3, .ref h4, .ref h5, .ref h6, .ref h7, .ref h8, .int 0, .int 0, .int 0, .int 0, .int 0, .int 0, .ref h9, .ref h10, .ref h11, .ref h12, .ref h13, .ref h14, .ref h15, .int 0])), (h1, .inl (cI, 12, .inl g))]) sz (fun g => Like k g (dO od k zv k).1)) 0 0 (va_A [(h0, .inr (12, [.int mv, .int zv, .ref h1, .ref h2, .ref h3, .ref h4, .ref h5, .ref h6, .ref h7, .ref h8, .int 0, .int 0, .int 0, .int 0, .int 0, .int 0, .ref h9, .ref h10, .ref h11, .ref h12, .ref h13, .ref h14, .ref h15, .int 0])), (h1, .inl (cI, 12, .inl f))] sz) := by
  refine Met.ofW (cc := cX12_deals) (maxL := 5) (ret := none) (by decide) rfl ?_
  intro p e s m args below meth c s₁ B hml hv
  obtain ⟨rfl, hsz, hP, hKK, hD0⟩ := hv
  have hx := B.exec
  have hb := B.bytes
  have hr := B.returns
  have hts := atoms_spec (ws := wsX12_deals) B.pre
  have hown : s.vm.findClass RX12 = some m.cls := findClass_of_methodNamed B.named
  have hlocks := B.notSynchronized
  have hK := hKK.1
  have hN := hKK.2
  have hin12 : ∀ w ∈ wsX120, w ∈ wsX12_deals := by decide +kernel
  subst hsz
  have hD := hD0.self (sz := s.heap.size)
  obtain ⟨A, hAe⟩ : ∃ A, A = va_A [(h0, .inr (12, [.int mv, .int zv, .ref h1, .ref h2, .ref h3, .ref h4, .ref h5, .ref h6, .ref h7, .ref h8, .int 0, .int 0, .int 0, .int 0, .int 0, .int 0, .ref h9, .ref h10, .ref h11, .ref h12, .ref h13, .ref h14, .ref h15, .int 0])), (h1, .inl (cI, 12, .inl f))] s.heap.size := ⟨_, rfl⟩
  rw [← hAe] at hD
  have hA : ∀ q : Nat, s.heap.size ≤ q → A q := fun q h => by rw [hAe]; exact Or.inr h
  have hS : va_S A s.heap s.heap [] := va_S.rf
  have hl := lv_entry ([.ref h0, .int (nI k), .int od]) (n := 5) (Nat.le_of_ble_eq_true rfl)
  rw [lg_entry_eq]
  generalize (lg_sl ([.ref h0, .int (nI k), .int od]) ++ List.replicate (5 - (lg_sl ([.ref h0, .int (nI k), .int od])).length) Slot.unset).toArray = ls at hl ⊢
  have hl : lv_has ls 5 [(0, .ref h0), (1, .int (nI k)), (2, .int od)] := hl
  have l2 : ∀ (r a : Nat) (g : Nat → Int32) (z : Int32), a + r = k → Like k g (dO od k zv a).1 → z = (dO od k zv a).2 → ∀ (ls : Array Slot) (H : Heap) (locs : List Loc), va_P D cls [(h0, .inr (12, [.int (nI k), .int z, .ref h1, .ref h2, .ref h3, .ref h4, .ref h5, .ref h6, .ref h7, .ref h8, .int 0, .int 0, .int 0, .int 0, .int 0, .int 0, .ref h9, .ref h10, .ref h11, .ref h12, .ref h13, .ref h14, .ref h15, .int 0])), (h1, .inl (cI, 12, .inl g))] H → va_D A [(h0, .inr (12, [.int (nI k), .int z, .ref h1, .ref h2, .ref h3, .ref h4, .ref h5, .ref h6, .ref h7, .ref h8, .int 0, .int 0, .int 0, .int 0, .int 0, .int 0, .ref h9, .ref h10, .ref h11, .ref h12, .ref h13, .ref h14, .ref h15, .int 0])), (h1, .inl (cI, 12, .inl g))] → va_S A s.heap H locs → lv_has ls 5 [(3, .int (nI a)), (0, .ref h0), (1, .int (nI k)), (2, .int od)] → W p l e (headSpec wsX12_deals ({ frames := 1, cells := 0, slots := 0, locals := 40 })).room s m ([.ref h0, .int (nI k), .int od]).toArray below meth c H locs 0 0 (MQ below (QE (S := Nat → Int32) D [(h0, .inr (12, [.int mv, .int zv, .ref h1, .ref h2, .ref h3, .ref h4, .ref h5, .ref h6, .ref h7, .ref h8, .int 0, .int 0, .int 0, .int 0, .int 0, .int 0, .ref h9, .ref h10, .ref h11, .ref h12, .ref h13, .ref h14, .ref h15, .int 0])), (h1, .inl (cI, 12, .inl f))] (fun g => [(h0, .inr (12, [.int (nI k), .int ((dO od k zv k).2), .ref h1, .ref h2, .ref h3, .ref h4, .ref h5, .ref h6, .ref h7, .ref h8, .int 0, .int 0, .int 0, .int 0, .int 0, .int 0, .ref h9, .ref h10, .ref h11, .ref h12, .ref h13, .ref h14, .ref h15, .int 0])), (h1, .inl (cI, 12, .inl g))]) s.heap.size (fun g => Like k g (dO od k zv k).1)) ([.ref h0, .int (nI k), .int od]).toArray s 0 0 (va_A [(h0, .inr (12, [.int mv, .int zv, .ref h1, .ref h2, .ref h3, .ref h4, .ref h5, .ref h6, .ref h7, .ref h8, .int 0, .int 0, .int 0, .int 0, .int 0, .int 0, .ref h9, .ref h10, .ref h11, .ref h12, .ref h13, .ref h14, .ref h15, .int 0])), (h1, .inl (cI, 12, .inl f))] s.heap.size)) (F0 m 27 ls []) := by
    intro r
    induction r with
    | zero =>
      intro a g z ha hg hz ls H locs hP hD hS hl
      obtain rfl : a = k := by omega
      subst hz
      refine lv_iload_n hx hb dX12_deals_27 rfl (lv_at hl 0 rfl) ?_
      refine lv_iload_n hx hb dX12_deals_28 rfl (lv_at hl 2 rfl) ?_
      refine lv_icmp_ge (tgt := 74) hx hb dX12_deals_29 (by decide) (fun c5008 => ?_) (fun c5008 => ?_)
      · have hP9 := hP.sub (ws' := [(h0, .inr (12, [.int (nI a), .int ((dO od a zv a).2), .ref h1, .ref h2, .ref h3, .ref h4, .ref h5, .ref h6, .ref h7, .ref h8, .int 0, .int 0, .int 0, .int 0, .int 0, .int 0, .ref h9, .ref h10, .ref h11, .ref h12, .ref h13, .ref h14, .ref h15, .int 0])), (h1, .inl (cI, 12, .inl g))]) [0, 1] rfl
        have hD9 := hD.sub (ws' := [(h0, .inr (12, [.int (nI a), .int ((dO od a zv a).2), .ref h1, .ref h2, .ref h3, .ref h4, .ref h5, .ref h6, .ref h7, .ref h8, .int 0, .int 0, .int 0, .int 0, .int 0, .int 0, .ref h9, .ref h10, .ref h11, .ref h12, .ref h13, .ref h14, .ref h15, .int 0])), (h1, .inl (cI, 12, .inl g))]) [0, 1] (by decide) rfl
        subst hAe
        exact W.vret hx hb hr (fun t ht hW => ⟨⟨g, rfl, hg, by rw [ht]; exact hP9, hD9⟩, hS.F ht⟩) hS.2.2 dX12_deals_74
      · exact absurd (nI_le (Nat.le_refl _) (by omega)) c5008
    | succ r ih =>
      intro a g z ha hg hz ls H locs hP hD hS hl
      have l3 : ∀ (r2 q : Nat) (g : Nat → Int32) (z : Int32), a + 1 + q + r2 = k → Like k g (dI od a (dO od k zv a) q).1 → z = (dI od a (dO od k zv a) q).2 → ∀ (ls : Array Slot) (H : Heap) (locs : List Loc), va_P D cls [(h0, .inr (12, [.int (nI k), .int z, .ref h1, .ref h2, .ref h3, .ref h4, .ref h5, .ref h6, .ref h7, .ref h8, .int 0, .int 0, .int 0, .int 0, .int 0, .int 0, .ref h9, .ref h10, .ref h11, .ref h12, .ref h13, .ref h14, .ref h15, .int 0])), (h1, .inl (cI, 12, .inl g))] H → va_D A [(h0, .inr (12, [.int (nI k), .int z, .ref h1, .ref h2, .ref h3, .ref h4, .ref h5, .ref h6, .ref h7, .ref h8, .int 0, .int 0, .int 0, .int 0, .int 0, .int 0, .ref h9, .ref h10, .ref h11, .ref h12, .ref h13, .ref h14, .ref h15, .int 0])), (h1, .inl (cI, 12, .inl g))] → va_S A s.heap H locs → lv_has ls 5 [(4, .int (nI (a + 1 + q))), (3, .int (nI a)), (0, .ref h0), (1, .int (nI k)), (2, .int od)] → W p l e (headSpec wsX12_deals ({ frames := 1, cells := 0, slots := 0, locals := 40 })).room s m ([.ref h0, .int (nI k), .int od]).toArray below meth c H locs 0 0 (MQ below (QE (S := Nat → Int32) D [(h0, .inr (12, [.int mv, .int zv, .ref h1, .ref h2, .ref h3, .ref h4, .ref h5, .ref h6, .ref h7, .ref h8, .int 0, .int 0, .int 0, .int 0, .int 0, .int 0, .ref h9, .ref h10, .ref h11, .ref h12, .ref h13, .ref h14, .ref h15, .int 0])), (h1, .inl (cI, 12, .inl f))] (fun g => [(h0, .inr (12, [.int (nI k), .int ((dO od k zv k).2), .ref h1, .ref h2, .ref h3, .ref h4, .ref h5, .ref h6, .ref h7, .ref h8, .int 0, .int 0, .int 0, .int 0, .int 0, .int 0, .ref h9, .ref h10, .ref h11, .ref h12, .ref h13, .ref h14, .ref h15, .int 0])), (h1, .inl (cI, 12, .inl g))]) s.heap.size (fun g => Like k g (dO od k zv k).1)) ([.ref h0, .int (nI k), .int od]).toArray s 0 0 (va_A [(h0, .inr (12, [.int mv, .int zv, .ref h1, .ref h2, .ref h3, .ref h4, .ref h5, .ref h6, .ref h7, .ref h8, .int 0, .int 0, .int 0, .int 0, .int 0, .int 0, .ref h9, .ref h10, .ref h11, .ref h12, .ref h13, .ref h14, .ref h15, .int 0])), (h1, .inl (cI, 12, .inl f))] s.heap.size)) (F0 m 37 ls []) := by
        intro r2
        induction r2 with
        | zero =>
          intro q g z hq hg hz ls H locs hP hD hS hl
          refine lv_iload hx hb dX12_deals_37 (lv_at hl 0 rfl) ?_
          refine lv_iload_n hx hb dX12_deals_39 rfl (lv_at hl 3 rfl) ?_
          refine lv_icmp_ge (tgt := 68) hx hb dX12_deals_40 (by decide) (fun c5009 => ?_) (fun c5009 => ?_)
          · refine lv_iinc (v := (nI (a + 1))) (lv' := [(3, .int (nI (a + 1))), (4, .int (nI (a + 1 + q))), (0, .ref h0), (1, .int (nI k)), (2, .int od)]) hx hb dX12_deals_68 hl (k := 1) rfl (nI_1 _) (by decide) rfl (fun ls hl => ?_)
            refine lv_goto (tgt := 27) hx hb dX12_deals_71 (by decide) ?_
            exact ih (a + 1) g z (by omega) (by show Like k g (dI od a (dO od k zv a) (k - (a + 1))).1; rw [show k - (a + 1) = q by omega]; exact hg) (by show z = (dI od a (dO od k zv a) (k - (a + 1))).2; rw [show k - (a + 1) = q by omega]; exact hz) ls H locs hP hD hS (lv_sub hl [0, 2, 3, 4] rfl)
          · exact absurd (nI_le (show k ≤ a + 1 + q by omega) (by omega)) c5009
        | succ r2 ih2 =>
          intro q g z hq hg hz ls H locs hP hD hS hl
          refine lv_iload hx hb dX12_deals_37 (lv_at hl 0 rfl) ?_
          refine lv_iload_n hx hb dX12_deals_39 rfl (lv_at hl 3 rfl) ?_
          refine lv_icmp_ge (tgt := 68) hx hb dX12_deals_40 (by decide) (fun c5010 => ?_) (fun c5010 => ?_)
          · exact absurd c5010 (nI_ge (show a + 1 + q < k by omega) (by omega))
          · refine lv_aload_n hx hb dX12_deals_43 rfl (lv_at hl 2 rfl) ?_
            have hPc := hP.sub (ws' := [(h0, .inr (12, [.int (nI k), .int z, .ref h1, .ref h2, .ref h3, .ref h4, .ref h5, .ref h6, .ref h7, .ref h8, .int 0, .int 0, .int 0, .int 0, .int 0, .int 0, .ref h9, .ref h10, .ref h11, .ref h12, .ref h13, .ref h14, .ref h15, .int 0]))]) [0] rfl
            have hDc := hD.sub (ws' := [(h0, .inr (12, [.int (nI k), .int z, .ref h1, .ref h2, .ref h3, .ref h4, .ref h5, .ref h6, .ref h7, .ref h8, .int 0, .int 0, .int 0, .int 0, .int 0, .int 0, .ref h9, .ref h10, .ref h11, .ref h12, .ref h13, .ref h14, .ref h15, .int 0]))]) [0] (by decide) rfl
            refine lz_qi (wr := [(h1, .inl (cI, 12, .inl g))]) (w1 := [(h0, .inr (12, [.int (nI k), .int ((z * (1103515245 : Int32)) + (12345 : Int32)), .ref h1, .ref h2, .ref h3, .ref h4, .ref h5, .ref h6, .ref h7, .ref h8, .int 0, .int 0, .int 0, .int 0, .int 0, .int 0, .ref h9, .ref h10, .ref h11, .ref h12, .ref h13, .ref h14, .ref h15, .int 0]))]) (As := []) (rest := []) ⟨hx, hb, hml, hown, hts⟩ (c_X12_draw_0 l D cI cS _ h0 h1 h2 h3 h4 h5 h6 h7 h8 h9 h10 h11 h12 h13 h14 h15 (nI k) z) hKK hP hD hS hA [0] [1] (by decide) rfl rfl (by decide) (by decide) hPc hDc (ci := 12) rfl rfl (cwV 0 hts gX12_deals_X12_draw rfl rfl rfl (by decide +kernel) ⟨Nat.le_of_ble_eq_true rfl, Nat.le_of_ble_eq_true rfl⟩) rfl hl.1 rfl (Nat.le_of_ble_eq_true rfl) dX12_deals_44 ⟨Nat.le_of_ble_eq_true rfl, Nat.le_of_ble_eq_true rfl⟩ (fun r5011 H locs hw hP hD hS => ?_)
            have hP : va_P D cls [(h1, .inl (cI, 12, .inl g)), (h0, .inr (12, [.int (nI k), .int ((z * (1103515245 : Int32)) + (12345 : Int32)), .ref h1, .ref h2, .ref h3, .ref h4, .ref h5, .ref h6, .ref h7, .ref h8, .int 0, .int 0, .int 0, .int 0, .int 0, .int 0, .ref h9, .ref h10, .ref h11, .ref h12, .ref h13, .ref h14, .ref h15, .int 0]))] H := hP
            have hD : va_D A [(h1, .inl (cI, 12, .inl g)), (h0, .inr (12, [.int (nI k), .int ((z * (1103515245 : Int32)) + (12345 : Int32)), .ref h1, .ref h2, .ref h3, .ref h4, .ref h5, .ref h6, .ref h7, .ref h8, .int 0, .int 0, .int 0, .int 0, .int 0, .int 0, .ref h9, .ref h10, .ref h11, .ref h12, .ref h13, .ref h14, .ref h15, .int 0]))] := hD
            subst hw
            refine lz_top (y := zd z) rfl ?_
            have hP : va_P D cls [(h1, .inl (cI, 12, .inl g)), (h0, .inr (12, [.int (nI k), .int (zs z), .ref h1, .ref h2, .ref h3, .ref h4, .ref h5, .ref h6, .ref h7, .ref h8, .int 0, .int 0, .int 0, .int 0, .int 0, .int 0, .ref h9, .ref h10, .ref h11, .ref h12, .ref h13, .ref h14, .ref h15, .int 0]))] H := hP
            have hD : va_D A [(h1, .inl (cI, 12, .inl g)), (h0, .inr (12, [.int (nI k), .int (zs z), .ref h1, .ref h2, .ref h3, .ref h4, .ref h5, .ref h6, .ref h7, .ref h8, .int 0, .int 0, .int 0, .int 0, .int 0, .int 0, .ref h9, .ref h10, .ref h11, .ref h12, .ref h13, .ref h14, .ref h15, .int 0]))] := hD
            refine lv_bipush (v := 10) hx hb dX12_deals_47 (by decide) ?_
            refine lv_irem hx hb dX12_deals_49 (by decide) ?_
            refine lz_top (y := (zr z)) (rfl) ?_
            refine lv_iload_n hx hb dX12_deals_50 rfl (lv_at hl 4 rfl) ?_
            refine lv_icmp_ge (tgt := 62) hx hb dX12_deals_51 (by decide) (fun c5012 => ?_) (fun c5012 => ?_)
            · refine lv_iinc (v := (nI (a + 1 + (q + 1)))) (lv' := [(4, .int (nI (a + 1 + (q + 1)))), (3, .int (nI a)), (0, .ref h0), (1, .int (nI k)), (2, .int od)]) hx hb dX12_deals_62 hl (k := 0) rfl (nI_1 _) (by decide) rfl (fun ls hl => ?_)
              refine lv_goto (tgt := 37) hx hb dX12_deals_65 (by decide) ?_
              exact ih2 (q + 1) g (zs z) (by omega) (by show Like k g (dst od a (a + 1 + q) (dI od a (dO od k zv a) q)).1; unfold dst; rw [← hz, if_pos c5012]; exact hg) (by show zs z = zs (dI od a (dO od k zv a) q).2; rw [← hz]) ls H locs (hP.sub [1, 0] rfl) (hD.sub [1, 0] (by decide) rfl) hS hl
            · refine lv_aload_n hx hb dX12_deals_54 rfl (lv_at hl 2 rfl) ?_
              refine lv_iload_n hx hb dX12_deals_55 rfl (lv_at hl 1 rfl) ?_
              refine lv_iload hx hb dX12_deals_56 (lv_at hl 0 rfl) ?_
              refine lv_iconst (v := 1) hx hb dX12_deals_58 (by decide) ?_
              have hPc := hP.sub (ws' := [(h0, .inr (12, [.int (nI k), .int (zs z), .ref h1, .ref h2, .ref h3, .ref h4, .ref h5, .ref h6, .ref h7, .ref h8, .int 0, .int 0, .int 0, .int 0, .int 0, .int 0, .ref h9, .ref h10, .ref h11, .ref h12, .ref h13, .ref h14, .ref h15, .int 0])), (h1, .inl (cI, 12, .inl g))]) [1, 0] rfl
              have hDc := hD.sub (ws' := [(h0, .inr (12, [.int (nI k), .int (zs z), .ref h1, .ref h2, .ref h3, .ref h4, .ref h5, .ref h6, .ref h7, .ref h8, .int 0, .int 0, .int 0, .int 0, .int 0, .int 0, .ref h9, .ref h10, .ref h11, .ref h12, .ref h13, .ref h14, .ref h15, .int 0])), (h1, .inl (cI, 12, .inl g))]) [1, 0] (by decide) rfl
              refine lz_qv (wr := []) (w1 := [(h0, .inr (12, [.int (nI k), .int (zs z), .ref h1, .ref h2, .ref h3, .ref h4, .ref h5, .ref h6, .ref h7, .ref h8, .int 0, .int 0, .int 0, .int 0, .int 0, .int 0, .ref h9, .ref h10, .ref h11, .ref h12, .ref h13, .ref h14, .ref h15, .int 0])), (h1, .inl (cI, 12, .inl (lay1 g a (a + 1 + q))))]) (As := [.int (nI a), .int (nI (a + 1 + q)), .int 1]) (rest := []) ⟨hx, hb, hml, hown, hts⟩ (c_lays l D cI cS _ h0 h1 h2 h3 h4 h5 h6 h7 h8 h9 h10 h11 h12 h13 h14 h15 g (nI k) (zs z) a (a + 1 + q) (by omega) (by omega)) hKK hP hD hS hA [1, 0] [] (by decide) rfl rfl (by decide) (by decide) hPc hDc (ci := 12) rfl rfl (cwV 3 hts gX12_deals_X12_lays rfl rfl rfl (by decide +kernel) ⟨Nat.le_of_ble_eq_true rfl, Nat.le_of_ble_eq_true rfl⟩) rfl hl.1 rfl (Nat.le_of_ble_eq_true rfl) dX12_deals_59 ⟨Nat.le_of_ble_eq_true rfl, Nat.le_of_ble_eq_true rfl⟩ (fun H locs hP hD hS => ?_)
              have hP : va_P D cls [(h0, .inr (12, [.int (nI k), .int (zs z), .ref h1, .ref h2, .ref h3, .ref h4, .ref h5, .ref h6, .ref h7, .ref h8, .int 0, .int 0, .int 0, .int 0, .int 0, .int 0, .ref h9, .ref h10, .ref h11, .ref h12, .ref h13, .ref h14, .ref h15, .int 0])), (h1, .inl (cI, 12, .inl (lay1 g a (a + 1 + q))))] H := hP
              have hD : va_D A [(h0, .inr (12, [.int (nI k), .int (zs z), .ref h1, .ref h2, .ref h3, .ref h4, .ref h5, .ref h6, .ref h7, .ref h8, .int 0, .int 0, .int 0, .int 0, .int 0, .int 0, .ref h9, .ref h10, .ref h11, .ref h12, .ref h13, .ref h14, .ref h15, .int 0])), (h1, .inl (cI, 12, .inl (lay1 g a (a + 1 + q))))] := hD
              refine lv_iinc (v := (nI (a + 1 + (q + 1)))) (lv' := [(4, .int (nI (a + 1 + (q + 1)))), (3, .int (nI a)), (0, .ref h0), (1, .int (nI k)), (2, .int od)]) hx hb dX12_deals_62 hl (k := 0) rfl (nI_1 _) (by decide) rfl (fun ls hl => ?_)
              refine lv_goto (tgt := 37) hx hb dX12_deals_65 (by decide) ?_
              exact ih2 (q + 1) (lay1 g a (a + 1 + q)) (zs z) (by omega) (by show Like k (lay1 g a (a + 1 + q)) (dst od a (a + 1 + q) (dI od a (dO od k zv a) q)).1; unfold dst; rw [← hz, if_neg c5012]; exact hg.lay (by omega) (by omega)) (by show zs z = zs (dI od a (dO od k zv a) q).2; rw [← hz]) ls H locs (hP.sub [0, 1] rfl) (hD.sub [0, 1] (by decide) rfl) hS hl
      refine lv_iload_n hx hb dX12_deals_27 rfl (lv_at hl 0 rfl) ?_
      refine lv_iload_n hx hb dX12_deals_28 rfl (lv_at hl 2 rfl) ?_
      refine lv_icmp_ge (tgt := 74) hx hb dX12_deals_29 (by decide) (fun c5013 => ?_) (fun c5013 => ?_)
      · exact absurd c5013 (nI_ge (show a < k by omega) (by omega))
      · refine lv_iload_n hx hb dX12_deals_32 rfl (lv_at hl 0 rfl) ?_
        refine lv_iconst (v := 1) hx hb dX12_deals_33 (by decide) ?_
        refine lv_iadd hx hb dX12_deals_34 ?_
        refine lz_top (y := (nI (a + 1))) (nI_1 _) ?_
        refine lv_istore (lv' := [(4, .int (nI (a + 1))), (3, .int (nI a)), (0, .ref h0), (1, .int (nI k)), (2, .int od)]) hx hb dX12_deals_35 hl (by decide) rfl (fun ls hl => ?_)
        exact l3 r 0 g z (by omega) hg hz ls H locs hP hD hS hl
  have l1 : ∀ (r i : Nat) (g : Nat → Int32), i + r = k → (∀ j, j < i → g j = 0) → ∀ (ls : Array Slot) (H : Heap) (locs : List Loc), va_P D cls [(h0, .inr (12, [.int (nI k), .int zv, .ref h1, .ref h2, .ref h3, .ref h4, .ref h5, .ref h6, .ref h7, .ref h8, .int 0, .int 0, .int 0, .int 0, .int 0, .int 0, .ref h9, .ref h10, .ref h11, .ref h12, .ref h13, .ref h14, .ref h15, .int 0])), (h1, .inl (cI, 12, .inl g))] H → va_D A [(h0, .inr (12, [.int (nI k), .int zv, .ref h1, .ref h2, .ref h3, .ref h4, .ref h5, .ref h6, .ref h7, .ref h8, .int 0, .int 0, .int 0, .int 0, .int 0, .int 0, .ref h9, .ref h10, .ref h11, .ref h12, .ref h13, .ref h14, .ref h15, .int 0])), (h1, .inl (cI, 12, .inl g))] → va_S A s.heap H locs → lv_has ls 5 [(3, .int (nI i)), (0, .ref h0), (1, .int (nI k)), (2, .int od)] → W p l e (headSpec wsX12_deals ({ frames := 1, cells := 0, slots := 0, locals := 40 })).room s m ([.ref h0, .int (nI k), .int od]).toArray below meth c H locs 0 0 (MQ below (QE (S := Nat → Int32) D [(h0, .inr (12, [.int mv, .int zv, .ref h1, .ref h2, .ref h3, .ref h4, .ref h5, .ref h6, .ref h7, .ref h8, .int 0, .int 0, .int 0, .int 0, .int 0, .int 0, .ref h9, .ref h10, .ref h11, .ref h12, .ref h13, .ref h14, .ref h15, .int 0])), (h1, .inl (cI, 12, .inl f))] (fun g => [(h0, .inr (12, [.int (nI k), .int ((dO od k zv k).2), .ref h1, .ref h2, .ref h3, .ref h4, .ref h5, .ref h6, .ref h7, .ref h8, .int 0, .int 0, .int 0, .int 0, .int 0, .int 0, .ref h9, .ref h10, .ref h11, .ref h12, .ref h13, .ref h14, .ref h15, .int 0])), (h1, .inl (cI, 12, .inl g))]) s.heap.size (fun g => Like k g (dO od k zv k).1)) ([.ref h0, .int (nI k), .int od]).toArray s 0 0 (va_A [(h0, .inr (12, [.int mv, .int zv, .ref h1, .ref h2, .ref h3, .ref h4, .ref h5, .ref h6, .ref h7, .ref h8, .int 0, .int 0, .int 0, .int 0, .int 0, .int 0, .ref h9, .ref h10, .ref h11, .ref h12, .ref h13, .ref h14, .ref h15, .int 0])), (h1, .inl (cI, 12, .inl f))] s.heap.size)) (F0 m 7 ls []) := by
    intro r
    induction r with
    | zero =>
      intro i g hi hg ls H locs hP hD hS hl
      refine lv_iload_n hx hb dX12_deals_7 rfl (lv_at hl 0 rfl) ?_
      refine lv_iload_n hx hb dX12_deals_8 rfl (lv_at hl 2 rfl) ?_
      refine lv_icmp_ge (tgt := 25) hx hb dX12_deals_9 (by decide) (fun c5014 => ?_) (fun c5014 => ?_)
      · refine lv_iconst (v := 0) hx hb dX12_deals_25 (by decide) ?_
        refine lv_istore_n (lv' := [(3, .int 0), (0, .ref h0), (1, .int (nI k)), (2, .int od)]) hx hb dX12_deals_26 rfl hl (by decide) rfl (fun ls hl => ?_)
        exact l2 k 0 g zv (by omega) (fun j hj => by rw [hg j (by omega)]; rfl) rfl ls H locs hP hD hS (by rw [nI_0]; exact hl)
      · exact absurd (nI_le (show k ≤ i by omega) (by omega)) c5014
    | succ r ih =>
      intro i g hi hg ls H locs hP hD hS hl
      refine lv_iload_n hx hb dX12_deals_7 rfl (lv_at hl 0 rfl) ?_
      refine lv_iload_n hx hb dX12_deals_8 rfl (lv_at hl 2 rfl) ?_
      refine lv_icmp_ge (tgt := 25) hx hb dX12_deals_9 (by decide) (fun c5015 => ?_) (fun c5015 => ?_)
      · exact absurd c5015 (nI_ge (show i < k by omega) (by omega))
      · refine lv_aload_n hx hb dX12_deals_12 rfl (lv_at hl 1 rfl) ?_
        refine va_get (D := D) (ci := 12) (v := .ref h1) (C := RX12) (T := TX12) (N := 24) hx hb hts hin12 hown hK hP 0 rfl rfl 2 (by decide) (hts (.fieldLink RX12 13 "MissedPointsModel" "near" "[I") (by decide +kernel)) (fun _ h9 => h9) rfl dX12_deals_13 ?_
        refine lv_iload_n hx hb dX12_deals_16 rfl (lv_at hl 0 rfl) ?_
        refine lv_iconst (v := 0) hx hb dX12_deals_17 (by decide) ?_
        refine lz_ast hx hb hK hP hD hS 1 0 rfl rfl i ⟨by omega, Nat.le_of_ble_eq_true rfl⟩ dX12_deals_18 (fun H locs hP hD hS => ?_)
        have hP : va_P D cls [(h0, .inr (12, [.int (nI k), .int zv, .ref h1, .ref h2, .ref h3, .ref h4, .ref h5, .ref h6, .ref h7, .ref h8, .int 0, .int 0, .int 0, .int 0, .int 0, .int 0, .ref h9, .ref h10, .ref h11, .ref h12, .ref h13, .ref h14, .ref h15, .int 0])), (h1, .inl (cI, 12, .inl (upd g i 0)))] H := hP
        have hD : va_D A [(h0, .inr (12, [.int (nI k), .int zv, .ref h1, .ref h2, .ref h3, .ref h4, .ref h5, .ref h6, .ref h7, .ref h8, .int 0, .int 0, .int 0, .int 0, .int 0, .int 0, .ref h9, .ref h10, .ref h11, .ref h12, .ref h13, .ref h14, .ref h15, .int 0])), (h1, .inl (cI, 12, .inl (upd g i 0)))] := hD
        refine lv_iinc (v := (nI (i + 1))) (lv' := [(3, .int (nI (i + 1))), (0, .ref h0), (1, .int (nI k)), (2, .int od)]) hx hb dX12_deals_19 hl (k := 0) rfl (nI_1 _) (by decide) rfl (fun ls hl => ?_)
        refine lv_goto (tgt := 7) hx hb dX12_deals_22 (by decide) ?_
        exact ih (i + 1) (upd g i 0) (by omega) (fun j hj => by simp only [upd]; split <;> first | rfl | exact hg j (by omega)) ls H locs hP hD hS hl
  refine lv_aload_n hx hb dX12_deals_0 rfl (lv_at hl 0 rfl) ?_
  refine lv_iload_n hx hb dX12_deals_1 rfl (lv_at hl 1 rfl) ?_
  refine va_put (D := D) (ci := 12) (v := .int (nI k)) (ty := .int) (C := RX12) (T := TX12) (N := 24) hx hb hts hin12 tyX12 tyX12_ok nmX12 hown hK hP hD hS 0 rfl rfl 0 (by decide) (hts (.fieldLink RX12 63 "MissedPointsModel" "many" "I") (by decide +kernel)) (fun _ h9 => h9) rfl (by decide +kernel) rfl rfl (Nat.le_of_ble_eq_true rfl) dX12_deals_2 (fun H locs hP hD hS => ?_)
  have hP : va_P D cls [(h0, .inr (12, [.int (nI k), .int zv, .ref h1, .ref h2, .ref h3, .ref h4, .ref h5, .ref h6, .ref h7, .ref h8, .int 0, .int 0, .int 0, .int 0, .int 0, .int 0, .ref h9, .ref h10, .ref h11, .ref h12, .ref h13, .ref h14, .ref h15, .int 0])), (h1, .inl (cI, 12, .inl f))] H := hP
  have hD : va_D A [(h0, .inr (12, [.int (nI k), .int zv, .ref h1, .ref h2, .ref h3, .ref h4, .ref h5, .ref h6, .ref h7, .ref h8, .int 0, .int 0, .int 0, .int 0, .int 0, .int 0, .ref h9, .ref h10, .ref h11, .ref h12, .ref h13, .ref h14, .ref h15, .int 0])), (h1, .inl (cI, 12, .inl f))] := hD
  refine lv_iconst (v := 0) hx hb dX12_deals_5 (by decide) ?_
  refine lv_istore_n (lv' := [(3, .int 0), (0, .ref h0), (1, .int (nI k)), (2, .int od)]) hx hb dX12_deals_6 rfl hl (by decide) rfl (fun ls hl => ?_)
  exact l1 k 0 f (by omega) (fun j hj => absurd hj (by omega)) ls H locs hP hD hS (by rw [nI_0]; exact hl)
